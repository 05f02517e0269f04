/-! the lowest 1 of a long; a long as a register of bits -/
theorem pw_low_split {x k : Nat} (hk : x.testBit k = true) (hl : ∀ j, j < k → x.testBit j = false) : ∃ m, x = 2 ^ k * (2 * m + 1) := by
  have h0 : x % 2 ^ k = 0 := by
    apply Nat.eq_of_testBit_eq
    intro i
    rw [Nat.testBit_mod_two_pow, Nat.zero_testBit]
    rcases Nat.lt_or_ge i k with q | q
    · rw [hl i q, Bool.and_false]
    · rw [decide_eq_false (by omega), Bool.false_and]
  have h1 : x / 2 ^ k % 2 = 1 := by rw [pq_bitN, hk]; rfl
  refine ⟨x / 2 ^ k / 2, ?_⟩
  have e := Nat.mod_add_div x (2 ^ k)
  rw [h0, Nat.zero_add] at e
  have e2 : 2 * (x / 2 ^ k / 2) + 1 = x / 2 ^ k := by omega
  rw [e2, e]
theorem pw_low {x k : Nat} (hx : x < 2 ^ 64) (hk : x.testBit k = true) (hl : ∀ j, j < k → x.testBit j = false) : x &&& (2 ^ 64 - x) = 2 ^ k := by
  obtain ⟨m, hm⟩ := pw_low_split hk hl
  have hp : 0 < 2 ^ k := Nat.two_pow_pos k
  have h1 : 0 < x := by rw [hm]; exact Nat.mul_pos hp (by omega)
  have hy : x - 1 = 2 ^ k * (2 * m) + (2 ^ k - 1) := by rw [hm, Nat.mul_add]; omega
  have e : 2 ^ 64 - x = 2 ^ 64 - ((x - 1) + 1) := by omega
  apply Nat.eq_of_testBit_eq
  intro i
  rw [Nat.testBit_and, e, Nat.testBit_two_pow_sub_succ (by omega), hy, Nat.testBit_two_pow_mul_add _ (by omega), Nat.testBit_two_pow]
  rcases Nat.lt_trichotomy i k with q | q | q
  · rw [hl i q, Bool.false_and, decide_eq_false (by omega)]
  · subst q
    have hi : i < 64 := by
      rcases Nat.lt_or_ge i 64 with z | z
      · exact z
      · rw [Nat.testBit_lt_two_pow (Nat.lt_of_lt_of_le hx (Nat.pow_le_pow_right (by decide) z))] at hk
        cases hk
    rw [hk, if_neg (by omega), Nat.sub_self, decide_eq_true hi, decide_eq_true rfl]
    simp
  · rw [if_neg (by omega), decide_eq_false (show ¬ k = i by omega)]
    have a : x.testBit i = (2 * m).testBit (i - k) := by
      rw [hm, show 2 ^ k * (2 * m + 1) = 2 ^ k * (2 * m + 1) + 0 by omega, Nat.testBit_two_pow_mul_add _ hp, if_neg (by omega)]
      obtain ⟨j, hj⟩ : ∃ j, i - k = j + 1 := ⟨i - k - 1, by omega⟩
      rw [hj, Nat.testBit_succ, Nat.testBit_succ]
      congr 1
      omega
    rw [a]
    cases (2 * m).testBit (i - k) <;> simp
theorem pw_ones (k : Nat) (hk : k ≤ 64) : pw_p (2 ^ k - 1) 64 = k := by
  have h : ∀ n, pw_c (fun i => (2 ^ k - 1).testBit i) n = min n k := by
    intro n
    induction n with
    | zero => rw [Nat.zero_min]; rfl
    | succ n ih =>
      rw [pw_c_s, ih]
      show min n k + ((2 ^ k - 1).testBit n).toNat = _
      rw [Nat.testBit_two_pow_sub_one]
      rcases Nat.lt_or_ge n k with q | q
      · rw [decide_eq_true q]; show min n k + 1 = _; omega
      · rw [decide_eq_false (by omega)]; show min n k + 0 = _; omega
  unfold pw_p
  rw [h]
  omega
theorem pq_neg {x : Nat} (hx : x < 2 ^ 64) : -(lN x) = lN (2 ^ 64 - x) := by
  apply wb_inj
  rw [Int64.toBitVec_neg, wb_tb, wb_tb]
  apply BitVec.eq_of_toNat_eq
  rw [BitVec.toNat_neg, BitVec.toNat_ofNat, BitVec.toNat_ofNat, Nat.mod_eq_of_lt hx]
theorem pq_not {y : Nat} (hy : y < 2 ^ 64) : lN y ^^^ (-1) = lN (2 ^ 64 - (y + 1)) := by
  apply wb_inj
  rw [Int64.toBitVec_xor, wb_tb, wb_tb]
  apply BitVec.eq_of_getLsbD_eq
  intro i hi
  have ha : (-1 : Int64).toBitVec = BitVec.allOnes 64 := by decide
  rw [ha, BitVec.getLsbD_xor, BitVec.getLsbD_allOnes, BitVec.getLsbD_ofNat, BitVec.getLsbD_ofNat, Nat.testBit_two_pow_sub_succ hy, decide_eq_true hi]
  cases y.testBit i <;> rfl
theorem pq_lsb2 {y b : Nat} (hb : b < 2) : ∃ z, z < 2 ^ 64 ∧ (lN y <<< ((nI 1).toInt64 &&& 63)) ||| lN b = lN z ∧ z.testBit 0 = decide (b = 1) ∧ ∀ j, j + 1 < 64 → z.testBit (j + 1) = y.testBit j := by
  have h2 : b < 2 ^ 64 := Nat.lt_of_lt_of_le hb (by decide)
  have h1 : y * 2 ^ 1 % 2 ^ 64 < 2 ^ 64 := Nat.mod_lt _ (by decide)
  refine ⟨(y * 2 ^ 1 % 2 ^ 64) ||| b, Nat.or_lt_two_pow h1 h2, ?_, ?_, ?_⟩
  · rw [wb_shl y (show 1 < 64 by decide), wb_mod (y * 2 ^ 1), wb_or h1 h2]
  · rw [Nat.testBit_or, Nat.testBit_mod_two_pow, ← Nat.shiftLeft_eq, Nat.testBit_shiftLeft]
    rcases (show b = 0 ∨ b = 1 by omega) with rfl | rfl <;> simp
  · intro j hj
    rw [Nat.testBit_or, Nat.testBit_mod_two_pow, ← Nat.shiftLeft_eq, Nat.testBit_shiftLeft, decide_eq_true hj]
    have hbj : b.testBit (j + 1) = false := Nat.testBit_lt_two_pow (Nat.lt_of_lt_of_le hb (Nat.pow_le_pow_right (n := 2) (i := 1) (by decide) (by omega)))
    rw [hbj]
    simp
