/-! bits of the words that are made, as ints -/
theorem pw_band (a b : Bool) : nI a.toNat &&& nI b.toNat = nI (a && b).toNat := by cases a <;> cases b <;> decide
theorem pw_bor (a b : Bool) : nI a.toNat ||| nI b.toNat = nI (a || b).toNat := by cases a <;> cases b <;> decide
theorem pw_bxor (a b : Bool) : nI a.toNat ^^^ nI b.toNat = nI (a ^^ b).toNat := by cases a <;> cases b <;> decide
theorem pw_bnot (a : Bool) : nI 1 - nI a.toNat = nI (!a).toNat := by cases a <;> decide
theorem pw_bhalf (a : Bool) (n : Nat) : nI a.toNat &&& (nI n ^^^ (-1)) = nI (a && decide (n % 2 = 0)).toNat := by
  have h : ∀ x : Int32, nI 1 &&& (x ^^^ (-1)) = nI 1 - (x &&& nI 1) := by
    intro x
    apply Int32.toBitVec_inj.mp
    rw [Int32.toBitVec_and, Int32.toBitVec_xor, Int32.toBitVec_sub, Int32.toBitVec_and]
    show 1#32 &&& (x.toBitVec ^^^ BitVec.allOnes 32) = 1#32 - (x.toBitVec &&& 1#32)
    generalize x.toBitVec = y
    rw [BitVec.and_one_eq_setWidth_ofBool_getLsbD]
    have e : 1#32 &&& (y ^^^ BitVec.allOnes 32) = BitVec.setWidth 32 (BitVec.ofBool ((y ^^^ BitVec.allOnes 32).getLsbD 0)) := by rw [BitVec.and_comm, BitVec.and_one_eq_setWidth_ofBool_getLsbD]
    rw [e, BitVec.getLsbD_xor, BitVec.getLsbD_allOnes]
    cases y.getLsbD 0 <;> decide
  cases a
  · show nI 0 &&& _ = nI 0
    apply Int32.toBitVec_inj.mp
    rw [Int32.toBitVec_and]
    show 0#32 &&& _ = 0#32
    exact BitVec.zero_and
  · show nI 1 &&& _ = _
    rw [h, pq_and1]
    rcases Nat.mod_two_eq_zero_or_one n with z | z
    · rw [z, decide_eq_true rfl]; decide
    · rw [z, decide_eq_false (by decide)]; decide
theorem pw_lt2 (b : Bool) : b.toNat < 2 := by cases b <;> decide
theorem pw_mk0 (f g : Nat → Bool) (d : Nat) : pw_mk 0 f g d = pw_and f g := rfl
theorem pw_mk1 (f g : Nat → Bool) (d : Nat) : pw_mk 1 f g d = pw_or f g := rfl
theorem pw_mk2 (f g : Nat → Bool) (d : Nat) : pw_mk 2 f g d = pw_xor f g := rfl
theorem pw_mk3 (f g : Nat → Bool) (d : Nat) : pw_mk 3 f g d = pw_not f := rfl
theorem pw_mk4 (f g : Nat → Bool) (d : Nat) : pw_mk 4 f g d = pw_on f g := rfl
theorem pw_mk5 (f g : Nat → Bool) (d : Nat) : pw_mk 5 f g d = pw_by f g := rfl
theorem pw_mk6 (f g : Nat → Bool) (d : Nat) : pw_mk 6 f g d = pw_late f d := rfl
theorem pw_mk7 (f g : Nat → Bool) (d : Nat) : pw_mk 7 f g d = pw_half f := rfl
/-- a draft: its cell, and its two words -/
abbrev dr (dd a a2 hd rd how late : Nat) : va_W := [(dd, .inr (ciD, [.int (nI hd), .int (nI rd), .int (nI how), .ref a, .ref a2, .int (nI late)]))]
/-- the register of the last 60 bits, and of the lengths that are left -/
theorem pw_reg_put {y : Nat} {b : Bool} : ∃ z, z < 2 ^ 64 ∧ (lN y <<< ((nI 1).toInt64 &&& 63)) ||| lN b.toNat = lN z ∧ z.testBit 0 = b ∧ ∀ j, j + 1 < 64 → z.testBit (j + 1) = y.testBit j := by
  obtain ⟨z, h1, h2, h3, h4⟩ := pq_lsb2 (y := y) (pw_lt2 b)
  refine ⟨z, h1, h2, ?_, h4⟩
  rw [h3]
  cases b <;> rfl
theorem pw_toL (b : Bool) : (nI b.toNat).toInt64 = lN b.toNat := nI_l (by have := pw_lt2 b; omega)
def pw_past (F : Nat → Bool) (s y : Nat) : Prop := y < 2 ^ 64 ∧ ∀ j, j < 60 → j < s → y.testBit j = F (s - 1 - j)
def pw_len (F : Nat → Bool) (hd i x : Nat) : Prop := x < 2 ^ 60 ∧ ∀ j, j < 60 → (x.testBit j = true ↔ ∀ k, k < i → F (hd + 60 + k) = F (hd + 60 + k - (j + 1)))
theorem pw_past_s {F : Nat → Bool} {s y z : Nat} (h : pw_past F s y) (h1 : z < 2 ^ 64) (h3 : z.testBit 0 = F s) (h4 : ∀ j, j + 1 < 64 → z.testBit (j + 1) = y.testBit j) : pw_past F (s + 1) z := by
  refine ⟨h1, ?_⟩
  intro j hj hs
  cases j with
  | zero => rw [h3]; rfl
  | succ j =>
    rw [h4 j (by omega), h.2 j (by omega) (by omega)]
    congr 1
    omega
theorem pw_len_0 (F : Nat → Bool) (hd : Nat) : pw_len F hd 0 (2 ^ 60 - 1) := by
  refine ⟨by decide, ?_⟩
  intro j hj
  rw [Nat.testBit_two_pow_sub_one, decide_eq_true hj]
  exact ⟨fun _ k hk => absurd hk (Nat.not_lt_zero k), fun _ => rfl⟩
theorem pw_len_s {F : Nat → Bool} {hd i x y m : Nat} (h : pw_len F hd i x) (hy : pw_past F (hd + 60 + i) y) (hm : m = if F (hd + 60 + i) = true then y else 2 ^ 64 - (y + 1)) : m < 2 ^ 64 ∧ lN x &&& lN m = lN (x &&& m) ∧ pw_len F hd (i + 1) (x &&& m) := by
  have hx64 : x < 2 ^ 64 := Nat.lt_trans h.1 (by decide)
  have hm64 : m < 2 ^ 64 := by
    have := hy.1
    rw [hm]
    split <;> omega
  refine ⟨hm64, wb_and hx64 hm64, Nat.lt_of_le_of_lt Nat.and_le_left h.1, ?_⟩
  intro j hj
  have hb : m.testBit j = true ↔ F (hd + 60 + i) = F (hd + 60 + i - (j + 1)) := by
    have e := hy.2 j hj (by omega)
    rw [show hd + 60 + i - 1 - j = hd + 60 + i - (j + 1) by omega] at e
    rw [hm]
    by_cases q : F (hd + 60 + i) = true
    · rw [if_pos q, e, q]
      exact ⟨fun z => z.symm, fun z => z.symm⟩
    · rw [if_neg q, Nat.testBit_two_pow_sub_succ hy.1, e, decide_eq_true (by omega)]
      have q' : F (hd + 60 + i) = false := by
        cases z : F (hd + 60 + i)
        · rfl
        · exact absurd z q
      rw [q']
      cases F (hd + 60 + i - (j + 1)) <;> simp
  rw [Nat.testBit_and, Bool.and_eq_true, h.2 j hj, hb]
  constructor
  · rintro ⟨z1, z2⟩ k hk
    rcases Nat.lt_or_ge k i with q | q
    · exact z1 k q
    · have : k = i := by omega
      subst this
      exact z2
  · intro z
    exact ⟨fun k hk => z k (by omega), z i (by omega)⟩
/-- what is left behind a whole round are the lengths that come back -/
theorem pw_len_E {F : Nat → Bool} {hd R x : Nat} (hR : 0 < R) (E : pw_E F hd R) (h : pw_len F hd R x) {j : Nat} (hj : j < 60) : x.testBit j = true ↔ pw_E F hd (j + 1) := by
  rw [h.2 j hj]
  constructor
  · intro z t ht
    -- t moved into the round that was looked at
    have hk := Nat.mod_add_div (t + (j + 1) + 60 * R - (hd + 60)) R
    have hlt := Nat.mod_lt (t + (j + 1) + 60 * R - (hd + 60)) hR
    rw [Nat.mul_comm R] at hk
    have h60 : 60 ≤ 60 * R := Nat.le_mul_of_pos_right 60 hR
    generalize hkk : (t + (j + 1) + 60 * R - (hd + 60)) % R = k at hk hlt
    generalize (t + (j + 1) + 60 * R - (hd + 60)) / R = q at hk
    have a := z k hlt
    have e1 := pw_E_mul E q (hd + 60 + k) (by omega)
    have e2 := pw_E_mul E q (hd + 60 + k - (j + 1)) (by omega)
    have e3 := pw_E_mul E 60 (t + (j + 1)) (by omega)
    have e4 := pw_E_mul E 60 t ht
    have t1 : hd + 60 + k + q * R = t + (j + 1) + 60 * R := by omega
    have t2 : hd + 60 + k - (j + 1) + q * R = t + 60 * R := by omega
    rw [t1] at e1
    rw [t2] at e2
    rw [← e3, ← e4, e1, e2, a]
  · intro Ej k _
    have a := Ej (hd + 60 + k - (j + 1)) (by omega)
    rw [← a]
    congr 1
    omega
theorem pw_len_R {F : Nat → Bool} {hd i R x : Nat} (h : pw_len F hd i x) (hx : i = R ∨ x = 0) : pw_len F hd R x ∨ x = 0 := by
  rcases hx with rfl | hx
  · exact Or.inl h
  · exact Or.inr hx
theorem pw_len_none {F : Nat → Bool} {hd i R x : Nat} (hR : 0 < R) (hi : i ≤ R) (E : pw_E F hd R) (h : pw_len F hd i x) (hx : x = 0) : ∀ q, 0 < q → q ≤ 60 → ¬ pw_E F hd q := by
  intro q h0 hq Eq
  have a := (h.2 (q - 1) (by omega)).mpr (fun k _ => by
    have a := Eq (hd + 60 + k - (q - 1 + 1)) (by omega)
    rw [← a]
    congr 1
    omega)
  rw [hx, Nat.zero_testBit] at a
  cases a
theorem pw_low_ex {x : Nat} (hx : x < 2 ^ 60) (h0 : x ≠ 0) : ∃ k, k < 60 ∧ x.testBit k = true ∧ ∀ j, j < k → x.testBit j = false := by
  obtain ⟨i, hi⟩ : ∃ i, x.testBit i = true := by
    rcases Classical.em (∃ i, x.testBit i = true) with h | h
    · exact h
    · exfalso
      apply h0
      apply Nat.eq_of_testBit_eq
      intro i
      rw [Nat.zero_testBit]
      cases z : x.testBit i
      · rfl
      · exact absurd ⟨i, z⟩ h
  obtain ⟨k, hk, hl⟩ := pk_least (fun k => x.testBit k = true) ⟨i, hi⟩
  refine ⟨k, ?_, hk, ?_⟩
  · rcases Nat.lt_or_ge k 60 with z | z
    · exact z
    · rw [Nat.testBit_lt_two_pow (Nat.lt_of_lt_of_le hx (Nat.pow_le_pow_right (by decide) z))] at hk
      cases hk
  · intro j hj
    cases z : x.testBit j
    · rfl
    · exact absurd z (hl j hj)
theorem pw_bor64 {F : Nat → Bool} {u i : Nat} (hi : i < 60) : lN (pw_b F u i) ||| lN ((F (u + i)).toNat * 2 ^ i) = lN (pw_b F u i + (F (u + i)).toNat * 2 ^ i) := by
  have h1 := pw_b_lt F u i
  have h2 := pw_b_lt F u (i + 1)
  rw [pw_b_s] at h2
  exact g_or' rfl h1 (Nat.lt_trans h2 (Nat.pow_lt_pow_right (by decide) (by omega)))
theorem pw_tnI {a b : Bool} (h : a.toNat = b.toNat) : a = b := by cases a <;> cases b <;> first | rfl | (exact absurd h (by decide))
theorem pw_on_0 {f g : Nat → Bool} {d t : Nat} (h : (f t).toNat = 0) : nI 0 = nI (pw_mk 4 f g d t).toNat := by
  have z : f t = false := by
    rcases pw_bt (f t) with q | q
    · omega
    · exact q.2
  show nI 0 = nI (f t && g (pw_c f t)).toNat
  rw [z]
  rfl
theorem pw_on_1 {f g : Nat → Bool} {d t : Nat} (h : 0 < (f t).toNat) : nI (g (pw_c f t)).toNat = nI (pw_mk 4 f g d t).toNat := by
  have z : f t = true := by
    rcases pw_bt (f t) with q | q
    · exact q.2
    · omega
  show _ = nI (f t && g (pw_c f t)).toNat
  rw [z]
  rfl
theorem pw_E_dn {F : Nat → Bool} {x rg : Nat} (E : pw_E F x rg) (h : (F (x - 1)).toNat = (F (x - 1 + rg)).toNat) : pw_E F (x - 1) rg := by
  intro t ht
  rcases Nat.lt_or_ge t x with y | y
  · rw [show t = x - 1 by omega]
    exact (pw_tnI h).symm
  · exact E t y
theorem pw_t1 {b : Bool} (h : b.toNat = 1) : b = true := by cases b <;> first | rfl | (exact absurd h (by decide))
theorem pw_t0 {b : Bool} (h : b.toNat ≠ 1) : ¬ b = true := by cases b <;> first | decide | (exact absurd rfl h)
theorem pw_reg1 {F : Nat → Bool} {hd i y z : Nat} (hi : i ≤ 60) (h60 : i < 60) (h : y < 2 ^ 64 ∧ ∀ j, j < i → y.testBit j = F (hd + i - 1 - j)) (h1 : z < 2 ^ 64) (h3 : z.testBit 0 = F (hd + i)) (h4 : ∀ j, j + 1 < 64 → z.testBit (j + 1) = y.testBit j) : z < 2 ^ 64 ∧ ∀ j, j < i + 1 → z.testBit j = F (hd + (i + 1) - 1 - j) := by
  refine ⟨h1, ?_⟩
  intro j hj
  cases j with
  | zero => rw [h3]; rfl
  | succ j =>
    rw [h4 j (by omega), h.2 j (by omega)]
    congr 1
    omega
theorem pw_reg2 {F : Nat → Bool} {hd i y : Nat} (hi : i = 60) (h : y < 2 ^ 64 ∧ ∀ j, j < i → y.testBit j = F (hd + i - 1 - j)) : pw_past F (hd + 60 + 0) y := by
  subst hi
  exact ⟨h.1, fun j hj _ => h.2 j hj⟩
theorem pw_len_full {F : Nat → Bool} {hd i R x : Nat} (hi : i ≤ R) (h : pw_len F hd i x) (h0 : x ≠ 0) (hx : R ≤ i ∨ x = 0) : pw_len F hd R x := by
  have : i = R := by omega
  rw [← this]
  exact h
theorem pw_len_min {F : Nat → Bool} {hd R x k : Nat} (hR : 0 < R) (E : pw_E F hd R) (h : pw_len F hd R x) (hk : k < 60) (hl : ∀ j, j < k → x.testBit j = false) : ∀ q, 0 < q → q < k + 1 → ¬ pw_E F hd q := by
  intro q h0 hq Eq
  have a := (pw_len_E hR E h (j := q - 1) (by omega)).mpr (by rw [show q - 1 + 1 = q by omega]; exact Eq)
  rw [hl (q - 1) (by omega)] at a
  cases a
/-- the class's own cells: the object, the array of words -/
abbrev pwc (o q n : Nat) (cW : ClassId) (wa : Nat → Option Nat) : va_W := [(o, .inr (ciP, [.ref q, .int (nI n)])), (q, .inl (cW, 40, .inr (.inr (.inr (.inr wa)))))]
