/-! longs that are Nats, and their bits -/
theorem pq_bitN (n t : Nat) : n / 2 ^ t % 2 = (n.testBit t).toNat := by
  rw [Nat.testBit_eq_decide_div_mod_eq]
  have := Nat.mod_lt (n / 2 ^ t) (show 0 < 2 by decide)
  rcases Nat.lt_or_ge (n / 2 ^ t % 2) 1 with h | h
  · rw [decide_eq_false (by omega)]; show _ = 0; omega
  · rw [decide_eq_true (by omega)]; show _ = 1; omega
theorem pq_and1 (a : Nat) : nI a &&& nI 1 = nI (a % 2) := by rw [nx_and, Nat.and_one_is_mod]
theorem pq_lushr {n k : Nat} (hn : n < 2 ^ 64) (hk : k < 64) : ((lN n).toUInt64 >>> ((nI k).toInt64.toUInt64 &&& Int64.toUInt64 63)).toInt64 = lN (n / 2 ^ k) := wb_shr hn hk
theorem pq_sm : ∀ k, k < 64 → (((nI k).toInt64 &&& 63).toBitVec.smod 64).toNat = k := by decide +kernel
theorem pq_lshr {n k : Nat} (hn : n < 2 ^ 62) (hk : k < 64) : lN n >>> ((nI k).toInt64 &&& 63) = lN (n / 2 ^ k) := pf_shr (pq_sm k hk) hn
theorem pq_lshl (n : Nat) {k : Nat} (hk : k < 64) : lN n <<< ((nI k).toInt64 &&& 63) = lN (n * 2 ^ k) := wb_shl n hk
theorem pq_p60 : (2 : Nat) ^ 60 < 2 ^ 62 ∧ (2 : Nat) ^ 60 < 2 ^ 64 := by decide
theorem pq_lt60 {n k : Nat} (h : n < 2 ^ k) (hk : k ≤ 60) : n < 2 ^ 60 := Nat.lt_of_lt_of_le h (Nat.pow_le_pow_right (by decide) hk)
theorem pq_d {n k : Nat} (hn : n < 2 ^ 60) : n / 2 ^ k < 2 ^ 60 := Nat.lt_of_le_of_lt (Nat.div_le_self _ _) hn
theorem pq_cmpN {a b : Nat} (ha : a < 2 ^ 63) (hb : b < 2 ^ 63) : lg_cmp (lN a) (lN b) = 0 ↔ a = b := by rw [lg_cmp_eq, pk_lEQ ha hb]
/-- the mask of the lowest bits -/
theorem pq_mask {n k : Nat} (hn : n < 2 ^ 64) (hk : k < 64) : lN n &&& lN (2 ^ k - 1) = lN (n % 2 ^ k) := wb_mask hn hk
theorem pq_p_mod (x k n : Nat) (h : k ≤ n) : pw_p (x % 2 ^ k) n = pw_p x k := by
  unfold pw_p
  obtain ⟨j, rfl⟩ : ∃ j, n = k + j := ⟨n - k, by omega⟩
  rw [pw_c_add]
  have z : pw_c (fun i => (fun i => (x % 2 ^ k).testBit i) (k + i)) j = 0 := pw_c_0 (fun i _ => by
    show (x % 2 ^ k).testBit (k + i) = false
    rw [Nat.testBit_mod_two_pow, decide_eq_false (by omega), Bool.false_and])
  rw [z, Nat.add_zero]
  refine pw_c_congr (fun i hi => ?_)
  show (x % 2 ^ k).testBit i = x.testBit i
  rw [Nat.testBit_mod_two_pow, decide_eq_true hi, Bool.true_and]
theorem pq_p_lt {x k n : Nat} (hx : x < 2 ^ k) (h : k ≤ n) : pw_p x n = pw_p x k := by
  have := pq_p_mod x k n h
  rwa [Nat.mod_eq_of_lt hx] at this
