/-! a word told by two ints of bits -/
def wf (h : Nat) (x : Int32) (r : Nat) (y : Int32) : Nat → Bool := fun t => if t < h then x.toBitVec.getLsbD t else y.toBitVec.getLsbD ((t - h) % r)
theorem wf_E (h : Nat) (x : Int32) (r : Nat) (y : Int32) : pw_E (wf h x r y) h r := by
  intro t ht
  unfold wf
  rw [if_neg (by omega), if_neg (by omega), show t + r - h = t - h + r by omega, Nat.add_mod_right]
theorem pq_sh31 : ∀ n, n < 32 → ((nI n &&& 31).toBitVec.smod 32).toNat = n := by decide +kernel
theorem pq_ib (x : Int32) {k : Nat} (hk : k < 32) : (x >>> (nI k &&& 31)) &&& nI 1 = nI (x.toBitVec.getLsbD k).toNat := by
  apply Int32.toBitVec_inj.mp
  rw [Int32.toBitVec_and, Int32.toBitVec_shiftRight]
  show (x.toBitVec.sshiftRight ((nI k &&& 31).toBitVec.smod 32).toNat) &&& 1#32 = _
  rw [pq_sh31 k hk, BitVec.and_one_eq_setWidth_ofBool_getLsbD, BitVec.getLsbD_sshiftRight]
  simp only [Nat.add_zero, hk, if_true]
  cases x.toBitVec.getLsbD k <;> decide
theorem pq_in8 {z : Int32} : (∃ k, k < 8 ∧ z = nI k) ∨ ¬ ∃ k, k < 8 ∧ z = nI k := Classical.em _
theorem pq_in_of {z : Int32} {N : Nat} (hN : N < 2147483648) (h0 : ¬ z < nI 0) (h2 : ¬ nI N < z) : ∃ j, j ≤ N ∧ z = nI j := nI_of2 (M := nI N) (n := N) (nI_toInt hN) h0 (pq_not_lt h2)
theorem pq_in_1 {z : Int32} {N : Nat} (hN : N < 2147483648) (h0 : ¬ z < nI 1) (h2 : ¬ nI N < z) : ∃ j, 0 < j ∧ j ≤ N ∧ z = nI j := by
  obtain ⟨j, hj, e⟩ := nI_of2 (M := nI N) (n := N) (nI_toInt hN) (fun z => h0 (pq_lt1 z)) (pq_not_lt h2)
  refine ⟨j, ?_, hj, e⟩
  rcases Nat.eq_zero_or_pos j with q | q
  · exfalso
    apply h0
    rw [e, q]
    decide
  · exact q
def sp_two (k : Nat) : Prop := k = 0 ∨ k = 1 ∨ k = 2 ∨ k = 4 ∨ k = 5
/-- make is asked for a word that there can be: how k, a the word i, b the word j, or d -/
def sp_mkv (n : Nat) (x y z : Int32) (k i j d : Nat) : Prop := n < 40 ∧ k < 8 ∧ x = nI k ∧ i < n ∧ y = nI i ∧ (sp_two k → j < n ∧ z = nI j) ∧ (k = 6 → d ≤ 30 ∧ z = nI d) ∧ (¬ sp_two k → j = i) ∧ (k ≠ 6 → d = 0)
def sp_wdv (n : Nat) (x z : Int32) (h p : Nat) : Prop := n < 40 ∧ h ≤ 30 ∧ 0 < p ∧ p ≤ 30 ∧ x = nI h ∧ z = nI p
