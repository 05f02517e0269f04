/-! the reference's cells: the object and its five arrays -/
abbrev md (o a1 a2 a3 a4 a5 : Nat) (c1 c2 c3 c4 c5 : ClassId) (th : Int32) (n : Nat) (mo le : Int32) (xh yr : Nat → Int32) (xb yb : Nat → Int64) (bs : Nat → Int32) : va_W :=
  [(o, .inr (ciM, [.int th, .int (nI n), .ref a1, .ref a2, .ref a3, .ref a4, .ref a5, .int mo, .int le])), (a1, .inl (c1, 40, .inl xh)), (a2, .inl (c2, 40, .inl yr)), (a3, .inl (c3, 40, .inr (.inl xb))), (a4, .inl (c4, 40, .inr (.inl yb))), (a5, .inl (c5, 7400, .inl bs))]
abbrev mdT (c1 c2 c3 c4 c5 : ClassId) : List (ClassId × FieldType) := [(c1, .int), (c2, .int), (c3, .long), (c4, .long), (c5, .boolean)]
/-- the word (h, pp, f) stands under number i -/
def md_at (xh yr : Nat → Int32) (xb yb : Nat → Int64) (i h pp : Nat) (f : Nat → Bool) : Prop := i < 40 ∧ xh i = nI h ∧ yr i = nI pp ∧ xb i = lN (pw_b f 0 h) ∧ yb i = lN (pw_b f h pp) ∧ wd_ok h pp f
theorem pq_isw {x : Int32} {n : Nat} (hn : n ≤ 40) : (¬ x < nI 0 ∧ ¬ nI n - nI 1 < x) ↔ ∃ i, i < n ∧ x = nI i := by
  have e : (nI n - nI 1).toInt = (n : Int) - 1 := pk_sub_toInt (by omega) (by decide)
  constructor
  · rintro ⟨h0, h1⟩
    rcases pk_ix x (n := n) (by omega) with z | z | z
    · exact absurd z h0
    · exfalso
      apply h1
      rw [Int32.lt_iff_toInt_lt, e]
      rw [Int32.le_iff_toInt_le, nI_toInt (by omega)] at z
      omega
    · exact z
  · rintro ⟨i, hi, rfl⟩
    refine ⟨nI_pos (by omega), ?_⟩
    rw [Int32.lt_iff_toInt_lt, e, nI_toInt (by omega)]
    omega
theorem pw_p_s (x k : Nat) : pw_p x (k + 1) = pw_p x k + x / 2 ^ k % 2 := by
  show pw_c _ k + (x.testBit k).toNat = _
  rw [pq_bitN]
  rfl
theorem pw_p_o (f : Nat → Bool) (h p : Nat) : pw_p (pw_b f h p) p = pw_o f h p := pw_p_b f h p p (Nat.le_refl p)
theorem pw_p_c (f : Nat → Bool) (h k : Nat) (hk : k ≤ h) : pw_p (pw_b f 0 h) k = pw_c f k := by
  rw [pw_p_b f 0 h k hk]
  exact pw_c_congr (fun i _ => by rw [Nat.zero_add])
theorem pq_land1 {n : Nat} (hn : n < 2 ^ 64) : lN n &&& lN 1 = lN (n % 2) := wb_a1 hn
theorem pq_gs {x a b : Nat} (hx : x < 1073741824) (ha : a < 1073741824) (hb : b < 1073741824) (h : nI x ≤ nI a - nI b) : nI a - nI b = nI (max x (a - b)) := by
  rw [← pq_maxs hx ha hb]
  rcases Classical.em (nI x < nI a - nI b) with z | z
  · rw [if_pos z]
  · rw [if_neg z]
    apply Int32.toInt_inj.mp
    rw [Int32.le_iff_toInt_le] at h
    rw [Int32.lt_iff_toInt_lt] at z
    omega
theorem pw_plc {f : Nat → Bool} {t left k : Nat} (h1 : 0 < (f t).toNat) (h2 : pw_c f t + left = k) (h3 : 0 < left) (h4 : left - 1 = 0) : pw_N f k t := by
  refine ⟨?_, by omega⟩
  rcases pw_bt (f t) with q | q
  · exact q.2
  · omega
