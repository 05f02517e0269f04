/-! what the reference's calls need -/
def mdAll (xh yr : Nat → Int32) (xb yb : Nat → Int64) (n : Nat) (W : Nat → pw_V) : Prop := ∀ i, i < n → md_at xh yr xb yb i (W i).1 (W i).2.1 (W i).2.2
theorem pq_rt {a b : Nat} (ha : a < 1073741824) (hb : b < 1073741824) : (0 : Int32) ≤ nI a - nI b ↔ b ≤ a := by
  rw [Int32.le_iff_toInt_le, pk_sub_toInt ha hb, Int32.toInt_zero]
  omega
theorem pq_rt0 {a b : Nat} (ha : a < 1073741824) (hb : b < 1073741824) : nI a - nI b = 0 ↔ a = b := by
  rw [← Int32.toInt_inj, pk_sub_toInt ha hb, Int32.toInt_zero]
  omega
theorem pq_mx1 {m a b : Nat} (hm : m < 1073741824) (ha : a < 1073741824) (hb : b < 1073741824) (h : ¬ nI a - nI b ≤ nI m) : nI a - nI b = nI (max m (a - b)) := by
  rw [← pq_maxs hm ha hb, if_pos]
  rw [Int32.le_iff_toInt_le] at h
  rw [Int32.lt_iff_toInt_lt]
  omega
theorem pq_mx2 {m a b : Nat} (hm : m < 1073741824) (ha : a < 1073741824) (hb : b < 1073741824) (h : nI a - nI b ≤ nI m) : nI m = nI (max m (a - b)) := by
  rw [← pq_maxs hm ha hb, if_neg]
  rw [Int32.le_iff_toInt_le] at h
  rw [Int32.lt_iff_toInt_lt]
  omega
theorem pq_mn1 {m a b : Nat} (hm : m < 1073741824) (ha : a < 1073741824) (hb : b < 1073741824) (h : ¬ nI 0 - nI m ≤ nI a - nI b) : nI a - nI b = nI 0 - nI (max m (b - a)) := by
  rw [Int32.le_iff_toInt_le, pk_sub_toInt (by decide) hm, pk_sub_toInt ha hb] at h
  rw [← Int32.toInt_inj, pk_sub_toInt ha hb, pk_sub_toInt (by decide) (by omega)]
  omega
theorem pq_mn2 {m a b : Nat} (hm : m < 1073741824) (ha : a < 1073741824) (hb : b < 1073741824) (h : nI 0 - nI m ≤ nI a - nI b) : nI 0 - nI m = nI 0 - nI (max m (b - a)) := by
  rw [Int32.le_iff_toInt_le, pk_sub_toInt (by decide) hm, pk_sub_toInt ha hb] at h
  rw [← Int32.toInt_inj, pk_sub_toInt (by decide) hm, pk_sub_toInt (by decide) (by omega)]
  omega
theorem pq_neg0 {m : Nat} (hm : m < 1073741824) : -(nI 0 - nI m) = nI m := by
  have e : nI 0 - nI m = -nI m := by
    show 0 - nI m = _
    exact Int32.zero_sub (nI m)
  rw [e, Int32.neg_neg]
theorem pq_nm1 {m : Nat} (hm : m < 2147483648) : ¬ nI m = -1 := by
  intro h
  have a := nI_toInt hm
  rw [h] at a
  have b : (-1 : Int32).toInt = -1 := by decide
  omega
theorem pw_ks_bd (f g : Nat → Bool) (N : Nat) : pw_ks f g N ≤ N := pw_ks_le (fun n hn => by have := pw_c_le f n; omega)
theorem pw_ks_0 {f g : Nat → Bool} {N : Nat} : pw_ks f g N = 0 ↔ ∀ t, t ≤ N → pw_c f t ≤ pw_c g t := by
  constructor
  · intro h t ht
    have := pw_ks_ge f g ht
    omega
  · intro h
    have : pw_ks f g N ≤ 0 := pw_ks_le (fun n hn => by have := h n hn; omega)
    omega
theorem pw_md_many {f g : Nat → Bool} {h p h2 p2 : Nat} (E : pw_E f h p) (E2 : pw_E g h2 p2) (hh : h ≤ 60) (hh2 : h2 ≤ 60) (hp : 0 < p) (hp2 : 0 < p2) (ho : 0 < pw_o g h2 p2) (hr : pw_o g h2 p2 * p ≤ pw_o f h p * p2) : pw_md f g (61 + pw_o g h2 p2 * p) = pw_md f g (max (pw_c f h) (pw_c g h2) + pw_o f h p / Nat.gcd (pw_o f h p) (pw_o g h2 p2) * pw_o g h2 p2) := by
  have o1 := pw_oa hp ho hr
  obtain ⟨l1, l2, l3, l4⟩ := pw_lcm o1 ho
  have c1 := pw_c_le f h
  have c2 := pw_c_le g h2
  have c3 : pw_o f h p * pw_o g h2 p2 ≤ pw_o g h2 p2 * p := by
    rw [Nat.mul_comm]
    exact Nat.mul_le_mul_left _ (pw_o_le f h p)
  exact pw_md_st E E2 hp hp2 o1 ho (Nat.le_max_left _ _) (Nat.le_max_right _ _) l1 l2 l3 hr (by omega)
theorem pw_wt_u {v w : pw_V} {r r' : Int32} (h : pw_wt v w r) (h' : pw_wt v w r') : r = r' := by
  obtain ⟨a1, a2, a3, a4⟩ := h
  obtain ⟨b1, b2, b3, b4⟩ := h'
  rcases Nat.eq_zero_or_pos (pw_o w.2.2 w.1 w.2.1) with z | z
  · rcases Classical.em (0 < pw_o v.2.2 v.1 v.2.1 ∨ pw_c w.2.2 w.1 ≤ pw_c v.2.2 v.1) with y | y
    · rw [a1 z y, b1 z y]
    · rw [a2 z y, b2 z y]
  · rcases Nat.lt_or_ge (pw_o v.2.2 v.1 v.2.1 * w.2.1) (pw_o w.2.2 w.1 w.2.1 * v.2.1) with y | y
    · rw [a3 z y, b3 z y]
    · rw [a4 z y, b4 z y]
/-- STORE, MISSING, WAIT: a number, or none (an exception) -/
def sp_bt (v w : pw_V) (k : Int32) (res : Option Int32) : Prop :=
  (k = nI 2 ∧ ∃ d, pw_wt v w d ∧ ((d = -1 ∧ res = none) ∨ (d ≠ -1 ∧ res = some d))) ∨
  (k = nI 0 ∧ ((pw_o v.2.2 v.1 v.2.1 * w.2.1 = pw_o w.2.2 w.1 w.2.1 * v.2.1 ∧ res = some (nI (pw_ks v.2.2 w.2.2 (max v.1 w.1 + v.2.1 * w.2.1)))) ∨ (pw_o v.2.2 v.1 v.2.1 * w.2.1 ≠ pw_o w.2.2 w.1 w.2.1 * v.2.1 ∧ res = none))) ∨
  (k = nI 1 ∧ ((pw_o v.2.2 v.1 v.2.1 * w.2.1 = pw_o w.2.2 w.1 w.2.1 * v.2.1 ∧ res = some (nI (pw_ks w.2.2 v.2.2 (max v.1 w.1 + v.2.1 * w.2.1)))) ∨ (pw_o v.2.2 v.1 v.2.1 * w.2.1 ≠ pw_o w.2.2 w.1 w.2.1 * v.2.1 ∧ res = none)))
theorem pq_in3 {z : Int32} (h0 : ¬ z < nI 0) (h2 : ¬ nI 2 < z) : z = nI 0 ∨ z = nI 1 ∨ z = nI 2 := by
  have h : z ≤ nI 2 := by
    rw [Int32.le_iff_toInt_le]
    rw [Int32.lt_iff_toInt_lt] at h2
    omega
  obtain ⟨j, hj, rfl⟩ := nI_of2 (M := nI 2) (n := 2) (by decide) h0 h
  rcases (show j = 0 ∨ j = 1 ∨ j = 2 by omega) with rfl | rfl | rfl
  · exact Or.inl rfl
  · exact Or.inr (Or.inl rfl)
  · exact Or.inr (Or.inr rfl)
theorem pq_not_lt {a b : Int32} (h : ¬ a < b) : b ≤ a := by
  rw [Int32.le_iff_toInt_le]
  rw [Int32.lt_iff_toInt_lt] at h
  omega
theorem pq_lt1 {y : Int32} (h : y < 0) : y < nI 1 := by
  rw [Int32.lt_iff_toInt_lt] at *
  have a : (nI 1).toInt = 1 := by decide
  have b : (0 : Int32).toInt = 0 := by decide
  omega
def sp_atv (n : Nat) (W : Nat → pw_V) (x y : Int32) (i j : Nat) : Prop := i < n ∧ x = nI i ∧ 0 < j ∧ j ≤ 1000000 ∧ y = nI j ∧ (0 < pw_o (W i).2.2 (W i).1 (W i).2.1 ∨ j ≤ pw_c (W i).2.2 (W i).1)
theorem sp_at_no {n : Nat} {W : Nat → pw_V} {x y : Int32} {i1 j : Nat} (hn : n ≤ 40) (hi1 : i1 < n) (hx1 : x = nI i1) (hj : j ≤ 1000000) (hyj : y = nI j) (hex : ¬ (0 < pw_o (W i1).2.2 (W i1).1 (W i1).2.1 ∨ j ≤ pw_c (W i1).2.2 (W i1).1)) : ¬ ∃ i j, sp_atv n W x y i j := by
  rintro ⟨i, j2, hi, e, h0, hj2, e2, hh⟩
  rw [hx1] at e
  rw [hyj] at e2
  have a := (nI_eq (show i1 < 2 ^ 31 by omega) (show i < 2 ^ 31 by omega)).mp e
  have b := (nI_eq (show j < 2 ^ 31 by omega) (show j2 < 2 ^ 31 by omega)).mp e2
  subst a
  subst b
  exact hex hh
theorem pw_ah_keep {f g : Nat → Bool} {h p h2 p2 : Nat} (E : pw_E f h p) (E2 : pw_E g h2 p2) (hp : 0 < p) (hp2 : 0 < p2) (hr : pw_o g h2 p2 * p ≤ pw_o f h p * p2) : pw_ah f g ↔ pw_ks g f (max h h2 + p * p2) = 0 := by
  rw [pw_ah_round E E2 hp hp2 (Nat.le_max_left h h2) (Nat.le_max_right h h2), pw_ks_0]
  exact ⟨fun z => z.2, fun z => ⟨hr, z⟩⟩
def sp_b (n : Nat) (W : Nat → pw_V) (x y z : Int32) (res : Option Int32) : Prop :=
  (∃ i j, i < n ∧ x = nI i ∧ j < n ∧ y = nI j ∧ (z = nI 0 ∨ z = nI 1 ∨ z = nI 2) ∧ sp_bt (W i) (W j) z res) ∨ ((¬ ∃ i j, i < n ∧ x = nI i ∧ j < n ∧ y = nI j ∧ (z = nI 0 ∨ z = nI 1 ∨ z = nI 2)) ∧ res = some (-1))
