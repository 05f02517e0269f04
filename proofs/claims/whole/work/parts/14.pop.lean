/-! what Long.bitCount's steps need -/
theorem pq_ushr {n k q : Nat} (hn : n < 2 ^ 64) (hk : k < 64) (hq : 2 ^ k = q) : ((lN n).toUInt64 >>> ((nI k).toInt64.toUInt64 &&& Int64.toUInt64 63)).toInt64 = lN (n / q) := by rw [← hq]; exact pq_lushr hn hk
theorem pw_bd {x : Nat} (hx : x < 2 ^ 64) : (x / 2 &&& pw_m5 8) ≤ x ∧ pw_y 8 x < 2 ^ 64 ∧ pw_z 8 (pw_y 8 x) < 2 ^ 64 ∧ pw_z 8 (pw_y 8 x) + pw_z 8 (pw_y 8 x) / 16 < 2 ^ 64 ∧ pw_q 8 x < 2 ^ 60 := by
  have h3 : pw_m3 8 = 3689348814741910323 := by decide +kernel
  have a1 : (x / 2 &&& pw_m5 8) ≤ x := Nat.le_trans Nat.and_le_left (Nat.div_le_self _ _)
  have a2 : pw_y 8 x ≤ x := Nat.sub_le _ _
  have a3 : pw_z 8 (pw_y 8 x) ≤ 3689348814741910323 + 3689348814741910323 := by
    unfold pw_z
    exact Nat.add_le_add (by rw [← h3]; exact Nat.and_le_right) (by rw [← h3]; exact Nat.and_le_right)
  have a4 := (pw_pop hx rfl).1
  refine ⟨a1, by omega, by omega, by omega, by omega⟩
theorem pw_mm : pw_m5 8 < 2 ^ 64 ∧ pw_m3 8 < 2 ^ 64 ∧ pw_mf 8 < 2 ^ 64 := by decide +kernel
theorem pq_127 (a : Nat) : nI a &&& nI 127 = nI (a % 128) := by rw [nx_and, show (127 : Nat) = 2 ^ 7 - 1 from rfl, Nat.and_two_pow_sub_one_eq_mod]
theorem pw_bt (b : Bool) : (b.toNat = 1 ∧ b = true) ∨ (b.toNat = 0 ∧ b = false) := by cases b <;> simp
