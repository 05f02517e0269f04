/-! drafts of what is made -/
theorem pw_gcd_dvd (x y : Nat) (hy : 0 < y) : y ∣ y / Nat.gcd x y * x := by
  have hg := Nat.gcd_pos_of_pos_right x hy
  obtain ⟨a, ha⟩ := Nat.gcd_dvd_left x y
  obtain ⟨b, hb⟩ := Nat.gcd_dvd_right x y
  have e : y / Nat.gcd x y = b := Nat.div_eq_of_eq_mul_right hg hb
  rw [e]
  refine ⟨a, ?_⟩
  calc b * x = b * (Nat.gcd x y * a) := by rw [← ha]
    _ = y * a := by rw [← Nat.mul_assoc, Nat.mul_comm b, ← hb]
theorem pw_E_onC {f f2 : Nat → Bool} {h pp h2 pp2 d : Nat} (E : pw_E f h pp) (hp : 0 < pp) (E2 : pw_E f2 h2 pp2) (hp2 : 0 < pp2) (ho : 0 < pw_o f h pp) : pw_E (pw_mk 4 f f2 d) (max h (pw_tk f (h2 + 1))) (pp * (pp2 / Nat.gcd (pw_o f h pp) pp2)) := by
  have N := pw_tk_N ((pw_has E hp (show 0 < h2 + 1 by omega)).mpr (Or.inl ho))
  have a : pw_c f (pw_tk f (h2 + 1)) = h2 := by have := N.2; omega
  have m := pw_c_mono (f := f) (Nat.le_max_right h (pw_tk f (h2 + 1)))
  have b := pw_E_on E hp E2 (F := max h (pw_tk f (h2 + 1))) (Nat.le_max_left _ _) (by omega) (pp2 / Nat.gcd (pw_o f h pp) pp2) (pw_gcd_dvd _ _ hp2)
  rw [Nat.mul_comm pp]
  exact b
theorem pw_E_byC {f f2 : Nat → Bool} {h pp h2 pp2 d : Nat} (E : pw_E f h pp) (E2 : pw_E f2 h2 pp2) (hp2 : 0 < pp2) (ho : 0 < pw_o f2 h2 pp2) : pw_E (pw_mk 5 f f2 d) (pw_c f2 (max h h2)) (pw_o f2 h2 pp2 * (pp / Nat.gcd pp pp2)) := by
  have hd : pp ∣ pp / Nat.gcd pp pp2 * pp2 := by
    have hg := Nat.gcd_pos_of_pos_right pp hp2
    obtain ⟨a, ha⟩ := Nat.gcd_dvd_left pp pp2
    obtain ⟨b, hb⟩ := Nat.gcd_dvd_right pp pp2
    have e : pp / Nat.gcd pp pp2 = a := Nat.div_eq_of_eq_mul_right hg ha
    rw [e]
    refine ⟨b, ?_⟩
    calc a * pp2 = a * (Nat.gcd pp pp2 * b) := by rw [← hb]
      _ = pp * b := by rw [← Nat.mul_assoc, Nat.mul_comm a, ← ha]
  have b := pw_E_by E E2 hp2 ho (M := max h h2) (Nat.le_max_left _ _) (Nat.le_max_right _ _) (pp / Nat.gcd pp pp2) hd
  rw [Nat.mul_comm _ (pp / Nat.gcd pp pp2)]
  exact b
/-- a draft whose lengths hold the word that it stands for -/
def dr_ok (how : Nat) (f f2 : Nat → Bool) (hd rd lt : Nat) : Prop := hd < 100000 ∧ rd < 100000 ∧ 0 < rd ∧ lt < 100 ∧ pw_E (pw_mk how f f2 lt) hd rd
theorem pw_mk_d {k : Nat} (hk : k ≠ 6) (f g : Nat → Bool) (d d' : Nat) : pw_mk k f g d = pw_mk k f g d' := by
  unfold pw_mk
  rw [if_neg hk, if_neg hk]
theorem pw_E_halfC {f f2 : Nat → Bool} {h pp d : Nat} (E : pw_E f h pp) (hp : 0 < pp) : pw_E (pw_mk 7 f f2 d) h (pp * (1 + pw_o f h pp % 2)) := by
  have k : (1 + pw_o f h pp % 2) * pw_o f h pp % 2 = 0 := by
    rcases Nat.mod_two_eq_zero_or_one (pw_o f h pp) with z | z
    · rw [z, Nat.add_zero, Nat.one_mul, z]
    · rw [z, show 1 + 1 = 2 from rfl]
      omega
  have a := pw_E_half E hp (1 + pw_o f h pp % 2) k
  rw [Nat.mul_comm pp]
  exact a
theorem pw_E_joinC {f f2 : Nat → Bool} {h pp h2 pp2 how d : Nat} (hh : how < 4) (E : pw_E f h pp) (hp : 0 < pp) (E2 : pw_E f2 h2 pp2) (hp2 : 0 < pp2) : pw_E (pw_mk how f f2 d) (max h h2) (pp / Nat.gcd pp pp2 * pp2) := by
  obtain ⟨l1, l2, l3, l4⟩ := pw_lcm hp hp2
  have a : pw_E f (max h h2) (pp / Nat.gcd pp pp2 * pp2) := pw_E_up (pw_E_dvd E l2) (Nat.le_max_left _ _)
  have b : pw_E f2 (max h h2) (pp / Nat.gcd pp pp2 * pp2) := pw_E_up (pw_E_dvd E2 l3) (Nat.le_max_right _ _)
  rcases (show how = 0 ∨ how = 1 ∨ how = 2 ∨ how = 3 by omega) with rfl | rfl | rfl | rfl
  · exact pw_E_and a b
  · exact pw_E_or a b
  · exact pw_E_xor a b
  · exact pw_E_not a
