/-! a word in its FORM, newly made; or none, where it is too long -/
abbrev sf_S : Type := Option (Nat × Nat × Nat × Nat × ClassId × (Nat → Int32))
def sf_ok (F : Nat → Bool) (u : sf_S) : Prop := match u with
  | none => ∃ h p, pw_Can F h p ∧ ¬ (h ≤ 60 ∧ p ≤ 60)
  | some (_, h, p, _, _, pl) => pw_Can F h p ∧ h ≤ 60 ∧ p ≤ 60 ∧ wd_pl h p F pl
def sf_B (dC : Nat → ClassId) (dI : Nat → Nat → Nat) (A : Nat → Prop) (F : Nat → Bool) (u : sf_S) (t : State) : Prop := match u with
  | none => True
  | some (a, h, p, q, cA, pl) => wi_B dC dI A a h p F (q, cA, pl) t
theorem sf_none {F : Nat → Bool} {hd rd : Nat} (hR : 0 < rd) (E : pw_E F hd rd) (h : ∀ q, 0 < q → q ≤ 60 → ¬ pw_E F hd q) : sf_ok F none := by
  obtain ⟨x, p, C, hx, hp⟩ := pw_E_ex hR E
  refine ⟨x, p, C, ?_⟩
  rintro ⟨-, z⟩
  exact h p C.1 z (pw_E_up C.2.1 hx)
