/-- the answer where it asks for two words -/
def sp_2 (n : Nat) (x y : Int32) (val : Nat → Nat → Int32 → Prop) (none_ : Int32 → Prop) (r : Int32) : Prop := (∃ i j, i < n ∧ x = nI i ∧ j < n ∧ y = nI j ∧ val i j r) ∨ ((¬ ∃ i j, i < n ∧ x = nI i ∧ j < n ∧ y = nI j) ∧ none_ r)
theorem sp_2_u {n : Nat} {x y : Int32} {val : Nat → Nat → Int32 → Prop} {nn : Int32 → Prop} {r r' : Int32} (hn : n ≤ 40) (h : sp_2 n x y val nn r) (h' : sp_2 n x y val nn r') (hv : ∀ i j, i < n → j < n → ∀ r r', val i j r → val i j r' → r = r') (hnn : ∀ r r', nn r → nn r' → r = r') : r = r' := by
  rcases h with ⟨i, k, hi, e, hk, f, h⟩ | ⟨h0, h⟩
  · rcases h' with ⟨j, k', hj, e', hk', f', h'⟩ | ⟨h0', h'⟩
    · rw [e] at e'
      rw [f] at f'
      have := (nI_eq (show i < 2 ^ 31 by omega) (show j < 2 ^ 31 by omega)).mp e'
      subst this
      have := (nI_eq (show k < 2 ^ 31 by omega) (show k' < 2 ^ 31 by omega)).mp f'
      subst this
      exact hv i k hi hk r r' h h'
    · exact absurd ⟨i, k, hi, e, hk, f⟩ h0'
  · rcases h' with ⟨j, k', hj, e', hk', f', h'⟩ | ⟨h0', h'⟩
    · exact absurd ⟨j, k', hj, e', hk', f'⟩ h0
    · exact hnn r r' h h'
theorem sp_form_no {v : pw_V} {y : Int32} (n0 : y ≠ nI 0) (n1 : y ≠ nI 1) (n2 : y ≠ nI 2) (n3 : y ≠ nI 3) (n4 : y ≠ nI 4) : sp_form v y (-1) := by
  unfold sp_form
  rw [if_neg n0, if_neg n1, if_neg n2, if_neg n3, if_neg n4]
