/-! what each call answers, said of the words alone: W i is (HEAD's length, RING's length, bits) -/
abbrev pw_V : Type := Nat × Nat × (Nat → Bool)
/-- the word v lies at a in the heap H, all of it at z0 or beyond -/
def wdAt (dC : Nat → ClassId) (dI : Nat → Nat → Nat) (z0 : Nat) (H : Heap) (U : State) (a : Nat) (v : pw_V) : Prop :=
  ∃ (q : Nat) (cA : ClassId) (pl : Nat → Int32), va_P (dC, dI) vwCl (wd a q cA v.1 v.2.1 v.2.2 pl) H ∧ va_K (dC, dI) vwCl [(cA, .int)] U ∧ wd_pl v.1 v.2.1 v.2.2 pl ∧ wd_ok v.1 v.2.1 v.2.2 ∧ z0 ≤ a ∧ z0 ≤ q
def wdAll (dC : Nat → ClassId) (dI : Nat → Nat → Nat) (z0 : Nat) (H : Heap) (U : State) (n : Nat) (wa : Nat → Option Nat) (W : Nat → pw_V) : Prop :=
  ∀ i, i < n → ∃ a, wa i = some a ∧ wdAt dC dI z0 H U a (W i)
theorem wdAt.moved {dC : Nat → ClassId} {dI : Nat → Nat → Nat} {z0 : Nat} {H : Heap} {u U : State} {a : Nat} {v : pw_V} (hvm : u.vm.Alike U.vm) (h : wdAt dC dI z0 H u a v) : wdAt dC dI z0 H U a v := by
  obtain ⟨q, cA, pl, h1, h2, h3⟩ := h
  exact ⟨q, cA, pl, h1, va_K.moved hvm h2, h3⟩
theorem wdAll.moved {dC : Nat → ClassId} {dI : Nat → Nat → Nat} {z0 : Nat} {H : Heap} {u U : State} {n : Nat} {wa : Nat → Option Nat} {W : Nat → pw_V} (hvm : u.vm.Alike U.vm) (h : wdAll dC dI z0 H u n wa W) : wdAll dC dI z0 H U n wa W := by
  intro i hi
  obtain ⟨a, h1, h2⟩ := h i hi
  exact ⟨a, h1, h2.moved hvm⟩
/-- the words stay where only cells below z0, or new ones, are written -/
theorem wdAt.kept {dC : Nat → ClassId} {dI : Nat → Nat → Nat} {z0 : Nat} {H H1 : Heap} {U : State} {a : Nat} {v : pw_V} (hk : ∀ q : Nat, z0 ≤ q → q < H.size → H1[q]? = H[q]?) (h : wdAt dC dI z0 H U a v) : wdAt dC dI z0 H1 U a v := by
  obtain ⟨q, cA, pl, h1, h2, h3, h4, h5, h6⟩ := h
  refine ⟨q, cA, pl, ?_, h2, h3, h4, h5, h6⟩
  intro k x hx
  have hat := h1 k x hx
  have hlt := va_at.lt hat
  have hz : z0 ≤ x.1 := by
    match k, hx with
    | 0, hx => cases hx; exact h5
    | 1, hx => cases hx; exact h6
    | k + 2, hx => simp at hx
  exact va_at.kept hat (hk x.1 hz hlt)
theorem wdAll.kept {dC : Nat → ClassId} {dI : Nat → Nat → Nat} {z0 : Nat} {H H1 : Heap} {U : State} {n : Nat} {wa : Nat → Option Nat} {W : Nat → pw_V} (hk : ∀ q : Nat, z0 ≤ q → q < H.size → H1[q]? = H[q]?) (h : wdAll dC dI z0 H U n wa W) : wdAll dC dI z0 H1 U n wa W := by
  intro i hi
  obtain ⟨a, h1, h2⟩ := h i hi
  exact ⟨a, h1, h2.kept hk⟩
/-- a contract's start where the class's cells and its words are there, and nothing is written -/
def pw_X (av : List Value) (dC : Nat → ClassId) (dI : Nat → Nat → Nat) (z0 o q n : Nat) (cW : ClassId) (wa : Nat → Option Nat) (W : Nat → pw_V) : Array Value → State → Prop := va_Pc av (fun U => va_P (dC, dI) vwCl (pwc o q n cW wa) U.heap ∧ va_K (dC, dI) vwCl [(cW, .object "PeriodWords$Word")] U ∧ wdAll dC dI z0 U.heap U n wa W)
theorem pw_X_blind {av : List Value} {dC : Nat → ClassId} {dI : Nat → Nat → Nat} {z0 o q n : Nat} {cW : ClassId} {wa : Nat → Option Nat} {W : Nat → pw_V} : FrameBlind (pw_X av dC dI z0 o q n cW wa W) := fun a U g mk x => by
  obtain ⟨x0, xP, xK, xW⟩ := x
  exact ⟨x0, xP, va_K.moved (u := U) (U := U.calling g mk a) (Vm.Alike.refl U.vm) xK, wdAll.moved (u := U) (U := U.calling g mk a) (Vm.Alike.refl U.vm) xW⟩
/-- the answer where it asks for a word by its number -/
def sp_1 (n : Nat) (x : Int32) (val : Nat → Int32 → Prop) (none_ : Int32 → Prop) (r : Int32) : Prop := (∃ i, i < n ∧ x = nI i ∧ val i r) ∨ ((¬ ∃ i, i < n ∧ x = nI i) ∧ none_ r)
theorem sp_1_u {n : Nat} {x : Int32} {val : Nat → Int32 → Prop} {nn : Int32 → Prop} {r r' : Int32} (hn : n ≤ 40) (h : sp_1 n x val nn r) (h' : sp_1 n x val nn r') (hv : ∀ i, i < n → ∀ r r', val i r → val i r' → r = r') (hnn : ∀ r r', nn r → nn r' → r = r') : r = r' := by
  rcases h with ⟨i, hi, e, h⟩ | ⟨h0, h⟩
  · rcases h' with ⟨j, hj, e', h'⟩ | ⟨h0', h'⟩
    · rw [e] at e'
      have := (nI_eq (show i < 2 ^ 31 by omega) (show j < 2 ^ 31 by omega)).mp e'
      subst this
      exact hv i hi r r' h h'
    · exact absurd ⟨i, hi, e⟩ h0'
  · rcases h' with ⟨j, hj, e', h'⟩ | ⟨h0', h'⟩
    · exact absurd ⟨j, hj, e'⟩ h0
    · exact hnn r r' h h'
def sp_form (v : pw_V) (y r : Int32) : Prop := r = if y = nI 0 then nI v.1 else if y = nI 1 then nI v.2.1 else if y = nI 2 then nI (pw_o v.2.2 v.1 v.2.1 / Nat.gcd (pw_o v.2.2 v.1 v.2.1) v.2.1) else if y = nI 3 then nI (v.2.1 / Nat.gcd (pw_o v.2.2 v.1 v.2.1) v.2.1) else if y = nI 4 then nI (pw_c v.2.2 v.1) else (-1)
def sp_far (y : Int32) (val : Nat → Int32) (r : Int32) : Prop := (∃ j, j ≤ 1000000000 ∧ y = nI j ∧ r = val j) ∨ ((¬ ∃ j, j ≤ 1000000000 ∧ y = nI j) ∧ r = -1)
def sp_q (v w : pw_V) : Prop := v.1 = w.1 ∧ pw_b v.2.2 0 v.1 = pw_b w.2.2 0 w.1 ∧ v.2.1 = w.2.1 ∧ pw_b v.2.2 v.1 v.2.1 = pw_b w.2.2 w.1 w.2.1
def sp_same (W : Nat → pw_V) (i : Nat) (r : Int32) : Prop := ∃ k, k ≤ i ∧ r = nI k ∧ sp_q (W k) (W i) ∧ ∀ j, j < k → ¬ sp_q (W j) (W i)
def sp_ahead (v w : pw_V) (r : Int32) : Prop := (r = nI 1 ∧ pw_ah v.2.2 w.2.2) ∨ (r = nI 0 ∧ ¬ pw_ah v.2.2 w.2.2)
theorem pq_sw5 (y : Int32) : y = nI 0 ∨ y = nI 1 ∨ y = nI 2 ∨ y = nI 3 ∨ y = nI 4 ∨ ((y.toInt < 0 ∨ 4 < y.toInt) ∧ y ≠ nI 0 ∧ y ≠ nI 1 ∧ y ≠ nI 2 ∧ y ≠ nI 3 ∧ y ≠ nI 4) := by
  rcases pk_ix y (n := 5) (by decide) with h | h | ⟨j, hj, rfl⟩
  · right; right; right; right; right
    have h0 : y.toInt < 0 := by rw [Int32.lt_iff_toInt_lt] at h; exact h
    refine ⟨Or.inl h0, ?_, ?_, ?_, ?_, ?_⟩ <;> (rintro rfl; revert h0; decide)
  · right; right; right; right; right
    have h0 : 5 ≤ y.toInt := by rw [Int32.le_iff_toInt_le] at h; exact h
    refine ⟨Or.inr (by omega), ?_, ?_, ?_, ?_, ?_⟩ <;> (rintro rfl; revert h0; decide)
  · rcases (show j = 0 ∨ j = 1 ∨ j = 2 ∨ j = 3 ∨ j = 4 by omega) with rfl | rfl | rfl | rfl | rfl <;> simp
theorem pq_far {y : Int32} (h0 : ¬ y < 0) (h1 : y ≤ nI 1000000000) : ∃ j, j ≤ 1000000000 ∧ y = nI j := nI_of2 (M := nI 1000000000) (by decide) h0 h1
