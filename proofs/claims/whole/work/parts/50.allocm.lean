/-! the places of a long's 1s, written behind one another -/
def wp_B (dC : Nat → ClassId) (dI : Nat → Nat → Nat) (A : Nat → Prop) (q : Nat) (cA : ClassId) (N : Nat) (u : Nat → Int32) (t : State) : Prop :=
  va_P (dC, dI) vwCl [(q, .inl (cA, N, .inl u))] t.heap ∧ va_K (dC, dI) vwCl [(cA, .int)] t ∧ va_D A [(q, .inl (cA, N, .inl u))]
theorem pw_p_mono (x : Nat) {a b : Nat} (h : a ≤ b) : pw_p x a ≤ pw_p x b := pw_c_mono h
theorem wp_put {x u k nx : Nat} {g : Nat → Int32} (h : ∀ j, j < pw_p x k → ∃ t, t < 60 ∧ g (u + j) = nI t ∧ x.testBit t = true ∧ pw_p x t = j) (hnx : nx = u + pw_p x k) (hk : k < 60) (hb : x / 2 ^ k % 2 = 1) : ∀ j, j < pw_p x (k + 1) → ∃ t, t < 60 ∧ upd g nx (nI k) (u + j) = nI t ∧ x.testBit t = true ∧ pw_p x t = j := by
  intro j hj
  rw [pw_p_s, hb] at hj
  rcases Nat.lt_or_ge j (pw_p x k) with z | z
  · obtain ⟨t, h1, h2, h3, h4⟩ := h j z
    exact ⟨t, h1, by rw [pk_un (by omega)]; exact h2, h3, h4⟩
  · have e : j = pw_p x k := by omega
    refine ⟨k, hk, ?_, ?_, e.symm⟩
    · rw [e, ← hnx, pk_us]
    · rw [pq_bitN] at hb
      exact pw_t1 hb
theorem wp_skip {x u k : Nat} {g : Nat → Int32} (h : ∀ j, j < pw_p x k → ∃ t, t < 60 ∧ g (u + j) = nI t ∧ x.testBit t = true ∧ pw_p x t = j) (hb : x / 2 ^ k % 2 = 0) : ∀ j, j < pw_p x (k + 1) → ∃ t, t < 60 ∧ g (u + j) = nI t ∧ x.testBit t = true ∧ pw_p x t = j := by
  rw [pw_p_s, hb, Nat.add_zero]
  exact h
def wi_B (dC : Nat → ClassId) (dI : Nat → Nat → Nat) (A : Nat → Prop) (a h pp : Nat) (f : Nat → Bool) (u : Nat × ClassId × (Nat → Int32)) (t : State) : Prop :=
  va_P (dC, dI) vwCl (wd a u.1 u.2.1 h pp f u.2.2) t.heap ∧ va_K (dC, dI) vwCl [(u.2.1, .int)] t ∧ va_D A (wd a u.1 u.2.1 h pp f u.2.2)
def di_B (dC : Nat → ClassId) (dI : Nat → Nat → Nat) (A : Nat → Prop) (dd a a2 hd rd how late : Nat) (_ : Unit) (t : State) : Prop :=
  va_P (dC, dI) vwCl (dr dd a a2 hd rd how late) t.heap ∧ va_K (dC, dI) vwCl [] t ∧ va_D A (dr dd a a2 hd rd how late)
theorem wp_pl {h pp : Nat} {f : Nat → Bool} {g0 g1 g2 : Nat → Int32} (hh : h ≤ 60) (hp : pp ≤ 60) (q1 : pw_p (pw_b f 0 h) 60 = pw_c f h) (q2 : pw_p (pw_b f h pp) 60 = pw_o f h pp)
    (h1 : (∀ j, j < 0 → g1 j = g0 j) ∧ ∀ j, j < pw_p (pw_b f 0 h) 60 → ∃ t, t < 60 ∧ g1 (0 + j) = nI t ∧ (pw_b f 0 h).testBit t = true ∧ pw_p (pw_b f 0 h) t = j)
    (h2 : (∀ j, j < pw_c f h → g2 j = g1 j) ∧ ∀ j, j < pw_p (pw_b f h pp) 60 → ∃ t, t < 60 ∧ g2 (pw_c f h + j) = nI t ∧ (pw_b f h pp).testBit t = true ∧ pw_p (pw_b f h pp) t = j) : wd_pl h pp f g2 := by
  refine ⟨?_, ?_⟩
  · intro j hj
    obtain ⟨t, t1, t2, t3, t4⟩ := h1.2 j (by omega)
    have th : t < h := by
      rcases Nat.lt_or_ge t h with z | z
      · exact z
      · rw [pw_b_big f 0 h t z] at t3; cases t3
    rw [Nat.zero_add] at t2
    refine ⟨t, th, by rw [h2.1 j hj]; exact t2, ?_, ?_⟩
    · rw [pw_b_t f 0 h t th, Nat.zero_add] at t3
      exact t3
    · rw [pw_p_c f h t (by omega)] at t4
      omega
  · intro j hj
    obtain ⟨t, t1, t2, t3, t4⟩ := h2.2 j (by omega)
    have th : t < pp := by
      rcases Nat.lt_or_ge t pp with z | z
      · exact z
      · rw [pw_b_big f h pp t z] at t3; cases t3
    refine ⟨t, th, t2, ?_, ?_⟩
    · rw [pw_b_t f h pp t th] at t3
      exact t3
    · rw [pw_p_b f h pp t (by omega)] at t4
      exact t4
theorem pq_nb {N : Nat} (ty : FieldType) (hty : componentBytes ty ≤ 8) (h : N ≤ 100000) : N * componentBytes ty ≤ 536870912 := Nat.le_trans (Nat.mul_le_mul h hty) (by decide)
/-! where a method makes new cells and writes nothing old -/
theorem pw_A0 {q sz : Nat} (h : va_A [] sz q) : sz ≤ q := by
  rcases h with ⟨k, e, h⟩ | h
  · simp at h
  · exact h
theorem pw_D0 {A : Nat → Prop} : va_D A [] := ⟨fun i j p q h => by simp at h, fun k q h => by simp at h⟩
theorem pw_keep {dC : Nat → ClassId} {dI : Nat → Nat → Nat} {ws : va_W} {A : Nat → Prop} {H0 H : Heap} {locs : List Loc} (hP : va_P (dC, dI) vwCl ws H0) (hS : va_S A H0 H locs) (hA : ∀ q, A q → H0.size ≤ q) : va_P (dC, dI) vwCl ws H := by
  intro k x hx
  have hat := hP k x hx
  have hlt := va_at.lt hat
  exact va_at.kept hat (hS.2.1 x.1 hlt (fun z => by have := hA _ z; omega))
def dr_Pre (av : List Value) (dC : Nat → ClassId) (dI : Nat → Nat → Nat) (sz : Nat) (tys : List (ClassId × FieldType)) (ws : va_W) : Array Value → State → Prop := va_Pc av (fun U => U.heap.size = sz ∧ va_P (dC, dI) vwCl ws U.heap ∧ va_K (dC, dI) vwCl tys U)
theorem dr_blind {av : List Value} {dC : Nat → ClassId} {dI : Nat → Nat → Nat} {sz : Nat} {tys : List (ClassId × FieldType)} {ws : va_W} : FrameBlind (dr_Pre av dC dI sz tys ws) := fun a U g mk q => by
  obtain ⟨q0, q1, qP, qK⟩ := q
  exact ⟨q0, q1, qP, va_K.moved (u := U) (U := U.calling g mk a) (Vm.Alike.refl U.vm) qK⟩
