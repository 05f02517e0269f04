/-! the reference's state as one value; a contract's start where the world is written -/
abbrev md_S : Type := Int32 × Nat × Int32 × Int32 × (Nat → Int32) × (Nat → Int32) × (Nat → Int64) × (Nat → Int64) × (Nat → Int32)
abbrev md_u (o a1 a2 a3 a4 a5 : Nat) (c1 c2 c3 c4 c5 : ClassId) (u : md_S) : va_W := md o a1 a2 a3 a4 a5 c1 c2 c3 c4 c5 u.1 u.2.1 u.2.2.1 u.2.2.2.1 u.2.2.2.2.1 u.2.2.2.2.2.1 u.2.2.2.2.2.2.1 u.2.2.2.2.2.2.2.1 u.2.2.2.2.2.2.2.2
def md_B (dC : Nat → ClassId) (dI : Nat → Nat → Nat) (A : Nat → Prop) (o a1 a2 a3 a4 a5 : Nat) (c1 c2 c3 c4 c5 : ClassId) (u : md_S) (t : State) : Prop :=
  va_P (dC, dI) vwCl (md_u o a1 a2 a3 a4 a5 c1 c2 c3 c4 c5 u) t.heap ∧ va_K (dC, dI) vwCl (mdT c1 c2 c3 c4 c5) t ∧ va_D A (md_u o a1 a2 a3 a4 a5 c1 c2 c3 c4 c5 u)
def md_Pre (av : List Value) (dC : Nat → ClassId) (dI : Nat → Nat → Nat) (sz : Nat) (tys : List (ClassId × FieldType)) (ws : va_W) : Array Value → State → Prop := va_Pc av (fun U => U.heap.size = sz ∧ va_P (dC, dI) vwCl ws U.heap ∧ va_K (dC, dI) vwCl tys U ∧ va_D (fun _ => True) ws)
theorem md_blind {av : List Value} {dC : Nat → ClassId} {dI : Nat → Nat → Nat} {sz : Nat} {tys : List (ClassId × FieldType)} {ws : va_W} : FrameBlind (md_Pre av dC dI sz tys ws) := fun a U g mk q => by
  obtain ⟨q0, q1, qP, qK, qD⟩ := q
  exact ⟨q0, q1, qP, va_K.moved (u := U) (U := U.calling g mk a) (Vm.Alike.refl U.vm) qK, qD⟩
theorem md_put {bz : Nat → Int32} {F : Nat → Bool} {t x : Nat} (h : ∀ j, j < t → bz j = nI (F j).toNat) (hx : x = (F t).toNat) : ∀ j, j < t + 1 → upd bz t (vp_nar .boolean (nI x)) j = nI (F j).toNat := by
  have hn : vp_nar .boolean (nI x) = nI x := by
    rw [hx]
    cases F t <;> decide
  intro j hj
  rcases Nat.lt_or_ge j t with q | q
  · rw [pk_un (by omega)]
    exact h j q
  · have : j = t := by omega
    subst this
    rw [pk_us, hn, hx]
/-- what settle leaves: the word in its FORM under the next number, or nothing -/
def md_set (F : Nat → Bool) (n : Nat) (xh yr : Nat → Int32) (xb yb : Nat → Int64) (r : Int32) (u : md_S) : Prop :=
  ∃ h p, pw_Can F h p ∧ ((h ≤ 60 ∧ p ≤ 60 ∧ r = nI n ∧ u.2.1 = n + 1 ∧ md_at u.2.2.2.2.1 u.2.2.2.2.2.1 u.2.2.2.2.2.2.1 u.2.2.2.2.2.2.2.1 n h p F ∧ ∀ i, i < n → u.2.2.2.2.1 i = xh i ∧ u.2.2.2.2.2.1 i = yr i ∧ u.2.2.2.2.2.2.1 i = xb i ∧ u.2.2.2.2.2.2.2.1 i = yb i) ∨
    (¬ (h ≤ 60 ∧ p ≤ 60) ∧ r = -1 ∧ u.2.1 = n ∧ ∀ i, i < n → u.2.2.2.2.1 i = xh i ∧ u.2.2.2.2.2.1 i = yr i ∧ u.2.2.2.2.2.2.1 i = xb i ∧ u.2.2.2.2.2.2.2.1 i = yb i))
theorem md_bit {F : Nat → Bool} {s k n : Nat} {z : Nat → Int64} (hk : k < 60) (hz : z n = lN (pw_b F s k)) {x : Nat} (hx : x = (F (s + k)).toNat * 2 ^ k) : z n ||| lN x = lN (pw_b F s (k + 1)) := by
  rw [hz, hx, pw_bor64 hk]
  rfl
theorem pw_E_join {f f2 : Nat → Bool} {h pp h2 pp2 how d : Nat} (hh : how < 3) (E : pw_E f h pp) (E2 : pw_E f2 h2 pp2) : pw_E (pw_mk how f f2 d) (max h h2) (pp * pp2) := by
  have a : pw_E f (max h h2) (pp * pp2) := pw_E_up (pw_E_dvd E (Nat.dvd_mul_right pp pp2)) (Nat.le_max_left _ _)
  have b : pw_E f2 (max h h2) (pp * pp2) := pw_E_up (pw_E_dvd E2 (Nat.dvd_mul_left pp2 pp)) (Nat.le_max_right _ _)
  rcases (show how = 0 ∨ how = 1 ∨ how = 2 by omega) with rfl | rfl | rfl
  · exact pw_E_and a b
  · exact pw_E_or a b
  · exact pw_E_xor a b
theorem pw_E_onM {f f2 : Nat → Bool} {h pp h2 pp2 d : Nat} (E : pw_E f h pp) (hp : 0 < pp) (E2 : pw_E f2 h2 pp2) (ho : 0 < pw_o f h pp) (hh : h2 ≤ 60) : pw_E (pw_mk 4 f f2 d) (h + 60 * pp) (pp * pp2) := by
  have a := pw_c_per E hp 60 (Nat.le_refl h)
  have b := pw_E_on E hp E2 (F := h + 60 * pp) (by omega) (by omega) pp2 (Nat.dvd_mul_right pp2 _)
  rw [Nat.mul_comm pp pp2]
  exact b
theorem pw_E_byM {f f2 : Nat → Bool} {h pp h2 pp2 d : Nat} (E : pw_E f h pp) (E2 : pw_E f2 h2 pp2) (hp : 0 < pp2) (ho : 0 < pw_o f2 h2 pp2) : pw_E (pw_mk 5 f f2 d) (pw_c f2 (max h h2)) (pw_o f2 h2 pp2 * pp) := by
  have b := pw_E_by E E2 hp ho (M := max h h2) (Nat.le_max_left _ _) (Nat.le_max_right _ _) pp (Nat.dvd_mul_right pp pp2)
  rw [Nat.mul_comm _ pp]
  exact b
theorem pw_byN {f2 : Nat → Bool} {t cnt : Nat} (h : 0 < (f2 t).toNat) (hc : cnt = pw_c f2 t) : pw_N f2 (cnt + 1) t := by
  refine ⟨?_, by omega⟩
  rcases pw_bt (f2 t) with q | q
  · exact q.2
  · omega
theorem pw_tkn {f : Nat → Bool} {t tk x : Nat} (h : tk = (decide (pw_c f t % 2 = 0)).toNat) (hx : (x = 1 ∧ (f t).toNat ≠ tk) ∨ (x = 0 ∧ (f t).toNat = tk)) : x = (decide (pw_c f (t + 1) % 2 = 0)).toNat := by
  have e : pw_c f (t + 1) = pw_c f t + (f t).toNat := rfl
  rcases pw_bt (f t) with q | q <;> rcases Nat.mod_two_eq_zero_or_one (pw_c f t) with z | z
  · rw [z, decide_eq_true rfl] at h
    have h : tk = 1 := h
    rw [decide_eq_false (by omega)]
    show x = 0
    omega
  · rw [z, decide_eq_false (by decide)] at h
    have h : tk = 0 := h
    rw [decide_eq_true (by omega)]
    show x = 1
    omega
  · rw [z, decide_eq_true rfl] at h
    have h : tk = 1 := h
    rw [decide_eq_true (by omega)]
    show x = 1
    omega
  · rw [z, decide_eq_false (by decide)] at h
    have h : tk = 0 := h
    rw [decide_eq_false (by omega)]
    show x = 0
    omega
