/-! the two constructors -/
def pi_B (dC : Nat → ClassId) (dI : Nat → Nat → Nat) (A : Nat → Prop) (o : Nat) (u : Nat × ClassId) (t : State) : Prop :=
  va_P (dC, dI) vwCl (pwc o u.1 0 u.2 (fun _ => none)) t.heap ∧ va_K (dC, dI) vwCl [(u.2, .object "PeriodWords$Word")] t ∧ va_D A (pwc o u.1 0 u.2 (fun _ => none))
def pi_Pre (av : List Value) (dC : Nat → ClassId) (dI : Nat → Nat → Nat) (sz : Nat) (tys : List (ClassId × FieldType)) (ws : va_W) : Array Value → State → Prop := fun a U => md_Pre av dC dI sz tys ws a U ∧ va_AO "PeriodWords$Word" U
theorem pi_blind {av : List Value} {dC : Nat → ClassId} {dI : Nat → Nat → Nat} {sz : Nat} {tys : List (ClassId × FieldType)} {ws : va_W} : FrameBlind (pi_Pre av dC dI sz tys ws) := fun a U g mk q => ⟨md_blind a U g mk q.1, va_AO.moved (u := U) (U := U.calling g mk a) (Vm.Alike.refl U.vm) q.2⟩
abbrev mi_S : Type := (Nat × Nat × Nat × Nat × Nat) × (ClassId × ClassId × ClassId × ClassId × ClassId)
def mi_B (dC : Nat → ClassId) (dI : Nat → Nat → Nat) (A : Nat → Prop) (o : Nat) (u : mi_S) (t : State) : Prop :=
  md_B dC dI A o u.1.1 u.1.2.1 u.1.2.2.1 u.1.2.2.2.1 u.1.2.2.2.2 u.2.1 u.2.2.1 u.2.2.2.1 u.2.2.2.2.1 u.2.2.2.2.2 (0, 0, 0, 0, fun _ => 0, fun _ => 0, fun _ => 0, fun _ => 0, fun _ => 0) t
