/-! the class's own cells, written -/
abbrev wc1 (a h pp : Nat) (f : Nat → Bool) (q : Nat) : va_W := [(a, .inr (ciW, [.int (nI h), .long (lN (pw_b f 0 h)), .int (nI pp), .long (lN (pw_b f h pp)), .int (nI (pw_c f h)), .int (nI (pw_o f h pp)), .ref q]))]
def kp_B (dC : Nat → ClassId) (dI : Nat → Nat → Nat) (A : Nat → Prop) (o q : Nat) (cW : ClassId) (a h pp : Nat) (f : Nat → Bool) (qq : Nat) (u : Nat × (Nat → Option Nat)) (t : State) : Prop :=
  va_P (dC, dI) vwCl (pwc o q u.1 cW u.2 ++ wc1 a h pp f qq) t.heap ∧ va_K (dC, dI) vwCl [(cW, .object "PeriodWords$Word")] t ∧ va_D A (pwc o q u.1 cW u.2 ++ wc1 a h pp f qq)
def pc_B (dC : Nat → ClassId) (dI : Nat → Nat → Nat) (A : Nat → Prop) (o q : Nat) (cW : ClassId) (u : Nat × (Nat → Option Nat)) (t : State) : Prop :=
  va_P (dC, dI) vwCl (pwc o q u.1 cW u.2) t.heap ∧ va_K (dC, dI) vwCl [(cW, .object "PeriodWords$Word")] t ∧ va_D A (pwc o q u.1 cW u.2)
