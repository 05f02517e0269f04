/-! the class's state: its words; a new one behind them -/
abbrev cs_S : Type := Nat × (Nat → Option Nat) × (Nat → pw_V)
def cs_B (dC : Nat → ClassId) (dI : Nat → Nat → Nat) (A : Nat → Prop) (z0 o q : Nat) (cW : ClassId) (u : cs_S) (t : State) : Prop :=
  va_P (dC, dI) vwCl (pwc o q u.1 cW u.2.1) t.heap ∧ va_K (dC, dI) vwCl [(cW, .object "PeriodWords$Word")] t ∧ va_D A (pwc o q u.1 cW u.2.1) ∧ wdAll dC dI z0 t.heap t u.1 u.2.1 u.2.2
def cs_set (F : Nat → Bool) (n : Nat) (W : Nat → pw_V) (r : Int32) (u : cs_S) : Prop :=
  ∃ h p, pw_Can F h p ∧ ((h ≤ 60 ∧ p ≤ 60 ∧ r = nI n ∧ u.1 = n + 1 ∧ u.2.2 n = (h, p, F) ∧ ∀ i, i < n → u.2.2 i = W i) ∨ (¬ (h ≤ 60 ∧ p ≤ 60) ∧ r = -1 ∧ u.1 = n ∧ ∀ i, i < n → u.2.2 i = W i))
def cs_Pre (av : List Value) (dC : Nat → ClassId) (dI : Nat → Nat → Nat) (z0 sz o q n : Nat) (cW : ClassId) (wa : Nat → Option Nat) (W : Nat → pw_V) : Array Value → State → Prop := va_Pc av (fun U => U.heap.size = sz ∧ va_P (dC, dI) vwCl (pwc o q n cW wa) U.heap ∧ va_K (dC, dI) vwCl [(cW, .object "PeriodWords$Word")] U ∧ va_D (fun _ => True) (pwc o q n cW wa) ∧ wdAll dC dI z0 U.heap U n wa W)
theorem cs_blind {av : List Value} {dC : Nat → ClassId} {dI : Nat → Nat → Nat} {z0 sz o q n : Nat} {cW : ClassId} {wa : Nat → Option Nat} {W : Nat → pw_V} : FrameBlind (cs_Pre av dC dI z0 sz o q n cW wa W) := fun a U g mk x => by
  obtain ⟨x0, x1, xP, xK, xD, xW⟩ := x
  exact ⟨x0, x1, xP, va_K.moved (u := U) (U := U.calling g mk a) (Vm.Alike.refl U.vm) xK, xD, wdAll.moved (u := U) (U := U.calling g mk a) (Vm.Alike.refl U.vm) xW⟩
theorem cs_keep {dC : Nat → ClassId} {dI : Nat → Nat → Nat} {z0 o q n : Nat} {cW : ClassId} {wa : Nat → Option Nat} {W : Nat → pw_V} {A : Nat → Prop} {H : Heap} {locs : List Loc} {s : State} (hAe : va_A (pwc o q n cW wa) s.heap.size = A) (hoz : o < z0) (hqz : q < z0) (hS : va_S A s.heap H locs) (hall : wdAll dC dI z0 s.heap s n wa W) : wdAll dC dI z0 H s n wa W := by
  refine wdAll.kept ?_ hall
  intro x hx hlt
  refine hS.2.1 x hlt ?_
  rw [← hAe]
  rintro (⟨k, e, h⟩ | h)
  · match k, h with
    | 0, h => simp at h; omega
    | 1, h => simp at h; omega
    | k + 2, h => simp at h
  · omega
/-- the new word under number n -/
theorem cs_new {dC : Nat → ClassId} {dI : Nat → Nat → Nat} {z0 n a : Nat} {wa : Nat → Option Nat} {W : Nat → pw_V} {H : Heap} {s : State} {v : pw_V} (hall : wdAll dC dI z0 H s n wa W) (hv : wdAt dC dI z0 H s a v) : wdAll dC dI z0 H s (n + 1) (va_up wa n (some a)) (fun i => if i = n then v else W i) := by
  intro i hi
  rcases Nat.lt_or_ge i n with z | z
  · obtain ⟨b, h1, h2⟩ := hall i z
    refine ⟨b, by rw [va_up_ne _ _ (by omega)]; exact h1, ?_⟩
    show wdAt dC dI z0 H s b (if i = n then v else W i)
    rw [if_neg (by omega)]
    exact h2
  · have e : i = n := by omega
    refine ⟨a, by rw [e, va_up_self], ?_⟩
    show wdAt dC dI z0 H s a (if i = n then v else W i)
    rw [if_pos e]
    exact hv
theorem cs_i2l (x : Int32) : ∃ X, X < 2 ^ 64 ∧ x.toInt64 = lN X ∧ ∀ t, t < 32 → X.testBit t = x.toBitVec.getLsbD t := by
  refine ⟨x.toInt64.toBitVec.toNat, x.toInt64.toBitVec.isLt, wb_inj (by rw [wb_tb]; simp), ?_⟩
  intro t ht
  show x.toInt64.toBitVec.getLsbD t = _
  rw [Int32.toBitVec_toInt64, BitVec.getLsbD_signExtend]
  simp [ht, show t < 64 by omega]
theorem cs_mod {F : Nat → Bool} {X s h : Nat} (hb : ∀ t, t < h → X.testBit t = F (s + t)) : X % 2 ^ h = pw_b F s h := by
  apply Nat.eq_of_testBit_eq
  intro i
  rw [Nat.testBit_mod_two_pow]
  rcases Nat.lt_or_ge i h with z | z
  · rw [decide_eq_true z, Bool.true_and, hb i z, pw_b_t F s h i z]
  · rw [decide_eq_false (by omega), Bool.false_and, pw_b_big F s h i z]
theorem pw_late0 (f g : Nat → Bool) : pw_mk 6 f g 0 = f := by
  funext t
  show (if t < 0 then false else f (t - 0)) = f t
  rw [if_neg (by omega), Nat.sub_zero]
