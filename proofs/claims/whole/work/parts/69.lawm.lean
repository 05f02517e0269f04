/-! the law's own helpers: the class's cells, and the law's out -/
def ws_L_make : List Cond := .codeWith y_L_make b_L_make 6 (some .int) [(0, 12, 15, 13)] :: TB
def ws_L_at : List Cond := .codeWith y_L_at b_L_at 5 (some .int) [(0, 10, 13, 19)] :: TB
def ws_L_between : List Cond := .codeWith y_L_between b_L_between 6 (some .int) [(0, 12, 15, 24)] :: TB
abbrev ot (w : Nat) (cL : ClassId) (g : Nat → Int64) : va_W := [(w, .inl (cL, 1, .inr (.inl g)))]
def lm_Pre (av : List Value) (dC : Nat → ClassId) (dI : Nat → Nat → Nat) (z0 sz o q n : Nat) (cW : ClassId) (wa : Nat → Option Nat) (W : Nat → pw_V) (w : Nat) (cL : ClassId) (g : Nat → Int64) : Array Value → State → Prop := va_Pc av (fun U => U.heap.size = sz ∧ va_P (dC, dI) vwCl (pwc o q n cW wa ++ ot w cL g) U.heap ∧ va_K (dC, dI) vwCl [(cW, .object "PeriodWords$Word"), (cL, .long)] U ∧ va_D (fun _ => True) (pwc o q n cW wa ++ ot w cL g) ∧ wdAll dC dI z0 U.heap U n wa W)
theorem lm_blind {av : List Value} {dC : Nat → ClassId} {dI : Nat → Nat → Nat} {z0 sz o q n : Nat} {cW : ClassId} {wa : Nat → Option Nat} {W : Nat → pw_V} {w : Nat} {cL : ClassId} {g : Nat → Int64} : FrameBlind (lm_Pre av dC dI z0 sz o q n cW wa W w cL g) := fun a U g mk x => by
  obtain ⟨x0, x1, xP, xK, xD, xW⟩ := x
  exact ⟨x0, x1, xP, va_K.moved (u := U) (U := U.calling g mk a) (Vm.Alike.refl U.vm) xK, xD, wdAll.moved (u := U) (U := U.calling g mk a) (Vm.Alike.refl U.vm) xW⟩
def lm_B (dC : Nat → ClassId) (dI : Nat → Nat → Nat) (A : Nat → Prop) (z0 o q : Nat) (cW : ClassId) (w : Nat) (cL : ClassId) (u : cs_S × (Nat → Int64)) (t : State) : Prop :=
  va_P (dC, dI) vwCl (pwc o q u.1.1 cW u.1.2.1 ++ ot w cL u.2) t.heap ∧ va_K (dC, dI) vwCl [(cW, .object "PeriodWords$Word"), (cL, .long)] t ∧ va_D A (pwc o q u.1.1 cW u.1.2.1 ++ ot w cL u.2) ∧ wdAll dC dI z0 t.heap t u.1.1 u.1.2.1 u.1.2.2
section LX
variable {p : Program} {l : Launch} {e : Env} {R : Room} {s : State} {m : MethodId} {args : Array Value} {below : List Frame} {meth : Method} {c : Code} {H H0 : Heap} {locs : List Loc} {cells slots : Nat} {Q : State → Prop}
variable {pc : Nat} {ls : Array Slot} {rest : List Value} {A : Nat → Prop} {cc : ByteArray} {D : va_G} {cl : List vw_C} {tys : List (ClassId × FieldType)} {ws : va_W} {a : Nat}
/-- lastore, which also tells that every other cell stays -/
theorem lx_last (hexec : p.tables.exec = Jvm.exec) (hb : c.code = cc) (hK : va_K D cl tys s) (hP : va_P D cl ws H) (hD : va_D A ws) (hS : va_S A H0 H locs) (q0 t0 : Nat) {cA : ClassId} {n : Nat} {f : Nat → Int64} (ha : ws[q0]? = some (a, .inl (cA, n, .inr (.inl f)))) (ht : tys[t0]? = some (cA, .long)) {i : Int32} {x : Int64} (hin : vp_in i n) (hdg : decode cc pc = .ok (.lastore, 1))
    (kk : ∀ (H1 : Heap) (locs1 : List Loc), (∀ q : Nat, q ≠ a → H1[q]? = H[q]?) → va_P D cl (ws.set q0 (a, .inl (cA, n, .inr (.inl (vp_updL f i.toNatClampNeg x))))) H1 → va_D A (ws.set q0 (a, .inl (cA, n, .inr (.inl (vp_updL f i.toNatClampNeg x))))) → va_S A H0 H1 locs1 → W p l e R s m args below meth c H1 locs1 cells slots Q (F0 m (pc + 1) ls rest)) : W p l e R s m args below meth c H locs cells slots Q (F0 m pc ls (.long x :: .int i :: .ref a :: rest)) := by
  refine W.last hexec hb (hP q0 _ ha) ((hK.2 t0 _ ht).1 n (fun j => .long (f j))) (fun q => by cases q) (by show ¬ (i < 0 ∨ (arrV _ _ _).slots.size ≤ _); rw [arrV_size]; exact hin) rfl rfl hdg fun H1 e z oq => ?_
  refine kk H1 _ oq (hP.set hD ha ?_ oq) (hD.set ha) (hS.put z oq (hD.2 q0 _ ha))
  show H1[a]? = some (vp_cell _ _)
  rw [e]
  rw [vp_cell_l, vp_cell_l, arrV_store]
  congr 2
  funext q
  by_cases hq : q = i.toNatClampNeg
  · subst hq
    simp [updV, vp_updL]
  · simp [updV, vp_updL, hq]
end LX
/-- where nothing old is written but cells below z0: the words stay -/
theorem lm_keep {dC : Nat → ClassId} {dI : Nat → Nat → Nat} {z0 n : Nat} {wa : Nat → Option Nat} {W : Nat → pw_V} {H H1 : Heap} {s : State} {A1 : Nat → Prop} (hk : ∀ q : Nat, q < H.size → ¬ A1 q → H1[q]? = H[q]?) (hA : ∀ q : Nat, z0 ≤ q → q < H.size → ¬ A1 q) (hall : wdAll dC dI z0 H s n wa W) : wdAll dC dI z0 H1 s n wa W := wdAll.kept (fun q h1 h2 => hk q h2 (hA q h1 h2)) hall
def mk_post (n : Nat) (Wd : Nat → pw_V) (x y z : Int32) (r : Int32) (u : cs_S) : Prop := (∃ k i j d, sp_mkv n x y z k i j d ∧ (k = 5 → 0 < pw_o (Wd j).2.2 (Wd j).1 (Wd j).2.1) ∧ cs_set (pw_mk k (Wd i).2.2 (Wd j).2.2 d) n Wd r u) ∨ ((¬ ∃ k i j d, sp_mkv n x y z k i j d) ∧ r = -1 ∧ u.1 = n ∧ ∀ i, i < n → u.2.2 i = Wd i)
def mk_px (n : Nat) (Wd : Nat → pw_V) (x y z : Int32) : Prop := ∃ i j d, sp_mkv n x y z 5 i j d ∧ pw_o (Wd j).2.2 (Wd j).1 (Wd j).2.1 = 0
