/-! what a contract's start is where nothing is written: cells and tables -/
def pw_R (av : List Value) (dC : Nat → ClassId) (dI : Nat → Nat → Nat) (tys : List (ClassId × FieldType)) (ws : va_W) : Array Value → State → Prop := va_Pc av (fun U => va_P (dC, dI) vwCl ws U.heap ∧ va_K (dC, dI) vwCl tys U)
theorem pw_R_blind {av : List Value} {dC : Nat → ClassId} {dI : Nat → Nat → Nat} {tys : List (ClassId × FieldType)} {ws : va_W} : FrameBlind (pw_R av dC dI tys ws) := fun a U g mk q => by
  obtain ⟨q0, qP, qK⟩ := q
  exact ⟨q0, qP, va_K.moved (u := U) (U := U.calling g mk a) (Vm.Alike.refl U.vm) qK⟩
theorem pw_R_S {dC : Nat → ClassId} {dI : Nat → Nat → Nat} {tys : List (ClassId × FieldType)} {ws : va_W} {s : State} {H : Heap} {As : List Value} (hP : va_P (dC, dI) vwCl ws H) (hK : va_K (dC, dI) vwCl tys s) : PreS s H (pw_R As dC dI tys ws) As :=
  ⟨pw_R_blind, fun U hU hW => ⟨rfl, by rw [hU]; exact hP, va_K.moved hW.alike hK⟩⟩
theorem pw_R_V {dC : Nat → ClassId} {dI : Nat → Nat → Nat} {tys : List (ClassId × FieldType)} {ws : va_W} {s : State} {H : Heap} {As : List Value} {b : Nat} {C : String} (hrec : ∃ cellB : Cell, H[b]? = some cellB ∧ cellB.vm.isStatics = false ∧ s.vm.findClass C = some cellB.cls) (hP : va_P (dC, dI) vwCl ws H) (hK : va_K (dC, dI) vwCl tys s) : PreV s H C b (pw_R (.ref b :: As) dC dI tys ws) As :=
  ⟨pw_R_blind, hrec, fun U hU hW => ⟨rfl, by rw [hU]; exact hP, va_K.moved hW.alike hK⟩⟩
theorem pw_P0 {dC : Nat → ClassId} {dI : Nat → Nat → Nat} {H : Heap} : va_P (dC, dI) vwCl [] H := fun k q h => by simp at h
/-! a word in the class: its cell, and the places of its 1s -/
def wd_ok (h pp : Nat) (f : Nat → Bool) : Prop := h ≤ 60 ∧ 0 < pp ∧ pp ≤ 60 ∧ pw_E f h pp
def wd_pl (h pp : Nat) (f : Nat → Bool) (pl : Nat → Int32) : Prop := (∀ j, j < pw_c f h → ∃ t, t < h ∧ pl j = nI t ∧ pw_N f (j + 1) t) ∧ ∀ j, j < pw_o f h pp → ∃ t, t < pp ∧ pl (pw_c f h + j) = nI t ∧ f (h + t) = true ∧ pw_c (fun i => f (h + i)) t = j
abbrev wd (a q : Nat) (cA : ClassId) (h pp : Nat) (f : Nat → Bool) (pl : Nat → Int32) : va_W := [(a, .inr (ciW, [.int (nI h), .long (lN (pw_b f 0 h)), .int (nI pp), .long (lN (pw_b f h pp)), .int (nI (pw_c f h)), .int (nI (pw_o f h pp)), .ref q])), (q, .inl (cA, pw_c f h + pw_o f h pp, .inl pl))]
theorem pw_at {f : Nat → Bool} {h p t : Nat} (E : pw_E f h p) (ht : h ≤ t) : f (h + (t - h) % p) = f t := by
  have e := Nat.mod_add_div (t - h) p
  rw [Nat.mul_comm] at e
  have a := pw_E_mul E ((t - h) / p) (h + (t - h) % p) (by omega)
  rw [← a]
  congr 1
  omega
theorem pw_nz (b : Bool) : narrow .boolean (.int (nI b.toNat)) = .int (nI b.toNat) := by cases b <;> decide
theorem pw_tk_le {f : Nat → Bool} {h p n : Nat} (E : pw_E f h p) (hp : 0 < p) (hn : 0 < n) (hex : 0 < pw_o f h p ∨ n ≤ pw_c f h) : pw_tk f n < h + n * p := by
  rcases Nat.eq_zero_or_pos (pw_o f h p) with z | z
  · obtain ⟨t, ht, N⟩ := pw_N_of (f := f) (T := h) hn (by omega)
    rw [pw_tk_of N]
    omega
  · have a := pw_c_per E hp n (Nat.le_refl h)
    have b : n ≤ n * pw_o f h p := Nat.le_mul_of_pos_right n z
    obtain ⟨t, ht, N⟩ := pw_N_of (f := f) (T := h + n * p) hn (by omega)
    rw [pw_tk_of N]
    exact ht
set_option maxHeartbeats 400000 in
theorem pq_kept (a b x y : Nat) : (nI a - nI b) + (nI x - nI y) = nI (a + x) - nI (b + y) := by
  rw [← nI_add, ← nI_add, Int32.sub_eq_add_neg, Int32.sub_eq_add_neg, Int32.sub_eq_add_neg, Int32.neg_add]
  rw [Int32.sub_eq_add_neg]
  ac_rfl
set_option maxHeartbeats 400000 in
theorem pq_maxs {m a b : Nat} (hm : m < 1073741824) (ha : a < 1073741824) (hb : b < 1073741824) : (if nI m < nI a - nI b then nI a - nI b else nI m) = nI (max m (a - b)) := by
  rcases Nat.lt_or_ge a b with h | h
  · have hn := pk_sneg hb h
    rw [if_neg, show a - b = 0 by omega, Nat.max_eq_left (Nat.zero_le m)]
    intro z
    have z0 := nI_pos' (n := m) (by omega)
    rw [Int32.lt_iff_toInt_lt] at z hn
    rw [Int32.le_iff_toInt_le] at z0
    omega
  · rw [pk_sub h, pq_max (by omega) (by omega)]
