set_option maxHeartbeats 4000000 in
set_option maxRecDepth 100000 in
theorem whole_start {p : Program} {e : Env} {s : State} {m : MethodId} {below : List Frame} {meth : Method} {c : Code} (l : Launch) (hst : l.stackTraces = false) {b L : Nat} {xs : Nat → Int32} (hL : L ≤ 2560) (C0 : lw_At p s m meth c b L xs) : W p l e room_1 s m #[Value.ref b] below meth c s.heap [] 0 0 (lw_Z below #[Value.ref b] s) (entryFrame m ([Value.ref b] : List Value).toArray 7) := by
  obtain ⟨hx, hb, hr, hml, hown0, hts0, hX, hbl, hlocks, hgv⟩ := id C0
  have hown : s.vm.findClass R_L = some m.cls := hown0
  have hts : ∀ w ∈ Cond.initialized R_P :: TB, w.before #[Value.ref b] s = true := fun w h => by
    rcases List.mem_cons.mp h with rfl | h
    · exact hts0 _ (tb_in mb_22)
    · exact hts0 w (tb_in h)
  obtain ⟨A, hAd⟩ : ∃ A : Nat → Prop, ∀ q, A q ↔ s.heap.size ≤ q := ⟨fun q => s.heap.size ≤ q, fun _ => Iff.rfl⟩
  have hA : ∀ q : Nat, s.heap.size ≤ q → A q := fun q h => (hAd q).mpr h
  have hbA : ¬ A b := fun h => absurd ((hAd b).mp h) (Nat.not_le.mpr hbl)
  have htxI := ltx_I hts0 hgv
  have htxN := ltx_N hts0 hgv
  have htxA := ltx_A hts0 hgv
  have hover : va_AO "PeriodWords$Word" s := va_AO.of (hts0 (.arrayOver (.object "PeriodWords$Word")) (List.mem_of_getElem? (i := 44) (by decide +kernel)))
  obtain ⟨k0, iS0, hKn0⟩ := u_known (C := R_D) (T := F_D) (N := 6) (n := 6) hts (fun w h => List.mem_cons_of_mem _ (in_D w h)) (hts (.instantiable R_D 6) (List.mem_cons_of_mem _ mb_115))
  obtain ⟨k1, iS1, hKn1⟩ := u_known (C := R_W) (T := F_W) (N := 7) (n := 7) hts (fun w h => List.mem_cons_of_mem _ (in_W w h)) (hts (.instantiable R_W 7) (List.mem_cons_of_mem _ mb_56))
  obtain ⟨k2, iS2, hKn2⟩ := u_known (C := R_P) (T := F_P) (N := 2) (n := 2) hts (fun w h => List.mem_cons_of_mem _ (in_P w h)) (hts (.instantiable R_P 2) (List.mem_cons_of_mem _ mb_36))
  obtain ⟨k3, iS3, hKn3⟩ := u_known (C := R_M) (T := F_M) (N := 9) (n := 9) hts (fun w h => List.mem_cons_of_mem _ (in_M w h)) (hts (.instantiable R_M 9) (List.mem_cons_of_mem _ mb_378))
  obtain ⟨dC, dI, hKc0⟩ : ∃ (dC : Nat → ClassId) (dI : Nat → Nat → Nat), ∀ (k : Nat) (q : vw_C), vwCl[k]? = some q → u_Kn s q.1 q.2.1 q.2.2 (dC k) (dI k) := by
    refine ⟨fun k => if k = 0 then k0 else if k = 1 then k1 else if k = 2 then k2 else k3, fun k => if k = 0 then iS0 else if k = 1 then iS1 else if k = 2 then iS2 else iS3, ?_⟩
    intro k q hq
    match k, hq with
    | 0, hq => cases hq; exact hKn0
    | 1, hq => cases hq; exact hKn1
    | 2, hq => cases hq; exact hKn2
    | 3, hq => cases hq; exact hKn3
    | k + 4, hq => simp at hq
  have hS : va_S A s.heap s.heap [] := va_S.rf
  have hK : va_K (dC, dI) vwCl [] s := ⟨hKc0, fun k q h => by simp at h⟩
  have hP : va_P (dC, dI) vwCl [] s.heap := fun k q h => by simp at h
  have hD : va_D A [] := ⟨fun i j p q h => by simp at h, fun k q h => by simp at h⟩
  have hl := lv_entry ([.ref b]) (n := 7) (Nat.le_of_ble_eq_true rfl)
  rw [lg_entry_eq]
  generalize (lg_sl ([.ref b]) ++ List.replicate (7 - (lg_sl ([.ref b])).length) Slot.unset).toArray = ls at hl ⊢
  have hl : lv_has ls 7 [(0, .ref b)] := hl
  refine va_new (ci := ciP) (fs := [.null, .int (0)]) (C := R_P) (T := F_P) (N := 2) hx hb hts (fun w h => List.mem_cons_of_mem _ (in_P w h)) t_P t_P_ok hown (hts (.classLink R_L 8 R_P) (List.mem_cons_of_mem _ mb_35)) (hts (.instantiable R_P 2) (List.mem_cons_of_mem _ mb_36)) (hts (.initialized R_P) (List.mem_cons_of_mem _ mb_22)) hK hP hD hS hA rfl (fun j hj => by rcases (show j = 0 ∨ j = 1 by omega) with rfl | rfl <;> rfl) (Nat.le_of_ble_eq_true rfl) (Nat.le_of_ble_eq_true rfl) d_L_law_0 (fun q_0 H hP hD hS => ?_)
  have hP : va_P (dC, dI) vwCl [(q_0, .inr (ciP, [.null, .int (0)]))] H := hP
  have hD : va_D A [(q_0, .inr (ciP, [.null, .int (0)]))] := hD
  refine W.widen (k := 1) (n := 2) (by omega) (by omega) ?_
  refine lv_dup hx hb d_L_law_3 rfl ?_
  have hPc := hP
  have hDc := hD
  have hKc := hK.sub (tys' := []) [] rfl
  have hFc := va_free (wc := [(q_0, .inr (ciP, [.null, .int (0)]))]) hD hS hA [0] rfl
  refine va_callv (va_runI (As := []) (rest := [.ref q_0]) ⟨hx, hb, hml, hown, hts⟩ (c_P_init l dC dI (o := q_0)) (cwI 0 hts (gd_I mb_39) rfl rfl rfl (hts (.initialized R_P) (List.mem_cons_of_mem _ mb_22)) (hts (.methodLink R_L 26 y_P_init) (List.mem_cons_of_mem _ mb_37)) (hts (.instanceMethod y_P_init) (List.mem_cons_of_mem _ mb_38)) rfl (by decide +kernel) ⟨(Nat.le_of_ble_eq_true rfl), (Nat.le_of_ble_eq_true rfl)⟩) ⟨pi_blind, fun U hU hW => ⟨⟨rfl, by rw [hU], by rw [hU]; exact hPc, va_K.moved hW.alike hKc, hDc.weaken (fun _ _ _ _ => trivial)⟩, va_AO.moved hW.alike hover⟩⟩ rfl rfl hl.1 rfl (lv_room (Nat.le_of_ble_eq_true rfl)) d_L_law_4 ⟨(Nat.le_of_ble_eq_true rfl), (Nat.le_of_ble_eq_true rfl)⟩) hS (fun q _ h => hFc q h) hFc (fun u_4 t_ H1 locs ht_ hvm_ hr_4 hB_ hz1_ hk1_ hS => ?_)
  obtain ⟨q, cW⟩ := u_4
  obtain ⟨hP1_, hK1_, hD1_⟩ := hB_
  rw [ht_] at hP1_
  have hK1s := va_K.moved hvm_.symm hK1_
  obtain ⟨hP, hD⟩ := va_join (wr := []) (w1 := [(q_0, .inr (ciP, [.ref q, .int (nI (0))])), (q, .inl (cW, 40, .inr (.inr (.inr (.inr (fun _ => none))))))]) hP hD [0] [] rfl rfl (by decide) (by decide) hk1_ hFc hP1_ hD1_
  have hK := hK.app hK1s
  generalize H1 = H at hP hS ⊢
  have hP : va_P (dC, dI) vwCl [(q_0, .inr (ciP, [.ref q, .int (nI (0))])), (q, .inl (cW, 40, .inr (.inr (.inr (.inr (fun _ => none))))))] H := hP
  have hD : va_D A [(q_0, .inr (ciP, [.ref q, .int (nI (0))])), (q, .inl (cW, 40, .inr (.inr (.inr (.inr (fun _ => none))))))] := hD
  have hK : va_K (dC, dI) vwCl [(cW, .object "PeriodWords$Word")] s := hK
  refine lv_astore_n (lv' := [(1, .ref q_0), (0, .ref b)]) hx hb d_L_law_7 rfl hl (by decide) rfl (fun ls hl => ?_)
  refine va_new (ci := ciM) (fs := [.int (0), .int (0), .null, .null, .null, .null, .null, .int (0), .int (0)]) (C := R_M) (T := F_M) (N := 9) hx hb hts (fun w h => List.mem_cons_of_mem _ (in_M w h)) t_M t_M_ok hown (hts (.classLink R_L 27 R_M) (List.mem_cons_of_mem _ mb_377)) (hts (.instantiable R_M 9) (List.mem_cons_of_mem _ mb_378)) (hts (.initialized R_M) (List.mem_cons_of_mem _ mb_23)) hK hP hD hS hA rfl (fun j hj => by rcases (show j = 0 ∨ j = 1 ∨ j = 2 ∨ j = 3 ∨ j = 4 ∨ j = 5 ∨ j = 6 ∨ j = 7 ∨ j = 8 by omega) with rfl | rfl | rfl | rfl | rfl | rfl | rfl | rfl | rfl <;> rfl) (Nat.le_of_ble_eq_true rfl) (Nat.le_of_ble_eq_true rfl) d_L_law_8 (fun q_8 H hP hD hS => ?_)
  have hP : va_P (dC, dI) vwCl [(q_0, .inr (ciP, [.ref q, .int (nI (0))])), (q, .inl (cW, 40, .inr (.inr (.inr (.inr (fun _ => none)))))), (q_8, .inr (ciM, [.int (0), .int (0), .null, .null, .null, .null, .null, .int (0), .int (0)]))] H := hP
  have hD : va_D A [(q_0, .inr (ciP, [.ref q, .int (nI (0))])), (q, .inl (cW, 40, .inr (.inr (.inr (.inr (fun _ => none)))))), (q_8, .inr (ciM, [.int (0), .int (0), .null, .null, .null, .null, .null, .int (0), .int (0)]))] := hD
  refine W.widen (k := 3) (n := 51) (by omega) (by omega) ?_
  refine lv_dup hx hb d_L_law_11 rfl ?_
  have hPc := hP.sub (ws' := [(q_8, .inr (ciM, [.int (0), .int (0), .null, .null, .null, .null, .null, .int (0), .int (0)]))]) [2] rfl
  have hDc := hD.sub (ws' := [(q_8, .inr (ciM, [.int (0), .int (0), .null, .null, .null, .null, .null, .int (0), .int (0)]))]) [2] (by decide) rfl
  have hKc := hK.sub (tys' := []) [] rfl
  have hFc := va_free (wc := [(q_8, .inr (ciM, [.int (0), .int (0), .null, .null, .null, .null, .null, .int (0), .int (0)]))]) hD hS hA [2] rfl
  refine va_callv (va_runI (As := []) (rest := [.ref q_8]) ⟨hx, hb, hml, hown, hts⟩ (c_M_init l dC dI (o := q_8)) (cwI 0 hts (gd_I mb_381) rfl rfl rfl (hts (.initialized R_M) (List.mem_cons_of_mem _ mb_23)) (hts (.methodLink R_L 29 y_M_init) (List.mem_cons_of_mem _ mb_379)) (hts (.instanceMethod y_M_init) (List.mem_cons_of_mem _ mb_380)) rfl (by decide +kernel) ⟨(Nat.le_of_ble_eq_true rfl), (Nat.le_of_ble_eq_true rfl)⟩) ⟨md_blind, fun U hU hW => ⟨rfl, by rw [hU], by rw [hU]; exact hPc, va_K.moved hW.alike hKc, hDc.weaken (fun _ _ _ _ => trivial)⟩⟩ rfl rfl hl.1 rfl (lv_room (Nat.le_of_ble_eq_true rfl)) d_L_law_12 ⟨(Nat.le_of_ble_eq_true rfl), (Nat.le_of_ble_eq_true rfl)⟩) hS (fun q _ h => hFc q h) hFc (fun u_12 t_ H1 locs ht_ hvm_ hr_12 hB_ hz1_ hk1_ hS => ?_)
  obtain ⟨⟨a1, a2, a3, a4, a5⟩, ⟨c1, c2, c3, c4, c5⟩⟩ := u_12
  obtain ⟨hP1_, hK1_, hD1_⟩ := hB_
  rw [ht_] at hP1_
  have hK1s := va_K.moved hvm_.symm hK1_
  obtain ⟨hP, hD⟩ := va_join (wr := [(q_0, .inr (ciP, [.ref q, .int (nI (0))])), (q, .inl (cW, 40, .inr (.inr (.inr (.inr (fun _ => none))))))]) (w1 := [(q_8, .inr (ciM, [.int (0), .int (nI (0)), .ref a1, .ref a2, .ref a3, .ref a4, .ref a5, .int (0), .int (0)])), (a1, .inl (c1, 40, .inl (fun _ => 0))), (a2, .inl (c2, 40, .inl (fun _ => 0))), (a3, .inl (c3, 40, .inr (.inl (fun _ => 0)))), (a4, .inl (c4, 40, .inr (.inl (fun _ => 0)))), (a5, .inl (c5, 7400, .inl (fun _ => 0)))]) hP hD [2] [0, 1] rfl rfl (by decide) (by decide) hk1_ hFc hP1_ hD1_
  have hK := hK.app hK1s
  generalize H1 = H at hP hS ⊢
  have hP : va_P (dC, dI) vwCl [(q_0, .inr (ciP, [.ref q, .int (nI (0))])), (q, .inl (cW, 40, .inr (.inr (.inr (.inr (fun _ => none)))))), (q_8, .inr (ciM, [.int (0), .int (nI (0)), .ref a1, .ref a2, .ref a3, .ref a4, .ref a5, .int (0), .int (0)])), (a1, .inl (c1, 40, .inl (fun _ => 0))), (a2, .inl (c2, 40, .inl (fun _ => 0))), (a3, .inl (c3, 40, .inr (.inl (fun _ => 0)))), (a4, .inl (c4, 40, .inr (.inl (fun _ => 0)))), (a5, .inl (c5, 7400, .inl (fun _ => 0)))] H := hP
  have hD : va_D A [(q_0, .inr (ciP, [.ref q, .int (nI (0))])), (q, .inl (cW, 40, .inr (.inr (.inr (.inr (fun _ => none)))))), (q_8, .inr (ciM, [.int (0), .int (nI (0)), .ref a1, .ref a2, .ref a3, .ref a4, .ref a5, .int (0), .int (0)])), (a1, .inl (c1, 40, .inl (fun _ => 0))), (a2, .inl (c2, 40, .inl (fun _ => 0))), (a3, .inl (c3, 40, .inr (.inl (fun _ => 0)))), (a4, .inl (c4, 40, .inr (.inl (fun _ => 0)))), (a5, .inl (c5, 7400, .inl (fun _ => 0)))] := hD
  have hK : va_K (dC, dI) vwCl [(cW, .object "PeriodWords$Word"), (c1, .int), (c2, .int), (c3, .long), (c4, .long), (c5, .boolean)] s := hK
  refine lv_astore_n (lv' := [(2, .ref q_8), (1, .ref q_0), (0, .ref b)]) hx hb d_L_law_15 rfl hl (by decide) rfl (fun ls hl => ?_)
  refine lv_iconst (v := nI 1) hx hb d_L_law_16 (by decide) ?_
  refine va_newa (atype := .long) (ty := .long) (n := nI 1) (N' := 1) (a0 := (1, .inr (.inl (fun _ => 0)))) hx hb (hts (.arrayClass .long) (List.mem_cons_of_mem _ mb_411)) rfl hK hP hD hS hA (fun _ => rfl) (nI_pos (by omega)) (pq_cl (by omega)) (pq_nb .long (by decide) (by omega)) (Nat.le_of_ble_eq_true rfl) (Nat.le_of_ble_eq_true rfl) d_L_law_17 (fun q_17 cA_17 H hK hP hD hS => ?_)
  have hK : va_K (dC, dI) vwCl [(cW, .object "PeriodWords$Word"), (c1, .int), (c2, .int), (c3, .long), (c4, .long), (c5, .boolean), (cA_17, .long)] s := hK
  have hP : va_P (dC, dI) vwCl [(q_0, .inr (ciP, [.ref q, .int (nI (0))])), (q, .inl (cW, 40, .inr (.inr (.inr (.inr (fun _ => none)))))), (q_8, .inr (ciM, [.int (0), .int (nI (0)), .ref a1, .ref a2, .ref a3, .ref a4, .ref a5, .int (0), .int (0)])), (a1, .inl (c1, 40, .inl (fun _ => 0))), (a2, .inl (c2, 40, .inl (fun _ => 0))), (a3, .inl (c3, 40, .inr (.inl (fun _ => 0)))), (a4, .inl (c4, 40, .inr (.inl (fun _ => 0)))), (a5, .inl (c5, 7400, .inl (fun _ => 0))), (q_17, .inl (cA_17, 1, .inr (.inl (fun _ => 0))))] H := hP
  have hD : va_D A [(q_0, .inr (ciP, [.ref q, .int (nI (0))])), (q, .inl (cW, 40, .inr (.inr (.inr (.inr (fun _ => none)))))), (q_8, .inr (ciM, [.int (0), .int (nI (0)), .ref a1, .ref a2, .ref a3, .ref a4, .ref a5, .int (0), .int (0)])), (a1, .inl (c1, 40, .inl (fun _ => 0))), (a2, .inl (c2, 40, .inl (fun _ => 0))), (a3, .inl (c3, 40, .inr (.inl (fun _ => 0)))), (a4, .inl (c4, 40, .inr (.inl (fun _ => 0)))), (a5, .inl (c5, 7400, .inl (fun _ => 0))), (q_17, .inl (cA_17, 1, .inr (.inl (fun _ => 0))))] := hD
  refine W.widen (k := 9) (n := 7612) (by omega) (by omega) ?_
  refine lv_astore_n (lv' := [(3, .ref q_17), (2, .ref q_8), (1, .ref q_0), (0, .ref b)]) hx hb d_L_law_19 rfl hl (by decide) rfl (fun ls hl => ?_)
  refine lv_iconst (v := nI 0) hx hb d_L_law_20 (by decide) ?_
  refine lv_istore (lv' := [(4, .int (nI (0))), (3, .ref q_17), (2, .ref q_8), (1, .ref q_0), (0, .ref b)]) hx hb d_L_law_21 hl (by decide) rfl (fun ls hl => ?_)
  obtain ⟨z0, hz0_⟩ : ∃ z, z = H.size := ⟨_, rfl⟩
  have hzH : z0 ≤ H.size := by omega
  have hoz := Nat.lt_of_lt_of_eq (vx_lt hP (k := 0) rfl) hz0_.symm
  have hqz := Nat.lt_of_lt_of_eq (vx_lt hP (k := 1) rfl) hz0_.symm
  have hmz := Nat.lt_of_lt_of_eq (vx_lt hP (k := 2) rfl) hz0_.symm
  have h1z := Nat.lt_of_lt_of_eq (vx_lt hP (k := 3) rfl) hz0_.symm
  have h2z := Nat.lt_of_lt_of_eq (vx_lt hP (k := 4) rfl) hz0_.symm
  have h3z := Nat.lt_of_lt_of_eq (vx_lt hP (k := 5) rfl) hz0_.symm
  have h4z := Nat.lt_of_lt_of_eq (vx_lt hP (k := 6) rfl) hz0_.symm
  have h5z := Nat.lt_of_lt_of_eq (vx_lt hP (k := 7) rfl) hz0_.symm
  have hwz := Nat.lt_of_lt_of_eq (vx_lt hP (k := 8) rfl) hz0_.symm
  have hzo := (hAd _).mp (hD.2 0 _ rfl)
  have hzq := (hAd _).mp (hD.2 1 _ rfl)
  have hm : mdAll (fun _ => 0) (fun _ => 0) (fun _ => 0) (fun _ => 0) 0 (fun _ => (0, 0, fun _ => false)) := fun i hi => absurd hi (Nat.not_lt_zero i)
  have hall : wdAll dC dI z0 H s 0 (fun _ => none) (fun _ => (0, 0, fun _ => false)) := fun i hi => absurd hi (Nat.not_lt_zero i)
  have hn : 0 ≤ 40 := by decide
  have B_23 : ∀ (k_ : Nat) (k : Nat) (n : Nat) (wa : Nat → Option Nat) (Wd : Nat → pw_V) (th : Int32) (mo : Int32) (le : Int32) (xh : Nat → Int32) (yr : Nat → Int32) (xb : Nat → Int64) (yb : Nat → Int64) (bs : Nat → Int32) (gg : Nat → Int64) (H : Heap) (locs : List Loc) (ls : Array Slot), (L - 5 * k) < k_ → (5 * k ≤ 2560) → (n ≤ 40) → (z0 ≤ H.size) → (wdAll dC dI z0 H s n wa Wd) → (mdAll xh yr xb yb n Wd) → (va_P (dC, dI) vwCl [(q_0, .inr (ciP, [.ref q, .int (nI (n))])), (q, .inl (cW, 40, .inr (.inr (.inr (.inr wa))))), (q_8, .inr (ciM, [.int (th), .int (nI (n)), .ref a1, .ref a2, .ref a3, .ref a4, .ref a5, .int (mo), .int (le)])), (a1, .inl (c1, 40, .inl xh)), (a2, .inl (c2, 40, .inl yr)), (a3, .inl (c3, 40, .inr (.inl xb))), (a4, .inl (c4, 40, .inr (.inl yb))), (a5, .inl (c5, 7400, .inl bs)), (q_17, .inl (cA_17, 1, .inr (.inl gg)))] H) → (va_D A [(q_0, .inr (ciP, [.ref q, .int (nI (n))])), (q, .inl (cW, 40, .inr (.inr (.inr (.inr wa))))), (q_8, .inr (ciM, [.int (th), .int (nI (n)), .ref a1, .ref a2, .ref a3, .ref a4, .ref a5, .int (mo), .int (le)])), (a1, .inl (c1, 40, .inl xh)), (a2, .inl (c2, 40, .inl yr)), (a3, .inl (c3, 40, .inr (.inl xb))), (a4, .inl (c4, 40, .inr (.inl yb))), (a5, .inl (c5, 7400, .inl bs)), (q_17, .inl (cA_17, 1, .inr (.inl gg)))]) → (va_S A s.heap H locs) → lv_has ls 7 [(0, .ref b), (1, .ref q_0), (2, .ref q_8), (3, .ref q_17), (4, .int (nI (5 * k)))] → W p l e room_1 s m #[Value.ref b] below meth c H locs (9 + 5 * k) (7612 + 260 * k) (lw_Z below #[Value.ref b] s) (F0 m 23 ls []) := by
    intro k_
    induction k_ with
    | zero => intro k n wa Wd th mo le xh yr xb yb bs gg H locs ls h_; omega
    | succ k_ ih_23 =>
      intro k n wa Wd th mo le xh yr xb yb bs gg H locs ls hm_ hkL hn hzH hall hm hP hD hS hl
      refine lv_iload hx hb d_L_law_23 (lv_at hl 4 rfl) ?_
      refine lv_aload_n hx hb d_L_law_25 rfl (lv_at hl 0 rfl) ?_
      refine va_slen hx hb hX hbl hbA hS d_L_law_26 ?_
      refine pq_top (y := .int (nI L)) rfl ?_
      refine lv_iconst (v := nI 5) hx hb d_L_law_27 (by decide) ?_
      refine lv_isub hx hb d_L_law_28 ?_
      refine lv_topi (fun x_1 ex_1 => ?_)
      refine pq_top (y := .int (nI L - nI 5)) (by rw [ex_1]) ?_
      refine lv_icmp_gt (tgt := 588) hx hb d_L_law_29 (by decide) (fun c_29 => ?_) (fun c_29 => ?_)
      · refine lv_iconst (v := nI 1) hx hb d_L_law_588 (by decide) ?_
        refine pq_top (y := .int 1) rfl ?_
        refine va_forget (fun q_ h_ => (hAd _).mp (hS.2.2 q_ h_)) ?_
        refine W.widen (k := 601024) (n := 7293034) (by omega) (by omega) ?_
        exact lw_ret hx hb hr hlocks d_L_law_589
      · have hi5 : 5 * k + 5 ≤ L := (j_loop (by omega) hL).mp c_29
        have B_582 : ∀ (n : Nat) (wa : Nat → Option Nat) (Wd : Nat → pw_V) (th : Int32) (mo : Int32) (le : Int32) (xh : Nat → Int32) (yr : Nat → Int32) (xb : Nat → Int64) (yb : Nat → Int64) (bs : Nat → Int32) (gg : Nat → Int64) (H : Heap) (locs : List Loc) (ls : Array Slot), (n ≤ 40) → (z0 ≤ H.size) → (wdAll dC dI z0 H s n wa Wd) → (mdAll xh yr xb yb n Wd) → (va_P (dC, dI) vwCl [(q_0, .inr (ciP, [.ref q, .int (nI (n))])), (q, .inl (cW, 40, .inr (.inr (.inr (.inr wa))))), (q_8, .inr (ciM, [.int (th), .int (nI (n)), .ref a1, .ref a2, .ref a3, .ref a4, .ref a5, .int (mo), .int (le)])), (a1, .inl (c1, 40, .inl xh)), (a2, .inl (c2, 40, .inl yr)), (a3, .inl (c3, 40, .inr (.inl xb))), (a4, .inl (c4, 40, .inr (.inl yb))), (a5, .inl (c5, 7400, .inl bs)), (q_17, .inl (cA_17, 1, .inr (.inl gg)))] H) → (va_D A [(q_0, .inr (ciP, [.ref q, .int (nI (n))])), (q, .inl (cW, 40, .inr (.inr (.inr (.inr wa))))), (q_8, .inr (ciM, [.int (th), .int (nI (n)), .ref a1, .ref a2, .ref a3, .ref a4, .ref a5, .int (mo), .int (le)])), (a1, .inl (c1, 40, .inl xh)), (a2, .inl (c2, 40, .inl yr)), (a3, .inl (c3, 40, .inr (.inl xb))), (a4, .inl (c4, 40, .inr (.inl yb))), (a5, .inl (c5, 7400, .inl bs)), (q_17, .inl (cA_17, 1, .inr (.inl gg)))]) → (va_S A s.heap H locs) → lv_has ls 7 [(0, .ref b), (1, .ref q_0), (2, .ref q_8), (3, .ref q_17), (4, .int (nI (5 * k)))] → W p l e room_1 s m #[Value.ref b] below meth c H locs (9 + 5 * (k + 1)) (7612 + 260 * (k + 1)) (lw_Z below #[Value.ref b] s) (F0 m 582 ls []) := by
          intro n wa Wd th mo le xh yr xb yb bs gg H locs ls hn hzH hall hm hP hD hS hl
          refine W.widen (k := 9 + 5 * (k + 1)) (n := 7612 + 260 * (k + 1)) (by omega) (by omega) ?_
          refine lv_iinc (v := nI (5 * (k + 1))) (lv' := [(4, .int (nI (5 * (k + 1)))), (0, .ref b), (1, .ref q_0), (2, .ref q_8), (3, .ref q_17)]) hx hb d_L_law_582 hl (k := 4) rfl (by rw [Nat.mul_succ]; exact nI_add _ 5) (by decide) rfl (fun ls hl => ?_)
          refine lv_goto (tgt := 23) hx hb d_L_law_585 (by decide) ?_
          exact ih_23 (k + 1) (n) (wa) (Wd) (th) (mo) (le) (xh) (yr) (xb) (yb) (bs) (gg) _ _ ls (by omega) (by omega) hn hzH hall hm hP hD hS (lv_sub hl [1, 2, 3, 4, 0] rfl)
        refine lv_aload_n hx hb d_L_law_32 rfl (lv_at hl 0 rfl) ?_
        refine lv_iload hx hb d_L_law_33 (lv_at hl 4 rfl) ?_
        refine va_sld hx hb hX hbl hbA hS (vp_in_nI (n := (5 * k)) (by omega) (by omega)) d_L_law_35 ?_
        refine pq_top (y := .int (xs (5 * k))) (by rw [pq_cl (by omega)]) ?_
        refine lv_bipush (v := nI 15) hx hb d_L_law_36 (by decide) ?_
        refine lv_iand hx hb d_L_law_38 ?_
        refine lv_topi (fun x_2 ex_2 => ?_)
        refine pq_top (y := .int (xs (5 * k) &&& nI 15)) (by rw [ex_2]) ?_
        rcases sw16 (xs (5 * k)) with ⟨j_, hj_, ej_⟩ | hout_
        · refine pq_top (y := .int (nI j_)) (by rw [ej_]) ?_
          rcases (show j_ = 0 ∨ j_ = 1 ∨ j_ = 2 ∨ j_ = 3 ∨ j_ = 4 ∨ j_ = 5 ∨ j_ = 6 ∨ j_ = 7 ∨ j_ = 8 ∨ j_ = 9 ∨ j_ = 10 by omega) with rfl | rfl | rfl | rfl | rfl | rfl | rfl | rfl | rfl | rfl | rfl
          · refine lv_tableIn (tgt := 96) hx hb d_L_law_39 (by decide) (by decide) rfl (by decide) ?_
            refine lv_aload_n hx hb d_L_law_96 rfl (lv_at hl 1 rfl) ?_
            refine lv_aload_n hx hb d_L_law_97 rfl (lv_at hl 0 rfl) ?_
            refine lv_iload hx hb d_L_law_98 (lv_at hl 4 rfl) ?_
            refine lv_iconst (v := nI 1) hx hb d_L_law_100 (by decide) ?_
            refine pq_iadd (a := (5 * k)) (b := 1) hx hb d_L_law_101 ?_
            refine va_sld hx hb hX hbl hbA hS (vp_in_nI (n := ((5 * k) + 1)) (by omega) (by omega)) d_L_law_102 ?_
            refine pq_top (y := .int (xs ((5 * k) + 1))) (by rw [pq_cl (by omega)]) ?_
            refine lv_aload_n hx hb d_L_law_103 rfl (lv_at hl 0 rfl) ?_
            refine lv_iload hx hb d_L_law_104 (lv_at hl 4 rfl) ?_
            refine lv_iconst (v := nI 2) hx hb d_L_law_106 (by decide) ?_
            refine pq_iadd (a := (5 * k)) (b := 2) hx hb d_L_law_107 ?_
            refine va_sld hx hb hX hbl hbA hS (vp_in_nI (n := ((5 * k) + 2)) (by omega) (by omega)) d_L_law_108 ?_
            refine pq_top (y := .int (xs ((5 * k) + 2))) (by rw [pq_cl (by omega)]) ?_
            refine lv_aload_n hx hb d_L_law_109 rfl (lv_at hl 0 rfl) ?_
            refine lv_iload hx hb d_L_law_110 (lv_at hl 4 rfl) ?_
            refine lv_iconst (v := nI 3) hx hb d_L_law_112 (by decide) ?_
            refine pq_iadd (a := (5 * k)) (b := 3) hx hb d_L_law_113 ?_
            refine va_sld hx hb hX hbl hbA hS (vp_in_nI (n := ((5 * k) + 3)) (by omega) (by omega)) d_L_law_114 ?_
            refine pq_top (y := .int (xs ((5 * k) + 3))) (by rw [pq_cl (by omega)]) ?_
            refine lv_aload_n hx hb d_L_law_115 rfl (lv_at hl 0 rfl) ?_
            refine lv_iload hx hb d_L_law_116 (lv_at hl 4 rfl) ?_
            refine lv_iconst (v := nI 4) hx hb d_L_law_118 (by decide) ?_
            refine pq_iadd (a := (5 * k)) (b := 4) hx hb d_L_law_119 ?_
            refine va_sld hx hb hX hbl hbA hS (vp_in_nI (n := ((5 * k) + 4)) (by omega) (by omega)) d_L_law_120 ?_
            refine pq_top (y := .int (xs ((5 * k) + 4))) (by rw [pq_cl (by omega)]) ?_
            have hPc := hP.sub (ws' := [(q_0, .inr (ciP, [.ref q, .int (nI (n))])), (q, .inl (cW, 40, .inr (.inr (.inr (.inr wa)))))]) [0, 1] rfl
            have hDc := hD.sub (ws' := [(q_0, .inr (ciP, [.ref q, .int (nI (n))])), (q, .inl (cW, 40, .inr (.inr (.inr (.inr wa)))))]) [0, 1] (by decide) rfl
            have hKc := hK.sub (tys' := [(cW, .object "PeriodWords$Word")]) [0] rfl
            have hFc := va_free (wc := [(q_0, .inr (ciP, [.ref q, .int (nI (n))])), (q, .inl (cW, 40, .inr (.inr (.inr (.inr wa)))))]) hD hS hA [0, 1] rfl
            refine va_calli (va_runV (As := [.int (xs ((5 * k) + 1)), .int (xs ((5 * k) + 2)), .int (xs ((5 * k) + 3)), .int (xs ((5 * k) + 4))]) (rest := []) ⟨hx, hb, hml, hown, hts⟩ (c_P_word l dC dI (Wd := Wd) hn hoz hqz hzH) (cwV 4 hts (gd_V mb_52 mb_53 mb_54 mb_22 mb_55) rfl rfl rfl (by decide +kernel) ⟨(Nat.le_of_ble_eq_true rfl), (Nat.le_of_ble_eq_true rfl)⟩) ⟨cs_blind, va_recv hK hP (ci := ciP) (q0 := 0) rfl rfl, fun U hU hW => ⟨rfl, by rw [hU], by rw [hU]; exact hPc, va_K.moved hW.alike hKc, hDc.weaken (fun _ _ _ _ => trivial), by rw [hU]; exact wdAll.moved hW.alike hall⟩⟩ rfl rfl hl.1 rfl (lv_room (Nat.le_of_ble_eq_true rfl)) d_L_law_121 ⟨Nat.le_trans (m := 601024) (by omega) (Nat.le_of_ble_eq_true rfl), Nat.le_trans (m := 7293034) (by omega) (Nat.le_of_ble_eq_true rfl)⟩) hS (fun q _ h => hFc q h) hFc (fun r_121 u_121 t_ H1 locs ht_ hvm_ hr_121 hB_ hz1_ hk1_ hS => ?_)
            have hzH : z0 ≤ H1.size := Nat.le_trans hzH hz1_
            obtain ⟨n2, wa2, Wd2⟩ := u_121
            obtain ⟨hP1_, hK1_, hD1_, hall1_⟩ := hB_
            rw [ht_] at hP1_ hall1_
            have hall : wdAll dC dI z0 H1 s n2 wa2 Wd2 := wdAll.moved hvm_.symm hall1_
            obtain ⟨hP, hD⟩ := va_join (wr := [(q_8, .inr (ciM, [.int (th), .int (nI (n)), .ref a1, .ref a2, .ref a3, .ref a4, .ref a5, .int (mo), .int (le)])), (a1, .inl (c1, 40, .inl xh)), (a2, .inl (c2, 40, .inl yr)), (a3, .inl (c3, 40, .inr (.inl xb))), (a4, .inl (c4, 40, .inr (.inl yb))), (a5, .inl (c5, 7400, .inl bs)), (q_17, .inl (cA_17, 1, .inr (.inl gg)))]) (w1 := [(q_0, .inr (ciP, [.ref q, .int (nI (n2))])), (q, .inl (cW, 40, .inr (.inr (.inr (.inr wa2)))))]) hP hD [0, 1] [2, 3, 4, 5, 6, 7, 8] rfl rfl (by decide) (by decide) hk1_ hFc hP1_ hD1_
            generalize H1 = H at hP hS hall hzH ⊢
            have hP : va_P (dC, dI) vwCl [(q_8, .inr (ciM, [.int (th), .int (nI (n)), .ref a1, .ref a2, .ref a3, .ref a4, .ref a5, .int (mo), .int (le)])), (a1, .inl (c1, 40, .inl xh)), (a2, .inl (c2, 40, .inl yr)), (a3, .inl (c3, 40, .inr (.inl xb))), (a4, .inl (c4, 40, .inr (.inl yb))), (a5, .inl (c5, 7400, .inl bs)), (q_17, .inl (cA_17, 1, .inr (.inl gg))), (q_0, .inr (ciP, [.ref q, .int (nI (n2))])), (q, .inl (cW, 40, .inr (.inr (.inr (.inr wa2)))))] H := hP
            have hD : va_D A [(q_8, .inr (ciM, [.int (th), .int (nI (n)), .ref a1, .ref a2, .ref a3, .ref a4, .ref a5, .int (mo), .int (le)])), (a1, .inl (c1, 40, .inl xh)), (a2, .inl (c2, 40, .inl yr)), (a3, .inl (c3, 40, .inr (.inl xb))), (a4, .inl (c4, 40, .inr (.inl yb))), (a5, .inl (c5, 7400, .inl bs)), (q_17, .inl (cA_17, 1, .inr (.inl gg))), (q_0, .inr (ciP, [.ref q, .int (nI (n2))])), (q, .inl (cW, 40, .inr (.inr (.inr (.inr wa2)))))] := hD
            refine lv_aload_n hx hb d_L_law_124 rfl (lv_at hl 2 rfl) ?_
            refine lv_aload_n hx hb d_L_law_125 rfl (lv_at hl 0 rfl) ?_
            refine lv_iload hx hb d_L_law_126 (lv_at hl 4 rfl) ?_
            refine lv_iconst (v := nI 1) hx hb d_L_law_128 (by decide) ?_
            refine pq_iadd (a := (5 * k)) (b := 1) hx hb d_L_law_129 ?_
            refine va_sld hx hb hX hbl hbA hS (vp_in_nI (n := ((5 * k) + 1)) (by omega) (by omega)) d_L_law_130 ?_
            refine pq_top (y := .int (xs ((5 * k) + 1))) (by rw [pq_cl (by omega)]) ?_
            refine lv_aload_n hx hb d_L_law_131 rfl (lv_at hl 0 rfl) ?_
            refine lv_iload hx hb d_L_law_132 (lv_at hl 4 rfl) ?_
            refine lv_iconst (v := nI 2) hx hb d_L_law_134 (by decide) ?_
            refine pq_iadd (a := (5 * k)) (b := 2) hx hb d_L_law_135 ?_
            refine va_sld hx hb hX hbl hbA hS (vp_in_nI (n := ((5 * k) + 2)) (by omega) (by omega)) d_L_law_136 ?_
            refine pq_top (y := .int (xs ((5 * k) + 2))) (by rw [pq_cl (by omega)]) ?_
            refine lv_aload_n hx hb d_L_law_137 rfl (lv_at hl 0 rfl) ?_
            refine lv_iload hx hb d_L_law_138 (lv_at hl 4 rfl) ?_
            refine lv_iconst (v := nI 3) hx hb d_L_law_140 (by decide) ?_
            refine pq_iadd (a := (5 * k)) (b := 3) hx hb d_L_law_141 ?_
            refine va_sld hx hb hX hbl hbA hS (vp_in_nI (n := ((5 * k) + 3)) (by omega) (by omega)) d_L_law_142 ?_
            refine pq_top (y := .int (xs ((5 * k) + 3))) (by rw [pq_cl (by omega)]) ?_
            refine lv_aload_n hx hb d_L_law_143 rfl (lv_at hl 0 rfl) ?_
            refine lv_iload hx hb d_L_law_144 (lv_at hl 4 rfl) ?_
            refine lv_iconst (v := nI 4) hx hb d_L_law_146 (by decide) ?_
            refine pq_iadd (a := (5 * k)) (b := 4) hx hb d_L_law_147 ?_
            refine va_sld hx hb hX hbl hbA hS (vp_in_nI (n := ((5 * k) + 4)) (by omega) (by omega)) d_L_law_148 ?_
            refine pq_top (y := .int (xs ((5 * k) + 4))) (by rw [pq_cl (by omega)]) ?_
            have hPc := hP.sub (ws' := [(q_8, .inr (ciM, [.int (th), .int (nI (n)), .ref a1, .ref a2, .ref a3, .ref a4, .ref a5, .int (mo), .int (le)])), (a1, .inl (c1, 40, .inl xh)), (a2, .inl (c2, 40, .inl yr)), (a3, .inl (c3, 40, .inr (.inl xb))), (a4, .inl (c4, 40, .inr (.inl yb))), (a5, .inl (c5, 7400, .inl bs))]) [0, 1, 2, 3, 4, 5] rfl
            have hDc := hD.sub (ws' := [(q_8, .inr (ciM, [.int (th), .int (nI (n)), .ref a1, .ref a2, .ref a3, .ref a4, .ref a5, .int (mo), .int (le)])), (a1, .inl (c1, 40, .inl xh)), (a2, .inl (c2, 40, .inl yr)), (a3, .inl (c3, 40, .inr (.inl xb))), (a4, .inl (c4, 40, .inr (.inl yb))), (a5, .inl (c5, 7400, .inl bs))]) [0, 1, 2, 3, 4, 5] (by decide) rfl
            have hKc := hK.sub (tys' := [(c1, .int), (c2, .int), (c3, .long), (c4, .long), (c5, .boolean)]) [1, 2, 3, 4, 5] rfl
            have hFc := va_free (wc := [(q_8, .inr (ciM, [.int (th), .int (nI (n)), .ref a1, .ref a2, .ref a3, .ref a4, .ref a5, .int (mo), .int (le)])), (a1, .inl (c1, 40, .inl xh)), (a2, .inl (c2, 40, .inl yr)), (a3, .inl (c3, 40, .inr (.inl xb))), (a4, .inl (c4, 40, .inr (.inl yb))), (a5, .inl (c5, 7400, .inl bs))]) hD hS hA [0, 1, 2, 3, 4, 5] rfl
            refine va_calli (va_runV (As := [.int (xs ((5 * k) + 1)), .int (xs ((5 * k) + 2)), .int (xs ((5 * k) + 3)), .int (xs ((5 * k) + 4))]) (rest := [.int (r_121)]) ⟨hx, hb, hml, hown, hts⟩ (c_M_word l dC dI hn) (cwV 4 hts (gd_V mb_417 mb_418 mb_419 mb_23 mb_420) rfl rfl rfl (by decide +kernel) ⟨Nat.le_of_ble_eq_true rfl, Nat.le_of_ble_eq_true rfl⟩) ⟨md_blind, va_recv hK hP (ci := ciM) (q0 := 0) rfl rfl, fun U hU hW => ⟨rfl, by rw [hU], by rw [hU]; exact hPc, va_K.moved hW.alike hKc, hDc.weaken (fun _ _ _ _ => trivial)⟩⟩ rfl rfl hl.1 rfl (lv_room (Nat.le_of_ble_eq_true rfl)) d_L_law_149 ⟨Nat.le_trans (m := 601024) (by omega) (Nat.le_of_ble_eq_true rfl), Nat.le_trans (m := 7293034) (by omega) (Nat.le_of_ble_eq_true rfl)⟩) hS (fun q _ h => hFc q h) hFc (fun r_149 u_149 t_ H1 locs ht_ hvm_ hr_149 hB_ hz1_ hk1_ hS => ?_)
            obtain ⟨hP1_, hK1_, hD1_⟩ := hB_
            rw [ht_] at hP1_
            have hall := lm_keep hk1_ (md_out hmz h1z h2z h3z h4z h5z) hall
            have hzH : z0 ≤ H1.size := Nat.le_trans hzH hz1_
            have hj_ := j_word hn hm hr_121 hr_149
            obtain ⟨th2, m2, mo2, le2, xh2, yr2, xb2, yb2, bs2⟩ := u_149
            obtain ⟨hres_, hjn_, hn2_, hm2_⟩ := hj_
            have hjn_ : n2 = m2 := hjn_
            have hn : n2 ≤ 40 := hn2_
            have hm : mdAll xh2 yr2 xb2 yb2 n2 Wd2 := hm2_
            subst hjn_
            obtain ⟨hP, hD⟩ := va_join (wr := [(q_17, .inl (cA_17, 1, .inr (.inl gg))), (q_0, .inr (ciP, [.ref q, .int (nI (n2))])), (q, .inl (cW, 40, .inr (.inr (.inr (.inr wa2)))))]) (w1 := [(q_8, .inr (ciM, [.int (th2), .int (nI (n2)), .ref a1, .ref a2, .ref a3, .ref a4, .ref a5, .int (mo2), .int (le2)])), (a1, .inl (c1, 40, .inl xh2)), (a2, .inl (c2, 40, .inl yr2)), (a3, .inl (c3, 40, .inr (.inl xb2))), (a4, .inl (c4, 40, .inr (.inl yb2))), (a5, .inl (c5, 7400, .inl bs2))]) hP hD [0, 1, 2, 3, 4, 5] [6, 7, 8] rfl rfl (by decide) (by decide) hk1_ hFc hP1_ hD1_
            generalize H1 = H at hP hS hall hzH ⊢
            have hP : va_P (dC, dI) vwCl [(q_17, .inl (cA_17, 1, .inr (.inl gg))), (q_0, .inr (ciP, [.ref q, .int (nI (n2))])), (q, .inl (cW, 40, .inr (.inr (.inr (.inr wa2))))), (q_8, .inr (ciM, [.int (th2), .int (nI (n2)), .ref a1, .ref a2, .ref a3, .ref a4, .ref a5, .int (mo2), .int (le2)])), (a1, .inl (c1, 40, .inl xh2)), (a2, .inl (c2, 40, .inl yr2)), (a3, .inl (c3, 40, .inr (.inl xb2))), (a4, .inl (c4, 40, .inr (.inl yb2))), (a5, .inl (c5, 7400, .inl bs2))] H := hP
            have hD : va_D A [(q_17, .inl (cA_17, 1, .inr (.inl gg))), (q_0, .inr (ciP, [.ref q, .int (nI (n2))])), (q, .inl (cW, 40, .inr (.inr (.inr (.inr wa2))))), (q_8, .inr (ciM, [.int (th2), .int (nI (n2)), .ref a1, .ref a2, .ref a3, .ref a4, .ref a5, .int (mo2), .int (le2)])), (a1, .inl (c1, 40, .inl xh2)), (a2, .inl (c2, 40, .inl yr2)), (a3, .inl (c3, 40, .inr (.inl xb2))), (a4, .inl (c4, 40, .inr (.inl yb2))), (a5, .inl (c5, 7400, .inl bs2))] := hD
            refine lv_icmp_eq (tgt := 582) hx hb d_L_law_152 (by decide) (fun c_152 => ?_) (fun c_152 => absurd c_152 (fun z_ => z_ (hres_)))
            refine W.widen (k := 9 + 5 * (k + 1)) (n := 7612 + 260 * (k + 1)) (by omega) (by omega) ?_
            have hP := hP.sub [1, 2, 3, 4, 5, 6, 7, 8, 0] rfl
            have hD := hD.sub (ws' := [(q_0, .inr (ciP, [.ref q, .int (nI (n2))])), (q, .inl (cW, 40, .inr (.inr (.inr (.inr wa2))))), (q_8, .inr (ciM, [.int (th2), .int (nI (n2)), .ref a1, .ref a2, .ref a3, .ref a4, .ref a5, .int (mo2), .int (le2)])), (a1, .inl (c1, 40, .inl xh2)), (a2, .inl (c2, 40, .inl yr2)), (a3, .inl (c3, 40, .inr (.inl xb2))), (a4, .inl (c4, 40, .inr (.inl yb2))), (a5, .inl (c5, 7400, .inl bs2)), (q_17, .inl (cA_17, 1, .inr (.inl gg)))]) [1, 2, 3, 4, 5, 6, 7, 8, 0] (by decide) rfl
            exact B_582 (n2) (wa2) (Wd2) (th2) (mo2) (le2) (xh2) (yr2) (xb2) (yb2) (bs2) (gg) _ _ ls hn hzH hall hm hP hD hS (lv_sub hl [0, 1, 2, 3, 4] rfl)
          · refine lv_tableIn (tgt := 157) hx hb d_L_law_39 (by decide) (by decide) rfl (by decide) ?_
            refine lv_aload_n hx hb d_L_law_157 rfl (lv_at hl 1 rfl) ?_
            refine lv_aload_n hx hb d_L_law_158 rfl (lv_at hl 0 rfl) ?_
            refine lv_iload hx hb d_L_law_159 (lv_at hl 4 rfl) ?_
            refine lv_iconst (v := nI 1) hx hb d_L_law_161 (by decide) ?_
            refine pq_iadd (a := (5 * k)) (b := 1) hx hb d_L_law_162 ?_
            refine va_sld hx hb hX hbl hbA hS (vp_in_nI (n := ((5 * k) + 1)) (by omega) (by omega)) d_L_law_163 ?_
            refine pq_top (y := .int (xs ((5 * k) + 1))) (by rw [pq_cl (by omega)]) ?_
            refine lv_aload_n hx hb d_L_law_164 rfl (lv_at hl 0 rfl) ?_
            refine lv_iload hx hb d_L_law_165 (lv_at hl 4 rfl) ?_
            refine lv_iconst (v := nI 2) hx hb d_L_law_167 (by decide) ?_
            refine pq_iadd (a := (5 * k)) (b := 2) hx hb d_L_law_168 ?_
            refine va_sld hx hb hX hbl hbA hS (vp_in_nI (n := ((5 * k) + 2)) (by omega) (by omega)) d_L_law_169 ?_
            refine pq_top (y := .int (xs ((5 * k) + 2))) (by rw [pq_cl (by omega)]) ?_
            refine lv_aload_n hx hb d_L_law_170 rfl (lv_at hl 0 rfl) ?_
            refine lv_iload hx hb d_L_law_171 (lv_at hl 4 rfl) ?_
            refine lv_iconst (v := nI 3) hx hb d_L_law_173 (by decide) ?_
            refine pq_iadd (a := (5 * k)) (b := 3) hx hb d_L_law_174 ?_
            refine va_sld hx hb hX hbl hbA hS (vp_in_nI (n := ((5 * k) + 3)) (by omega) (by omega)) d_L_law_175 ?_
            refine pq_top (y := .int (xs ((5 * k) + 3))) (by rw [pq_cl (by omega)]) ?_
            refine lv_aload_n hx hb d_L_law_176 rfl (lv_at hl 3 rfl) ?_
            have hPc := hP.sub (ws' := [(q_0, .inr (ciP, [.ref q, .int (nI (n))])), (q, .inl (cW, 40, .inr (.inr (.inr (.inr wa))))), (q_17, .inl (cA_17, 1, .inr (.inl gg)))]) [0, 1, 8] rfl
            have hDc := hD.sub (ws' := [(q_0, .inr (ciP, [.ref q, .int (nI (n))])), (q, .inl (cW, 40, .inr (.inr (.inr (.inr wa))))), (q_17, .inl (cA_17, 1, .inr (.inl gg)))]) [0, 1, 8] (by decide) rfl
            have hKc := hK.sub (tys' := [(cW, .object "PeriodWords$Word"), (cA_17, .long)]) [0, 6] rfl
            have hFc := va_free (wc := [(q_0, .inr (ciP, [.ref q, .int (nI (n))])), (q, .inl (cW, 40, .inr (.inr (.inr (.inr wa))))), (q_17, .inl (cA_17, 1, .inr (.inl gg)))]) hD hS hA [0, 1, 8] rfl
            refine vx_calli (vx_runSX (As := [.ref q_0, .int (xs ((5 * k) + 1)), .int (xs ((5 * k) + 2)), .int (xs ((5 * k) + 3)), .ref q_17]) (rest := []) ⟨hx, hb, hml, hown, hts⟩ (c_L_make l hst dC dI (Wd := Wd) hn hoz hqz hwz hzH hzo hzq hS.1) (vx_cwSW 5 hts (gd_SW mb_244 mb_245 mb_21 mb_246) rfl rfl rfl (by decide +kernel) ⟨(Nat.le_of_ble_eq_true rfl), (Nat.le_of_ble_eq_true rfl)⟩) ⟨tx_blind lm_blind, fun U hU hW => ⟨⟨rfl, by rw [hU], by rw [hU]; exact hPc, va_K.moved hW.alike hKc, hDc.weaken (fun _ _ _ _ => trivial), by rw [hU]; exact wdAll.moved hW.alike hall⟩, htxI.at (fun a_ h_ _ => hS.2.1 a_ h_ (fun z_ => absurd ((hAd a_).mp z_) (Nat.not_le.mpr h_))) hU hW⟩⟩ rfl rfl hl.1 rfl (lv_room (Nat.le_of_ble_eq_true rfl)) d_L_law_177 ⟨Nat.le_trans (m := 601024) (by omega) (Nat.le_of_ble_eq_true rfl), Nat.le_trans (m := 7293034) (by omega) (Nat.le_of_ble_eq_true rfl)⟩) hS (fun q _ h => hFc q h) hFc (fun q _ h => h.elim) (fun E9 ce9 q9 u9 t_ H1 locs _ _ hpx_ _ _ _ _ _ _ _ => hpx_.elim) (fun r_177 u_177 t_ H1 locs ht_ hvm_ hr_177 hB_ hz1_ hk1_ hS => ?_)
            have hzH : z0 ≤ H1.size := Nat.le_trans hzH hz1_
            obtain ⟨⟨n2, wa2, Wd2⟩, gg2⟩ := u_177
            obtain ⟨hP1_, hK1_, hD1_, hall1_⟩ := hB_
            rw [ht_] at hP1_ hall1_
            have hall : wdAll dC dI z0 H1 s n2 wa2 Wd2 := wdAll.moved hvm_.symm hall1_
            obtain ⟨hP, hD⟩ := va_join (wr := [(q_8, .inr (ciM, [.int (th), .int (nI (n)), .ref a1, .ref a2, .ref a3, .ref a4, .ref a5, .int (mo), .int (le)])), (a1, .inl (c1, 40, .inl xh)), (a2, .inl (c2, 40, .inl yr)), (a3, .inl (c3, 40, .inr (.inl xb))), (a4, .inl (c4, 40, .inr (.inl yb))), (a5, .inl (c5, 7400, .inl bs))]) (w1 := [(q_0, .inr (ciP, [.ref q, .int (nI (n2))])), (q, .inl (cW, 40, .inr (.inr (.inr (.inr wa2))))), (q_17, .inl (cA_17, 1, .inr (.inl gg2)))]) hP hD [0, 1, 8] [2, 3, 4, 5, 6, 7] rfl rfl (by decide) (by decide) hk1_ hFc hP1_ hD1_
            generalize H1 = H at hP hS hall hzH ⊢
            have hP : va_P (dC, dI) vwCl [(q_8, .inr (ciM, [.int (th), .int (nI (n)), .ref a1, .ref a2, .ref a3, .ref a4, .ref a5, .int (mo), .int (le)])), (a1, .inl (c1, 40, .inl xh)), (a2, .inl (c2, 40, .inl yr)), (a3, .inl (c3, 40, .inr (.inl xb))), (a4, .inl (c4, 40, .inr (.inl yb))), (a5, .inl (c5, 7400, .inl bs)), (q_0, .inr (ciP, [.ref q, .int (nI (n2))])), (q, .inl (cW, 40, .inr (.inr (.inr (.inr wa2))))), (q_17, .inl (cA_17, 1, .inr (.inl gg2)))] H := hP
            have hD : va_D A [(q_8, .inr (ciM, [.int (th), .int (nI (n)), .ref a1, .ref a2, .ref a3, .ref a4, .ref a5, .int (mo), .int (le)])), (a1, .inl (c1, 40, .inl xh)), (a2, .inl (c2, 40, .inl yr)), (a3, .inl (c3, 40, .inr (.inl xb))), (a4, .inl (c4, 40, .inr (.inl yb))), (a5, .inl (c5, 7400, .inl bs)), (q_0, .inr (ciP, [.ref q, .int (nI (n2))])), (q, .inl (cW, 40, .inr (.inr (.inr (.inr wa2))))), (q_17, .inl (cA_17, 1, .inr (.inl gg2)))] := hD
            refine lv_istore (lv' := [(5, .int (r_177)), (0, .ref b), (1, .ref q_0), (2, .ref q_8), (3, .ref q_17), (4, .int (nI (5 * k)))]) hx hb d_L_law_180 hl (by decide) rfl (fun ls hl => ?_)
            refine lv_aload_n hx hb d_L_law_182 rfl (lv_at hl 3 rfl) ?_
            refine lv_aload_n hx hb d_L_law_183 rfl (lv_at hl 1 rfl) ?_
            refine lv_iload hx hb d_L_law_184 (lv_at hl 5 rfl) ?_
            refine lv_iconst (v := nI 1) hx hb d_L_law_186 (by decide) ?_
            refine pq_iadd (a := (5 * k)) (b := 1) hx hb d_L_law_187 ?_
            refine va_sld hx hb hX hbl hbA hS (vp_in_nI (n := ((5 * k) + 1)) (by omega) (by omega)) d_L_law_188 ?_
            refine pq_top (y := .int (xs ((5 * k) + 1))) (by rw [pq_cl (by omega)]) ?_
            refine lv_aload_n hx hb d_L_law_189 rfl (lv_at hl 1 rfl) ?_
            refine lv_iload hx hb d_L_law_190 (lv_at hl 5 rfl) ?_
            refine lv_iconst (v := nI 2) hx hb d_L_law_192 (by decide) ?_
            refine pq_iadd (a := (5 * k)) (b := 2) hx hb d_L_law_193 ?_
            refine va_sld hx hb hX hbl hbA hS (vp_in_nI (n := ((5 * k) + 2)) (by omega) (by omega)) d_L_law_194 ?_
            refine pq_top (y := .int (xs ((5 * k) + 2))) (by rw [pq_cl (by omega)]) ?_
            refine lv_aload_n hx hb d_L_law_195 rfl (lv_at hl 1 rfl) ?_
            refine lv_iload hx hb d_L_law_196 (lv_at hl 5 rfl) ?_
            refine lv_iconst (v := nI 3) hx hb d_L_law_198 (by decide) ?_
            refine pq_iadd (a := (5 * k)) (b := 3) hx hb d_L_law_199 ?_
            refine va_sld hx hb hX hbl hbA hS (vp_in_nI (n := ((5 * k) + 3)) (by omega) (by omega)) d_L_law_200 ?_
            refine pq_top (y := .int (xs ((5 * k) + 3))) (by rw [pq_cl (by omega)]) ?_
            have hPc := hP.sub (ws' := [(q_8, .inr (ciM, [.int (th), .int (nI (n)), .ref a1, .ref a2, .ref a3, .ref a4, .ref a5, .int (mo), .int (le)])), (a1, .inl (c1, 40, .inl xh)), (a2, .inl (c2, 40, .inl yr)), (a3, .inl (c3, 40, .inr (.inl xb))), (a4, .inl (c4, 40, .inr (.inl yb))), (a5, .inl (c5, 7400, .inl bs))]) [0, 1, 2, 3, 4, 5] rfl
            have hDc := hD.sub (ws' := [(q_8, .inr (ciM, [.int (th), .int (nI (n)), .ref a1, .ref a2, .ref a3, .ref a4, .ref a5, .int (mo), .int (le)])), (a1, .inl (c1, 40, .inl xh)), (a2, .inl (c2, 40, .inl yr)), (a3, .inl (c3, 40, .inr (.inl xb))), (a4, .inl (c4, 40, .inr (.inl yb))), (a5, .inl (c5, 7400, .inl bs))]) [0, 1, 2, 3, 4, 5] (by decide) rfl
            have hKc := hK.sub (tys' := [(c1, .int), (c2, .int), (c3, .long), (c4, .long), (c5, .boolean)]) [1, 2, 3, 4, 5] rfl
            have hFc := va_free (wc := [(q_8, .inr (ciM, [.int (th), .int (nI (n)), .ref a1, .ref a2, .ref a3, .ref a4, .ref a5, .int (mo), .int (le)])), (a1, .inl (c1, 40, .inl xh)), (a2, .inl (c2, 40, .inl yr)), (a3, .inl (c3, 40, .inr (.inl xb))), (a4, .inl (c4, 40, .inr (.inl yb))), (a5, .inl (c5, 7400, .inl bs))]) hD hS hA [0, 1, 2, 3, 4, 5] rfl
            refine va_calli (va_runV (As := [.int (xs ((5 * k) + 1)), .int (xs ((5 * k) + 2)), .int (xs ((5 * k) + 3))]) (rest := []) ⟨hx, hb, hml, hown, hts⟩ (c_M_make l dC dI hn hm) (cwV 3 hts (gd_V mb_432 mb_433 mb_434 mb_23 mb_435) rfl rfl rfl (by decide +kernel) ⟨Nat.le_of_ble_eq_true rfl, Nat.le_of_ble_eq_true rfl⟩) ⟨md_blind, va_recv hK hP (ci := ciM) (q0 := 0) rfl rfl, fun U hU hW => ⟨rfl, by rw [hU], by rw [hU]; exact hPc, va_K.moved hW.alike hKc, hDc.weaken (fun _ _ _ _ => trivial)⟩⟩ rfl rfl hl.1 rfl (lv_room (Nat.le_of_ble_eq_true rfl)) d_L_law_201 ⟨Nat.le_trans (m := 601024) (by omega) (Nat.le_of_ble_eq_true rfl), Nat.le_trans (m := 7293034) (by omega) (Nat.le_of_ble_eq_true rfl)⟩) hS (fun q _ h => hFc q h) hFc (fun r_201 u_201 t_ H1 locs ht_ hvm_ hr_201 hB_ hz1_ hk1_ hS => ?_)
            obtain ⟨hP1_, hK1_, hD1_⟩ := hB_
            rw [ht_] at hP1_
            have hall := lm_keep hk1_ (md_out hmz h1z h2z h3z h4z h5z) hall
            have hzH : z0 ≤ H1.size := Nat.le_trans hzH hz1_
            have hj_ := j_make hn hm hr_177 hr_201
            obtain ⟨th2, m2, mo2, le2, xh2, yr2, xb2, yb2, bs2⟩ := u_201
            obtain ⟨⟨hjn_, hn2_, hm2_⟩, hjt_⟩ := hj_
            have hjt_ : jt r_177 gg2 r_201 th2 := hjt_
            have hjn_ : n2 = m2 := hjn_
            have hn : n2 ≤ 40 := hn2_
            have hm : mdAll xh2 yr2 xb2 yb2 n2 Wd2 := hm2_
            subst hjn_
            obtain ⟨hP, hD⟩ := va_join (wr := [(q_0, .inr (ciP, [.ref q, .int (nI (n2))])), (q, .inl (cW, 40, .inr (.inr (.inr (.inr wa2))))), (q_17, .inl (cA_17, 1, .inr (.inl gg2)))]) (w1 := [(q_8, .inr (ciM, [.int (th2), .int (nI (n2)), .ref a1, .ref a2, .ref a3, .ref a4, .ref a5, .int (mo2), .int (le2)])), (a1, .inl (c1, 40, .inl xh2)), (a2, .inl (c2, 40, .inl yr2)), (a3, .inl (c3, 40, .inr (.inl xb2))), (a4, .inl (c4, 40, .inr (.inl yb2))), (a5, .inl (c5, 7400, .inl bs2))]) hP hD [0, 1, 2, 3, 4, 5] [6, 7, 8] rfl rfl (by decide) (by decide) hk1_ hFc hP1_ hD1_
            generalize H1 = H at hP hS hall hzH ⊢
            have hP : va_P (dC, dI) vwCl [(q_0, .inr (ciP, [.ref q, .int (nI (n2))])), (q, .inl (cW, 40, .inr (.inr (.inr (.inr wa2))))), (q_17, .inl (cA_17, 1, .inr (.inl gg2))), (q_8, .inr (ciM, [.int (th2), .int (nI (n2)), .ref a1, .ref a2, .ref a3, .ref a4, .ref a5, .int (mo2), .int (le2)])), (a1, .inl (c1, 40, .inl xh2)), (a2, .inl (c2, 40, .inl yr2)), (a3, .inl (c3, 40, .inr (.inl xb2))), (a4, .inl (c4, 40, .inr (.inl yb2))), (a5, .inl (c5, 7400, .inl bs2))] H := hP
            have hD : va_D A [(q_0, .inr (ciP, [.ref q, .int (nI (n2))])), (q, .inl (cW, 40, .inr (.inr (.inr (.inr wa2))))), (q_17, .inl (cA_17, 1, .inr (.inl gg2))), (q_8, .inr (ciM, [.int (th2), .int (nI (n2)), .ref a1, .ref a2, .ref a3, .ref a4, .ref a5, .int (mo2), .int (le2)])), (a1, .inl (c1, 40, .inl xh2)), (a2, .inl (c2, 40, .inl yr2)), (a3, .inl (c3, 40, .inr (.inl xb2))), (a4, .inl (c4, 40, .inr (.inl yb2))), (a5, .inl (c5, 7400, .inl bs2))] := hD
            refine lv_istore (lv' := [(6, .int (r_201)), (5, .int (r_177)), (0, .ref b), (1, .ref q_0), (2, .ref q_8), (3, .ref q_17), (4, .int (nI (5 * k)))]) hx hb d_L_law_204 hl (by decide) rfl (fun ls hl => ?_)
            rcases hjt_ with ⟨ek_, eth_, eg_⟩ | ⟨ek_, eth_⟩
            · subst ek_
              subst eth_
              refine lv_aload_n hx hb d_L_law_206 rfl (lv_at hl 4 rfl) ?_
              have hPm := hP.sub (ws' := [(q_8, .inr (ciM, [.int (nI (0)), .int (nI (n2)), .ref a1, .ref a2, .ref a3, .ref a4, .ref a5, .int (mo2), .int (le2)])), (a1, .inl (c1, 40, .inl xh2)), (a2, .inl (c2, 40, .inl yr2)), (a3, .inl (c3, 40, .inr (.inl xb2))), (a4, .inl (c4, 40, .inr (.inl yb2))), (a5, .inl (c5, 7400, .inl bs2))]) [3, 4, 5, 6, 7, 8] rfl
              have hKm := hK.sub (tys' := [(c1, .int), (c2, .int), (c3, .long), (c4, .long), (c5, .boolean)]) [1, 2, 3, 4, 5] rfl
              refine vp_callSi (W.runV (As := []) (rest := []) ⟨hx, hb, hml, hown, hts⟩ (c_M_thrown l dC dI) (cwV 0 hts (gd_V mb_413 mb_414 mb_415 mb_23 mb_416) rfl rfl rfl (by decide +kernel) ⟨Nat.le_of_ble_eq_true rfl, Nat.le_of_ble_eq_true rfl⟩) (pw_R_V (va_recv hK hP (ci := ciM) (q0 := 3) rfl rfl) hPm hKm) rfl rfl hl.1 rfl (lv_room (Nat.le_of_ble_eq_true rfl)) d_L_law_207 ⟨Nat.le_trans (m := 601024) (by omega) (Nat.le_of_ble_eq_true rfl), Nat.le_trans (m := 7293034) (by omega) (Nat.le_of_ble_eq_true rfl)⟩) (fun r_207 hr_207 => ?_)
              subst hr_207
              refine lv_iload hx hb d_L_law_210 (lv_at hl 1 rfl) ?_
              refine pq_icmp_eq (tgt := 217) (a := 0) (b := 0) hx hb d_L_law_212 (by decide) (by omega) (by omega) (fun c_212 => ?_) (fun c_212 => absurd c_212 (by omega))
              refine lv_iload hx hb d_L_law_217 (lv_at hl 1 rfl) ?_
              refine pq_if_ne (tgt := 234) (a := 0) hx hb d_L_law_219 (by decide) (by omega) (fun c_219 => absurd c_219 (by omega)) (fun c_219 => ?_)
              refine lv_aload_n hx hb d_L_law_222 rfl (lv_at hl 5 rfl) ?_
              refine lv_iconst (v := nI 0) hx hb d_L_law_223 (by decide) ?_
              refine va_lald hx hb hK hP 2 6 rfl rfl (vp_in_nI (n := 0) (by omega) (by omega)) d_L_law_224 ?_
              refine pq_top (y := .long (gg2 0)) (by rw [pq_cl (by omega)]) ?_
              refine lv_iload hx hb d_L_law_225 (lv_at hl 0 rfl) ?_
              refine lv_i2l hx hb d_L_law_227 rfl ?_
              refine lv_topl (fun y_3 ey_3 => ?_)
              refine pq_top (y := .long (r_201.toInt64)) (by rw [ey_3]) ?_
              refine W.lcmp hx hb d_L_law_228 ?_
              refine lv_topi (fun x_4 ex_4 => ?_)
              refine pq_top (y := .int (nI (0))) (by rw [ex_4, show lg_cmp (gg2 0) r_201.toInt64 = nI 0 by rw [nI_0, lg_cmp_eq]; exact eg_]) ?_
              refine pq_if_eq (tgt := 234) (a := 0) hx hb d_L_law_229 (by decide) (by omega) (fun c_229 => ?_) (fun c_229 => absurd c_229 (by omega))
              refine lv_goto (tgt := 582) hx hb d_L_law_234 (by decide) ?_
              refine W.widen (k := 9 + 5 * (k + 1)) (n := 7612 + 260 * (k + 1)) (by omega) (by omega) ?_
              have hP := hP.sub [0, 1, 3, 4, 5, 6, 7, 8, 2] rfl
              have hD := hD.sub (ws' := [(q_0, .inr (ciP, [.ref q, .int (nI (n2))])), (q, .inl (cW, 40, .inr (.inr (.inr (.inr wa2))))), (q_8, .inr (ciM, [.int (nI (0)), .int (nI (n2)), .ref a1, .ref a2, .ref a3, .ref a4, .ref a5, .int (mo2), .int (le2)])), (a1, .inl (c1, 40, .inl xh2)), (a2, .inl (c2, 40, .inl yr2)), (a3, .inl (c3, 40, .inr (.inl xb2))), (a4, .inl (c4, 40, .inr (.inl yb2))), (a5, .inl (c5, 7400, .inl bs2)), (q_17, .inl (cA_17, 1, .inr (.inl gg2)))]) [0, 1, 3, 4, 5, 6, 7, 8, 2] (by decide) rfl
              exact B_582 (n2) (wa2) (Wd2) (nI 0) (mo2) (le2) (xh2) (yr2) (xb2) (yb2) (bs2) (gg2) _ _ ls hn hzH hall hm hP hD hS (lv_sub hl [2, 3, 4, 5, 6] rfl)
            · subst ek_
              subst eth_
              refine lv_aload_n hx hb d_L_law_206 rfl (lv_at hl 4 rfl) ?_
              have hPm := hP.sub (ws' := [(q_8, .inr (ciM, [.int (nI (1)), .int (nI (n2)), .ref a1, .ref a2, .ref a3, .ref a4, .ref a5, .int (mo2), .int (le2)])), (a1, .inl (c1, 40, .inl xh2)), (a2, .inl (c2, 40, .inl yr2)), (a3, .inl (c3, 40, .inr (.inl xb2))), (a4, .inl (c4, 40, .inr (.inl yb2))), (a5, .inl (c5, 7400, .inl bs2))]) [3, 4, 5, 6, 7, 8] rfl
              have hKm := hK.sub (tys' := [(c1, .int), (c2, .int), (c3, .long), (c4, .long), (c5, .boolean)]) [1, 2, 3, 4, 5] rfl
              refine vp_callSi (W.runV (As := []) (rest := []) ⟨hx, hb, hml, hown, hts⟩ (c_M_thrown l dC dI) (cwV 0 hts (gd_V mb_413 mb_414 mb_415 mb_23 mb_416) rfl rfl rfl (by decide +kernel) ⟨Nat.le_of_ble_eq_true rfl, Nat.le_of_ble_eq_true rfl⟩) (pw_R_V (va_recv hK hP (ci := ciM) (q0 := 3) rfl rfl) hPm hKm) rfl rfl hl.1 rfl (lv_room (Nat.le_of_ble_eq_true rfl)) d_L_law_207 ⟨Nat.le_trans (m := 601024) (by omega) (Nat.le_of_ble_eq_true rfl), Nat.le_trans (m := 7293034) (by omega) (Nat.le_of_ble_eq_true rfl)⟩) (fun r_207 hr_207 => ?_)
              subst hr_207
              refine lv_iload hx hb d_L_law_210 (lv_at hl 1 rfl) ?_
              refine pq_icmp_eq (tgt := 217) (a := 1) (b := 1) hx hb d_L_law_212 (by decide) (by omega) (by omega) (fun c_212 => ?_) (fun c_212 => absurd c_212 (by omega))
              refine lv_iload hx hb d_L_law_217 (lv_at hl 1 rfl) ?_
              refine pq_if_ne (tgt := 234) (a := 1) hx hb d_L_law_219 (by decide) (by omega) (fun c_219 => ?_) (fun c_219 => absurd c_219 (by omega))
              refine lv_goto (tgt := 582) hx hb d_L_law_234 (by decide) ?_
              refine W.widen (k := 9 + 5 * (k + 1)) (n := 7612 + 260 * (k + 1)) (by omega) (by omega) ?_
              have hP := hP.sub [0, 1, 3, 4, 5, 6, 7, 8, 2] rfl
              have hD := hD.sub (ws' := [(q_0, .inr (ciP, [.ref q, .int (nI (n2))])), (q, .inl (cW, 40, .inr (.inr (.inr (.inr wa2))))), (q_8, .inr (ciM, [.int (nI (1)), .int (nI (n2)), .ref a1, .ref a2, .ref a3, .ref a4, .ref a5, .int (mo2), .int (le2)])), (a1, .inl (c1, 40, .inl xh2)), (a2, .inl (c2, 40, .inl yr2)), (a3, .inl (c3, 40, .inr (.inl xb2))), (a4, .inl (c4, 40, .inr (.inl yb2))), (a5, .inl (c5, 7400, .inl bs2)), (q_17, .inl (cA_17, 1, .inr (.inl gg2)))]) [0, 1, 3, 4, 5, 6, 7, 8, 2] (by decide) rfl
              exact B_582 (n2) (wa2) (Wd2) (nI 1) (mo2) (le2) (xh2) (yr2) (xb2) (yb2) (bs2) (gg2) _ _ ls hn hzH hall hm hP hD hS (lv_sub hl [2, 3, 4, 5, 6] rfl)
          · refine lv_tableIn (tgt := 237) hx hb d_L_law_39 (by decide) (by decide) rfl (by decide) ?_
            refine lv_aload_n hx hb d_L_law_237 rfl (lv_at hl 1 rfl) ?_
            refine lv_aload_n hx hb d_L_law_238 rfl (lv_at hl 0 rfl) ?_
            refine lv_iload hx hb d_L_law_239 (lv_at hl 4 rfl) ?_
            refine lv_iconst (v := nI 1) hx hb d_L_law_241 (by decide) ?_
            refine pq_iadd (a := (5 * k)) (b := 1) hx hb d_L_law_242 ?_
            refine va_sld hx hb hX hbl hbA hS (vp_in_nI (n := ((5 * k) + 1)) (by omega) (by omega)) d_L_law_243 ?_
            refine pq_top (y := .int (xs ((5 * k) + 1))) (by rw [pq_cl (by omega)]) ?_
            refine lv_aload_n hx hb d_L_law_244 rfl (lv_at hl 0 rfl) ?_
            refine lv_iload hx hb d_L_law_245 (lv_at hl 4 rfl) ?_
            refine lv_iconst (v := nI 2) hx hb d_L_law_247 (by decide) ?_
            refine pq_iadd (a := (5 * k)) (b := 2) hx hb d_L_law_248 ?_
            refine va_sld hx hb hX hbl hbA hS (vp_in_nI (n := ((5 * k) + 2)) (by omega) (by omega)) d_L_law_249 ?_
            refine pq_top (y := .int (xs ((5 * k) + 2))) (by rw [pq_cl (by omega)]) ?_
            have hPc := hP.sub (ws' := [(q_0, .inr (ciP, [.ref q, .int (nI (n))])), (q, .inl (cW, 40, .inr (.inr (.inr (.inr wa)))))]) [0, 1] rfl
            have hKc := hK.sub (tys' := [(cW, .object "PeriodWords$Word")]) [0] rfl
            refine vp_callSi (W.runV (As := [.int (xs ((5 * k) + 1)), .int (xs ((5 * k) + 2))]) (rest := []) ⟨hx, hb, hml, hown, hts⟩ (c_P_form l dC dI (z0 := z0) (o := q_0) (q := q) (n := n) (cW := cW) (wa := wa) (Wd := Wd) hn) (cwV 2 hts (gd_V mb_194 mb_195 mb_196 mb_22 mb_197) rfl rfl rfl (by decide +kernel) ⟨(Nat.le_of_ble_eq_true rfl), (Nat.le_of_ble_eq_true rfl)⟩) ⟨pw_X_blind, va_recv hK hP (ci := ciP) (q0 := 0) rfl rfl, fun U hU hW => ⟨rfl, by rw [hU]; exact hPc, va_K.moved hW.alike hKc, by rw [hU]; exact wdAll.moved hW.alike hall⟩⟩ rfl rfl hl.1 rfl (lv_room (Nat.le_of_ble_eq_true rfl)) d_L_law_250 ⟨Nat.le_trans (m := 601024) (by omega) (Nat.le_of_ble_eq_true rfl), Nat.le_trans (m := 7293034) (by omega) (Nat.le_of_ble_eq_true rfl)⟩) (fun r_250 hr_250 => ?_)
            refine lv_aload_n hx hb d_L_law_253 rfl (lv_at hl 2 rfl) ?_
            refine lv_aload_n hx hb d_L_law_254 rfl (lv_at hl 0 rfl) ?_
            refine lv_iload hx hb d_L_law_255 (lv_at hl 4 rfl) ?_
            refine lv_iconst (v := nI 1) hx hb d_L_law_257 (by decide) ?_
            refine pq_iadd (a := (5 * k)) (b := 1) hx hb d_L_law_258 ?_
            refine va_sld hx hb hX hbl hbA hS (vp_in_nI (n := ((5 * k) + 1)) (by omega) (by omega)) d_L_law_259 ?_
            refine pq_top (y := .int (xs ((5 * k) + 1))) (by rw [pq_cl (by omega)]) ?_
            refine lv_aload_n hx hb d_L_law_260 rfl (lv_at hl 0 rfl) ?_
            refine lv_iload hx hb d_L_law_261 (lv_at hl 4 rfl) ?_
            refine lv_iconst (v := nI 2) hx hb d_L_law_263 (by decide) ?_
            refine pq_iadd (a := (5 * k)) (b := 2) hx hb d_L_law_264 ?_
            refine va_sld hx hb hX hbl hbA hS (vp_in_nI (n := ((5 * k) + 2)) (by omega) (by omega)) d_L_law_265 ?_
            refine pq_top (y := .int (xs ((5 * k) + 2))) (by rw [pq_cl (by omega)]) ?_
            have hPc := hP.sub (ws' := [(q_8, .inr (ciM, [.int (th), .int (nI (n)), .ref a1, .ref a2, .ref a3, .ref a4, .ref a5, .int (mo), .int (le)])), (a1, .inl (c1, 40, .inl xh)), (a2, .inl (c2, 40, .inl yr)), (a3, .inl (c3, 40, .inr (.inl xb))), (a4, .inl (c4, 40, .inr (.inl yb))), (a5, .inl (c5, 7400, .inl bs))]) [2, 3, 4, 5, 6, 7] rfl
            have hDc := hD.sub (ws' := [(q_8, .inr (ciM, [.int (th), .int (nI (n)), .ref a1, .ref a2, .ref a3, .ref a4, .ref a5, .int (mo), .int (le)])), (a1, .inl (c1, 40, .inl xh)), (a2, .inl (c2, 40, .inl yr)), (a3, .inl (c3, 40, .inr (.inl xb))), (a4, .inl (c4, 40, .inr (.inl yb))), (a5, .inl (c5, 7400, .inl bs))]) [2, 3, 4, 5, 6, 7] (by decide) rfl
            have hKc := hK.sub (tys' := [(c1, .int), (c2, .int), (c3, .long), (c4, .long), (c5, .boolean)]) [1, 2, 3, 4, 5] rfl
            have hFc := va_free (wc := [(q_8, .inr (ciM, [.int (th), .int (nI (n)), .ref a1, .ref a2, .ref a3, .ref a4, .ref a5, .int (mo), .int (le)])), (a1, .inl (c1, 40, .inl xh)), (a2, .inl (c2, 40, .inl yr)), (a3, .inl (c3, 40, .inr (.inl xb))), (a4, .inl (c4, 40, .inr (.inl yb))), (a5, .inl (c5, 7400, .inl bs))]) hD hS hA [2, 3, 4, 5, 6, 7] rfl
            refine va_calli (va_runV (As := [.int (xs ((5 * k) + 1)), .int (xs ((5 * k) + 2))]) (rest := [.int (r_250)]) ⟨hx, hb, hml, hown, hts⟩ (c_M_form l dC dI hn hm) (cwV 2 hts (gd_V mb_482 mb_483 mb_484 mb_23 mb_485) rfl rfl rfl (by decide +kernel) ⟨Nat.le_of_ble_eq_true rfl, Nat.le_of_ble_eq_true rfl⟩) ⟨md_blind, va_recv hK hP (ci := ciM) (q0 := 2) rfl rfl, fun U hU hW => ⟨rfl, by rw [hU], by rw [hU]; exact hPc, va_K.moved hW.alike hKc, hDc.weaken (fun _ _ _ _ => trivial)⟩⟩ rfl rfl hl.1 rfl (lv_room (Nat.le_of_ble_eq_true rfl)) d_L_law_266 ⟨Nat.le_trans (m := 601024) (by omega) (Nat.le_of_ble_eq_true rfl), Nat.le_trans (m := 7293034) (by omega) (Nat.le_of_ble_eq_true rfl)⟩) hS (fun q _ h => hFc q h) hFc (fun r_266 u_266 t_ H1 locs ht_ hvm_ hr_266 hB_ hz1_ hk1_ hS => ?_)
            obtain ⟨hP1_, hK1_, hD1_⟩ := hB_
            rw [ht_] at hP1_
            have hall := lm_keep hk1_ (md_out hmz h1z h2z h3z h4z h5z) hall
            have hzH : z0 ≤ H1.size := Nat.le_trans hzH hz1_
            obtain ⟨hres_, hu_⟩ := hr_266
            subst hu_
            obtain ⟨hP, hD⟩ := va_join (wr := [(q_0, .inr (ciP, [.ref q, .int (nI (n))])), (q, .inl (cW, 40, .inr (.inr (.inr (.inr wa))))), (q_17, .inl (cA_17, 1, .inr (.inl gg)))]) (w1 := [(q_8, .inr (ciM, [.int (nI (0)), .int (nI (n)), .ref a1, .ref a2, .ref a3, .ref a4, .ref a5, .int (mo), .int (le)])), (a1, .inl (c1, 40, .inl xh)), (a2, .inl (c2, 40, .inl yr)), (a3, .inl (c3, 40, .inr (.inl xb))), (a4, .inl (c4, 40, .inr (.inl yb))), (a5, .inl (c5, 7400, .inl bs))]) hP hD [2, 3, 4, 5, 6, 7] [0, 1, 8] rfl rfl (by decide) (by decide) hk1_ hFc hP1_ hD1_
            generalize H1 = H at hP hS hall hzH ⊢
            have hP : va_P (dC, dI) vwCl [(q_0, .inr (ciP, [.ref q, .int (nI (n))])), (q, .inl (cW, 40, .inr (.inr (.inr (.inr wa))))), (q_17, .inl (cA_17, 1, .inr (.inl gg))), (q_8, .inr (ciM, [.int (nI (0)), .int (nI (n)), .ref a1, .ref a2, .ref a3, .ref a4, .ref a5, .int (mo), .int (le)])), (a1, .inl (c1, 40, .inl xh)), (a2, .inl (c2, 40, .inl yr)), (a3, .inl (c3, 40, .inr (.inl xb))), (a4, .inl (c4, 40, .inr (.inl yb))), (a5, .inl (c5, 7400, .inl bs))] H := hP
            have hD : va_D A [(q_0, .inr (ciP, [.ref q, .int (nI (n))])), (q, .inl (cW, 40, .inr (.inr (.inr (.inr wa))))), (q_17, .inl (cA_17, 1, .inr (.inl gg))), (q_8, .inr (ciM, [.int (nI (0)), .int (nI (n)), .ref a1, .ref a2, .ref a3, .ref a4, .ref a5, .int (mo), .int (le)])), (a1, .inl (c1, 40, .inl xh)), (a2, .inl (c2, 40, .inl yr)), (a3, .inl (c3, 40, .inr (.inl xb))), (a4, .inl (c4, 40, .inr (.inl yb))), (a5, .inl (c5, 7400, .inl bs))] := hD
            refine lv_icmp_eq (tgt := 582) hx hb d_L_law_269 (by decide) (fun c_269 => ?_) (fun c_269 => absurd c_269 (fun z_ => z_ (sp_1_u hn hr_250 hres_ (fun i _ r r' h h' => pq_eqs h h') (fun r r' h h' => pq_eqs h h'))))
            refine W.widen (k := 9 + 5 * (k + 1)) (n := 7612 + 260 * (k + 1)) (by omega) (by omega) ?_
            have hP := hP.sub [0, 1, 3, 4, 5, 6, 7, 8, 2] rfl
            have hD := hD.sub (ws' := [(q_0, .inr (ciP, [.ref q, .int (nI (n))])), (q, .inl (cW, 40, .inr (.inr (.inr (.inr wa))))), (q_8, .inr (ciM, [.int (nI (0)), .int (nI (n)), .ref a1, .ref a2, .ref a3, .ref a4, .ref a5, .int (mo), .int (le)])), (a1, .inl (c1, 40, .inl xh)), (a2, .inl (c2, 40, .inl yr)), (a3, .inl (c3, 40, .inr (.inl xb))), (a4, .inl (c4, 40, .inr (.inl yb))), (a5, .inl (c5, 7400, .inl bs)), (q_17, .inl (cA_17, 1, .inr (.inl gg)))]) [0, 1, 3, 4, 5, 6, 7, 8, 2] (by decide) rfl
            exact B_582 (n) (wa) (Wd) (nI 0) (mo) (le) (xh) (yr) (xb) (yb) (bs) (gg) _ _ ls hn hzH hall hm hP hD hS (lv_sub hl [0, 1, 2, 3, 4] rfl)
          · refine lv_tableIn (tgt := 274) hx hb d_L_law_39 (by decide) (by decide) rfl (by decide) ?_
            refine lv_aload_n hx hb d_L_law_274 rfl (lv_at hl 1 rfl) ?_
            refine lv_aload_n hx hb d_L_law_275 rfl (lv_at hl 0 rfl) ?_
            refine lv_iload hx hb d_L_law_276 (lv_at hl 4 rfl) ?_
            refine lv_iconst (v := nI 1) hx hb d_L_law_278 (by decide) ?_
            refine pq_iadd (a := (5 * k)) (b := 1) hx hb d_L_law_279 ?_
            refine va_sld hx hb hX hbl hbA hS (vp_in_nI (n := ((5 * k) + 1)) (by omega) (by omega)) d_L_law_280 ?_
            refine pq_top (y := .int (xs ((5 * k) + 1))) (by rw [pq_cl (by omega)]) ?_
            refine lv_aload_n hx hb d_L_law_281 rfl (lv_at hl 0 rfl) ?_
            refine lv_iload hx hb d_L_law_282 (lv_at hl 4 rfl) ?_
            refine lv_iconst (v := nI 2) hx hb d_L_law_284 (by decide) ?_
            refine pq_iadd (a := (5 * k)) (b := 2) hx hb d_L_law_285 ?_
            refine va_sld hx hb hX hbl hbA hS (vp_in_nI (n := ((5 * k) + 2)) (by omega) (by omega)) d_L_law_286 ?_
            refine pq_top (y := .int (xs ((5 * k) + 2))) (by rw [pq_cl (by omega)]) ?_
            have hPc := hP.sub (ws' := [(q_0, .inr (ciP, [.ref q, .int (nI (n))])), (q, .inl (cW, 40, .inr (.inr (.inr (.inr wa)))))]) [0, 1] rfl
            have hKc := hK.sub (tys' := [(cW, .object "PeriodWords$Word")]) [0] rfl
            refine vp_callSi (W.runV (As := [.int (xs ((5 * k) + 1)), .int (xs ((5 * k) + 2))]) (rest := []) ⟨hx, hb, hml, hown, hts⟩ (c_P_bit l dC dI (z0 := z0) (o := q_0) (q := q) (n := n) (cW := cW) (wa := wa) (Wd := Wd) hn) (cwV 2 hts (gd_V mb_202 mb_203 mb_204 mb_22 mb_205) rfl rfl rfl (by decide +kernel) ⟨(Nat.le_of_ble_eq_true rfl), (Nat.le_of_ble_eq_true rfl)⟩) ⟨pw_X_blind, va_recv hK hP (ci := ciP) (q0 := 0) rfl rfl, fun U hU hW => ⟨rfl, by rw [hU]; exact hPc, va_K.moved hW.alike hKc, by rw [hU]; exact wdAll.moved hW.alike hall⟩⟩ rfl rfl hl.1 rfl (lv_room (Nat.le_of_ble_eq_true rfl)) d_L_law_287 ⟨Nat.le_trans (m := 601024) (by omega) (Nat.le_of_ble_eq_true rfl), Nat.le_trans (m := 7293034) (by omega) (Nat.le_of_ble_eq_true rfl)⟩) (fun r_287 hr_287 => ?_)
            refine lv_aload_n hx hb d_L_law_290 rfl (lv_at hl 2 rfl) ?_
            refine lv_aload_n hx hb d_L_law_291 rfl (lv_at hl 0 rfl) ?_
            refine lv_iload hx hb d_L_law_292 (lv_at hl 4 rfl) ?_
            refine lv_iconst (v := nI 1) hx hb d_L_law_294 (by decide) ?_
            refine pq_iadd (a := (5 * k)) (b := 1) hx hb d_L_law_295 ?_
            refine va_sld hx hb hX hbl hbA hS (vp_in_nI (n := ((5 * k) + 1)) (by omega) (by omega)) d_L_law_296 ?_
            refine pq_top (y := .int (xs ((5 * k) + 1))) (by rw [pq_cl (by omega)]) ?_
            refine lv_aload_n hx hb d_L_law_297 rfl (lv_at hl 0 rfl) ?_
            refine lv_iload hx hb d_L_law_298 (lv_at hl 4 rfl) ?_
            refine lv_iconst (v := nI 2) hx hb d_L_law_300 (by decide) ?_
            refine pq_iadd (a := (5 * k)) (b := 2) hx hb d_L_law_301 ?_
            refine va_sld hx hb hX hbl hbA hS (vp_in_nI (n := ((5 * k) + 2)) (by omega) (by omega)) d_L_law_302 ?_
            refine pq_top (y := .int (xs ((5 * k) + 2))) (by rw [pq_cl (by omega)]) ?_
            have hPc := hP.sub (ws' := [(q_8, .inr (ciM, [.int (th), .int (nI (n)), .ref a1, .ref a2, .ref a3, .ref a4, .ref a5, .int (mo), .int (le)])), (a1, .inl (c1, 40, .inl xh)), (a2, .inl (c2, 40, .inl yr)), (a3, .inl (c3, 40, .inr (.inl xb))), (a4, .inl (c4, 40, .inr (.inl yb))), (a5, .inl (c5, 7400, .inl bs))]) [2, 3, 4, 5, 6, 7] rfl
            have hDc := hD.sub (ws' := [(q_8, .inr (ciM, [.int (th), .int (nI (n)), .ref a1, .ref a2, .ref a3, .ref a4, .ref a5, .int (mo), .int (le)])), (a1, .inl (c1, 40, .inl xh)), (a2, .inl (c2, 40, .inl yr)), (a3, .inl (c3, 40, .inr (.inl xb))), (a4, .inl (c4, 40, .inr (.inl yb))), (a5, .inl (c5, 7400, .inl bs))]) [2, 3, 4, 5, 6, 7] (by decide) rfl
            have hKc := hK.sub (tys' := [(c1, .int), (c2, .int), (c3, .long), (c4, .long), (c5, .boolean)]) [1, 2, 3, 4, 5] rfl
            have hFc := va_free (wc := [(q_8, .inr (ciM, [.int (th), .int (nI (n)), .ref a1, .ref a2, .ref a3, .ref a4, .ref a5, .int (mo), .int (le)])), (a1, .inl (c1, 40, .inl xh)), (a2, .inl (c2, 40, .inl yr)), (a3, .inl (c3, 40, .inr (.inl xb))), (a4, .inl (c4, 40, .inr (.inl yb))), (a5, .inl (c5, 7400, .inl bs))]) hD hS hA [2, 3, 4, 5, 6, 7] rfl
            refine va_calli (va_runV (As := [.int (xs ((5 * k) + 1)), .int (xs ((5 * k) + 2))]) (rest := [.int (r_287)]) ⟨hx, hb, hml, hown, hts⟩ (c_M_bit l dC dI hn hm) (cwV 2 hts (gd_V mb_489 mb_490 mb_491 mb_23 mb_492) rfl rfl rfl (by decide +kernel) ⟨Nat.le_of_ble_eq_true rfl, Nat.le_of_ble_eq_true rfl⟩) ⟨md_blind, va_recv hK hP (ci := ciM) (q0 := 2) rfl rfl, fun U hU hW => ⟨rfl, by rw [hU], by rw [hU]; exact hPc, va_K.moved hW.alike hKc, hDc.weaken (fun _ _ _ _ => trivial)⟩⟩ rfl rfl hl.1 rfl (lv_room (Nat.le_of_ble_eq_true rfl)) d_L_law_303 ⟨Nat.le_trans (m := 601024) (by omega) (Nat.le_of_ble_eq_true rfl), Nat.le_trans (m := 7293034) (by omega) (Nat.le_of_ble_eq_true rfl)⟩) hS (fun q _ h => hFc q h) hFc (fun r_303 u_303 t_ H1 locs ht_ hvm_ hr_303 hB_ hz1_ hk1_ hS => ?_)
            obtain ⟨hP1_, hK1_, hD1_⟩ := hB_
            rw [ht_] at hP1_
            have hall := lm_keep hk1_ (md_out hmz h1z h2z h3z h4z h5z) hall
            have hzH : z0 ≤ H1.size := Nat.le_trans hzH hz1_
            obtain ⟨hres_, hu_⟩ := hr_303
            subst hu_
            obtain ⟨hP, hD⟩ := va_join (wr := [(q_0, .inr (ciP, [.ref q, .int (nI (n))])), (q, .inl (cW, 40, .inr (.inr (.inr (.inr wa))))), (q_17, .inl (cA_17, 1, .inr (.inl gg)))]) (w1 := [(q_8, .inr (ciM, [.int (nI (0)), .int (nI (n)), .ref a1, .ref a2, .ref a3, .ref a4, .ref a5, .int (mo), .int (le)])), (a1, .inl (c1, 40, .inl xh)), (a2, .inl (c2, 40, .inl yr)), (a3, .inl (c3, 40, .inr (.inl xb))), (a4, .inl (c4, 40, .inr (.inl yb))), (a5, .inl (c5, 7400, .inl bs))]) hP hD [2, 3, 4, 5, 6, 7] [0, 1, 8] rfl rfl (by decide) (by decide) hk1_ hFc hP1_ hD1_
            generalize H1 = H at hP hS hall hzH ⊢
            have hP : va_P (dC, dI) vwCl [(q_0, .inr (ciP, [.ref q, .int (nI (n))])), (q, .inl (cW, 40, .inr (.inr (.inr (.inr wa))))), (q_17, .inl (cA_17, 1, .inr (.inl gg))), (q_8, .inr (ciM, [.int (nI (0)), .int (nI (n)), .ref a1, .ref a2, .ref a3, .ref a4, .ref a5, .int (mo), .int (le)])), (a1, .inl (c1, 40, .inl xh)), (a2, .inl (c2, 40, .inl yr)), (a3, .inl (c3, 40, .inr (.inl xb))), (a4, .inl (c4, 40, .inr (.inl yb))), (a5, .inl (c5, 7400, .inl bs))] H := hP
            have hD : va_D A [(q_0, .inr (ciP, [.ref q, .int (nI (n))])), (q, .inl (cW, 40, .inr (.inr (.inr (.inr wa))))), (q_17, .inl (cA_17, 1, .inr (.inl gg))), (q_8, .inr (ciM, [.int (nI (0)), .int (nI (n)), .ref a1, .ref a2, .ref a3, .ref a4, .ref a5, .int (mo), .int (le)])), (a1, .inl (c1, 40, .inl xh)), (a2, .inl (c2, 40, .inl yr)), (a3, .inl (c3, 40, .inr (.inl xb))), (a4, .inl (c4, 40, .inr (.inl yb))), (a5, .inl (c5, 7400, .inl bs))] := hD
            refine lv_icmp_eq (tgt := 582) hx hb d_L_law_306 (by decide) (fun c_306 => ?_) (fun c_306 => absurd c_306 (fun z_ => z_ (sp_1_u hn hr_287 hres_ (fun i _ r r' h h' => sp_far_u h h') (fun r r' h h' => pq_eqs h h'))))
            refine W.widen (k := 9 + 5 * (k + 1)) (n := 7612 + 260 * (k + 1)) (by omega) (by omega) ?_
            have hP := hP.sub [0, 1, 3, 4, 5, 6, 7, 8, 2] rfl
            have hD := hD.sub (ws' := [(q_0, .inr (ciP, [.ref q, .int (nI (n))])), (q, .inl (cW, 40, .inr (.inr (.inr (.inr wa))))), (q_8, .inr (ciM, [.int (nI (0)), .int (nI (n)), .ref a1, .ref a2, .ref a3, .ref a4, .ref a5, .int (mo), .int (le)])), (a1, .inl (c1, 40, .inl xh)), (a2, .inl (c2, 40, .inl yr)), (a3, .inl (c3, 40, .inr (.inl xb))), (a4, .inl (c4, 40, .inr (.inl yb))), (a5, .inl (c5, 7400, .inl bs)), (q_17, .inl (cA_17, 1, .inr (.inl gg)))]) [0, 1, 3, 4, 5, 6, 7, 8, 2] (by decide) rfl
            exact B_582 (n) (wa) (Wd) (nI 0) (mo) (le) (xh) (yr) (xb) (yb) (bs) (gg) _ _ ls hn hzH hall hm hP hD hS (lv_sub hl [0, 1, 2, 3, 4] rfl)
          · refine lv_tableIn (tgt := 311) hx hb d_L_law_39 (by decide) (by decide) rfl (by decide) ?_
            refine lv_aload_n hx hb d_L_law_311 rfl (lv_at hl 1 rfl) ?_
            refine lv_aload_n hx hb d_L_law_312 rfl (lv_at hl 0 rfl) ?_
            refine lv_iload hx hb d_L_law_313 (lv_at hl 4 rfl) ?_
            refine lv_iconst (v := nI 1) hx hb d_L_law_315 (by decide) ?_
            refine pq_iadd (a := (5 * k)) (b := 1) hx hb d_L_law_316 ?_
            refine va_sld hx hb hX hbl hbA hS (vp_in_nI (n := ((5 * k) + 1)) (by omega) (by omega)) d_L_law_317 ?_
            refine pq_top (y := .int (xs ((5 * k) + 1))) (by rw [pq_cl (by omega)]) ?_
            refine lv_aload_n hx hb d_L_law_318 rfl (lv_at hl 0 rfl) ?_
            refine lv_iload hx hb d_L_law_319 (lv_at hl 4 rfl) ?_
            refine lv_iconst (v := nI 2) hx hb d_L_law_321 (by decide) ?_
            refine pq_iadd (a := (5 * k)) (b := 2) hx hb d_L_law_322 ?_
            refine va_sld hx hb hX hbl hbA hS (vp_in_nI (n := ((5 * k) + 2)) (by omega) (by omega)) d_L_law_323 ?_
            refine pq_top (y := .int (xs ((5 * k) + 2))) (by rw [pq_cl (by omega)]) ?_
            have hPc := hP.sub (ws' := [(q_0, .inr (ciP, [.ref q, .int (nI (n))])), (q, .inl (cW, 40, .inr (.inr (.inr (.inr wa)))))]) [0, 1] rfl
            have hKc := hK.sub (tys' := [(cW, .object "PeriodWords$Word")]) [0] rfl
            refine vp_callSi (W.runV (As := [.int (xs ((5 * k) + 1)), .int (xs ((5 * k) + 2))]) (rest := []) ⟨hx, hb, hml, hown, hts⟩ (c_P_ones l dC dI (z0 := z0) (o := q_0) (q := q) (n := n) (cW := cW) (wa := wa) (Wd := Wd) hn) (cwV 2 hts (gd_V mb_208 mb_209 mb_210 mb_22 mb_211) rfl rfl rfl (by decide +kernel) ⟨(Nat.le_of_ble_eq_true rfl), (Nat.le_of_ble_eq_true rfl)⟩) ⟨pw_X_blind, va_recv hK hP (ci := ciP) (q0 := 0) rfl rfl, fun U hU hW => ⟨rfl, by rw [hU]; exact hPc, va_K.moved hW.alike hKc, by rw [hU]; exact wdAll.moved hW.alike hall⟩⟩ rfl rfl hl.1 rfl (lv_room (Nat.le_of_ble_eq_true rfl)) d_L_law_324 ⟨Nat.le_trans (m := 601024) (by omega) (Nat.le_of_ble_eq_true rfl), Nat.le_trans (m := 7293034) (by omega) (Nat.le_of_ble_eq_true rfl)⟩) (fun r_324 hr_324 => ?_)
            refine lv_aload_n hx hb d_L_law_327 rfl (lv_at hl 2 rfl) ?_
            refine lv_aload_n hx hb d_L_law_328 rfl (lv_at hl 0 rfl) ?_
            refine lv_iload hx hb d_L_law_329 (lv_at hl 4 rfl) ?_
            refine lv_iconst (v := nI 1) hx hb d_L_law_331 (by decide) ?_
            refine pq_iadd (a := (5 * k)) (b := 1) hx hb d_L_law_332 ?_
            refine va_sld hx hb hX hbl hbA hS (vp_in_nI (n := ((5 * k) + 1)) (by omega) (by omega)) d_L_law_333 ?_
            refine pq_top (y := .int (xs ((5 * k) + 1))) (by rw [pq_cl (by omega)]) ?_
            refine lv_aload_n hx hb d_L_law_334 rfl (lv_at hl 0 rfl) ?_
            refine lv_iload hx hb d_L_law_335 (lv_at hl 4 rfl) ?_
            refine lv_iconst (v := nI 2) hx hb d_L_law_337 (by decide) ?_
            refine pq_iadd (a := (5 * k)) (b := 2) hx hb d_L_law_338 ?_
            refine va_sld hx hb hX hbl hbA hS (vp_in_nI (n := ((5 * k) + 2)) (by omega) (by omega)) d_L_law_339 ?_
            refine pq_top (y := .int (xs ((5 * k) + 2))) (by rw [pq_cl (by omega)]) ?_
            have hPc := hP.sub (ws' := [(q_8, .inr (ciM, [.int (th), .int (nI (n)), .ref a1, .ref a2, .ref a3, .ref a4, .ref a5, .int (mo), .int (le)])), (a1, .inl (c1, 40, .inl xh)), (a2, .inl (c2, 40, .inl yr)), (a3, .inl (c3, 40, .inr (.inl xb))), (a4, .inl (c4, 40, .inr (.inl yb))), (a5, .inl (c5, 7400, .inl bs))]) [2, 3, 4, 5, 6, 7] rfl
            have hDc := hD.sub (ws' := [(q_8, .inr (ciM, [.int (th), .int (nI (n)), .ref a1, .ref a2, .ref a3, .ref a4, .ref a5, .int (mo), .int (le)])), (a1, .inl (c1, 40, .inl xh)), (a2, .inl (c2, 40, .inl yr)), (a3, .inl (c3, 40, .inr (.inl xb))), (a4, .inl (c4, 40, .inr (.inl yb))), (a5, .inl (c5, 7400, .inl bs))]) [2, 3, 4, 5, 6, 7] (by decide) rfl
            have hKc := hK.sub (tys' := [(c1, .int), (c2, .int), (c3, .long), (c4, .long), (c5, .boolean)]) [1, 2, 3, 4, 5] rfl
            have hFc := va_free (wc := [(q_8, .inr (ciM, [.int (th), .int (nI (n)), .ref a1, .ref a2, .ref a3, .ref a4, .ref a5, .int (mo), .int (le)])), (a1, .inl (c1, 40, .inl xh)), (a2, .inl (c2, 40, .inl yr)), (a3, .inl (c3, 40, .inr (.inl xb))), (a4, .inl (c4, 40, .inr (.inl yb))), (a5, .inl (c5, 7400, .inl bs))]) hD hS hA [2, 3, 4, 5, 6, 7] rfl
            refine va_calli (va_runV (As := [.int (xs ((5 * k) + 1)), .int (xs ((5 * k) + 2))]) (rest := [.int (r_324)]) ⟨hx, hb, hml, hown, hts⟩ (c_M_ones l dC dI hn hm) (cwV 2 hts (gd_V mb_494 mb_495 mb_496 mb_23 mb_497) rfl rfl rfl (by decide +kernel) ⟨Nat.le_of_ble_eq_true rfl, Nat.le_of_ble_eq_true rfl⟩) ⟨md_blind, va_recv hK hP (ci := ciM) (q0 := 2) rfl rfl, fun U hU hW => ⟨rfl, by rw [hU], by rw [hU]; exact hPc, va_K.moved hW.alike hKc, hDc.weaken (fun _ _ _ _ => trivial)⟩⟩ rfl rfl hl.1 rfl (lv_room (Nat.le_of_ble_eq_true rfl)) d_L_law_340 ⟨Nat.le_trans (m := 601024) (by omega) (Nat.le_of_ble_eq_true rfl), Nat.le_trans (m := 7293034) (by omega) (Nat.le_of_ble_eq_true rfl)⟩) hS (fun q _ h => hFc q h) hFc (fun r_340 u_340 t_ H1 locs ht_ hvm_ hr_340 hB_ hz1_ hk1_ hS => ?_)
            obtain ⟨hP1_, hK1_, hD1_⟩ := hB_
            rw [ht_] at hP1_
            have hall := lm_keep hk1_ (md_out hmz h1z h2z h3z h4z h5z) hall
            have hzH : z0 ≤ H1.size := Nat.le_trans hzH hz1_
            obtain ⟨hres_, hu_⟩ := hr_340
            subst hu_
            obtain ⟨hP, hD⟩ := va_join (wr := [(q_0, .inr (ciP, [.ref q, .int (nI (n))])), (q, .inl (cW, 40, .inr (.inr (.inr (.inr wa))))), (q_17, .inl (cA_17, 1, .inr (.inl gg)))]) (w1 := [(q_8, .inr (ciM, [.int (nI (0)), .int (nI (n)), .ref a1, .ref a2, .ref a3, .ref a4, .ref a5, .int (mo), .int (le)])), (a1, .inl (c1, 40, .inl xh)), (a2, .inl (c2, 40, .inl yr)), (a3, .inl (c3, 40, .inr (.inl xb))), (a4, .inl (c4, 40, .inr (.inl yb))), (a5, .inl (c5, 7400, .inl bs))]) hP hD [2, 3, 4, 5, 6, 7] [0, 1, 8] rfl rfl (by decide) (by decide) hk1_ hFc hP1_ hD1_
            generalize H1 = H at hP hS hall hzH ⊢
            have hP : va_P (dC, dI) vwCl [(q_0, .inr (ciP, [.ref q, .int (nI (n))])), (q, .inl (cW, 40, .inr (.inr (.inr (.inr wa))))), (q_17, .inl (cA_17, 1, .inr (.inl gg))), (q_8, .inr (ciM, [.int (nI (0)), .int (nI (n)), .ref a1, .ref a2, .ref a3, .ref a4, .ref a5, .int (mo), .int (le)])), (a1, .inl (c1, 40, .inl xh)), (a2, .inl (c2, 40, .inl yr)), (a3, .inl (c3, 40, .inr (.inl xb))), (a4, .inl (c4, 40, .inr (.inl yb))), (a5, .inl (c5, 7400, .inl bs))] H := hP
            have hD : va_D A [(q_0, .inr (ciP, [.ref q, .int (nI (n))])), (q, .inl (cW, 40, .inr (.inr (.inr (.inr wa))))), (q_17, .inl (cA_17, 1, .inr (.inl gg))), (q_8, .inr (ciM, [.int (nI (0)), .int (nI (n)), .ref a1, .ref a2, .ref a3, .ref a4, .ref a5, .int (mo), .int (le)])), (a1, .inl (c1, 40, .inl xh)), (a2, .inl (c2, 40, .inl yr)), (a3, .inl (c3, 40, .inr (.inl xb))), (a4, .inl (c4, 40, .inr (.inl yb))), (a5, .inl (c5, 7400, .inl bs))] := hD
            refine lv_icmp_eq (tgt := 582) hx hb d_L_law_343 (by decide) (fun c_343 => ?_) (fun c_343 => absurd c_343 (fun z_ => z_ (sp_1_u hn hr_324 hres_ (fun i _ r r' h h' => sp_far_u h h') (fun r r' h h' => pq_eqs h h'))))
            refine W.widen (k := 9 + 5 * (k + 1)) (n := 7612 + 260 * (k + 1)) (by omega) (by omega) ?_
            have hP := hP.sub [0, 1, 3, 4, 5, 6, 7, 8, 2] rfl
            have hD := hD.sub (ws' := [(q_0, .inr (ciP, [.ref q, .int (nI (n))])), (q, .inl (cW, 40, .inr (.inr (.inr (.inr wa))))), (q_8, .inr (ciM, [.int (nI (0)), .int (nI (n)), .ref a1, .ref a2, .ref a3, .ref a4, .ref a5, .int (mo), .int (le)])), (a1, .inl (c1, 40, .inl xh)), (a2, .inl (c2, 40, .inl yr)), (a3, .inl (c3, 40, .inr (.inl xb))), (a4, .inl (c4, 40, .inr (.inl yb))), (a5, .inl (c5, 7400, .inl bs)), (q_17, .inl (cA_17, 1, .inr (.inl gg)))]) [0, 1, 3, 4, 5, 6, 7, 8, 2] (by decide) rfl
            exact B_582 (n) (wa) (Wd) (nI 0) (mo) (le) (xh) (yr) (xb) (yb) (bs) (gg) _ _ ls hn hzH hall hm hP hD hS (lv_sub hl [0, 1, 2, 3, 4] rfl)
          · refine lv_tableIn (tgt := 348) hx hb d_L_law_39 (by decide) (by decide) rfl (by decide) ?_
            refine lv_aload_n hx hb d_L_law_348 rfl (lv_at hl 1 rfl) ?_
            refine lv_aload_n hx hb d_L_law_349 rfl (lv_at hl 0 rfl) ?_
            refine lv_iload hx hb d_L_law_350 (lv_at hl 4 rfl) ?_
            refine lv_iconst (v := nI 1) hx hb d_L_law_352 (by decide) ?_
            refine pq_iadd (a := (5 * k)) (b := 1) hx hb d_L_law_353 ?_
            refine va_sld hx hb hX hbl hbA hS (vp_in_nI (n := ((5 * k) + 1)) (by omega) (by omega)) d_L_law_354 ?_
            refine pq_top (y := .int (xs ((5 * k) + 1))) (by rw [pq_cl (by omega)]) ?_
            refine lv_aload_n hx hb d_L_law_355 rfl (lv_at hl 0 rfl) ?_
            refine lv_iload hx hb d_L_law_356 (lv_at hl 4 rfl) ?_
            refine lv_iconst (v := nI 2) hx hb d_L_law_358 (by decide) ?_
            refine pq_iadd (a := (5 * k)) (b := 2) hx hb d_L_law_359 ?_
            refine va_sld hx hb hX hbl hbA hS (vp_in_nI (n := ((5 * k) + 2)) (by omega) (by omega)) d_L_law_360 ?_
            refine pq_top (y := .int (xs ((5 * k) + 2))) (by rw [pq_cl (by omega)]) ?_
            refine lv_aload_n hx hb d_L_law_361 rfl (lv_at hl 3 rfl) ?_
            have hPc := hP.sub (ws' := [(q_0, .inr (ciP, [.ref q, .int (nI (n))])), (q, .inl (cW, 40, .inr (.inr (.inr (.inr wa))))), (q_17, .inl (cA_17, 1, .inr (.inl gg)))]) [0, 1, 8] rfl
            have hDc := hD.sub (ws' := [(q_0, .inr (ciP, [.ref q, .int (nI (n))])), (q, .inl (cW, 40, .inr (.inr (.inr (.inr wa))))), (q_17, .inl (cA_17, 1, .inr (.inl gg)))]) [0, 1, 8] (by decide) rfl
            have hKc := hK.sub (tys' := [(cW, .object "PeriodWords$Word"), (cA_17, .long)]) [0, 6] rfl
            have hFc := va_free (wc := [(q_0, .inr (ciP, [.ref q, .int (nI (n))])), (q, .inl (cW, 40, .inr (.inr (.inr (.inr wa))))), (q_17, .inl (cA_17, 1, .inr (.inl gg)))]) hD hS hA [0, 1, 8] rfl
            refine vx_calli (vx_runSX (As := [.ref q_0, .int (xs ((5 * k) + 1)), .int (xs ((5 * k) + 2)), .ref q_17]) (rest := []) ⟨hx, hb, hml, hown, hts⟩ (c_L_at l hst dC dI (Wd := Wd) hn hoz hqz hwz hzH hzo hzq hS.1) (vx_cwSW 4 hts (gd_SW mb_323 mb_324 mb_21 mb_325) rfl rfl rfl (by decide +kernel) ⟨(Nat.le_of_ble_eq_true rfl), (Nat.le_of_ble_eq_true rfl)⟩) ⟨tx_blind lm_blind, fun U hU hW => ⟨⟨rfl, by rw [hU], by rw [hU]; exact hPc, va_K.moved hW.alike hKc, hDc.weaken (fun _ _ _ _ => trivial), by rw [hU]; exact wdAll.moved hW.alike hall⟩, htxN.at (fun a_ h_ _ => hS.2.1 a_ h_ (fun z_ => absurd ((hAd a_).mp z_) (Nat.not_le.mpr h_))) hU hW⟩⟩ rfl rfl hl.1 rfl (lv_room (Nat.le_of_ble_eq_true rfl)) d_L_law_362 ⟨Nat.le_trans (m := 601024) (by omega) (Nat.le_of_ble_eq_true rfl), Nat.le_trans (m := 7293034) (by omega) (Nat.le_of_ble_eq_true rfl)⟩) hS (fun q _ h => hFc q h) hFc (fun q _ h => h.elim) (fun E9 ce9 q9 u9 t_ H1 locs _ _ hpx_ _ _ _ _ _ _ _ => hpx_.elim) (fun r_362 u_362 t_ H1 locs ht_ hvm_ hr_362 hB_ hz1_ hk1_ hS => ?_)
            have hzH : z0 ≤ H1.size := Nat.le_trans hzH hz1_
            obtain ⟨⟨n2, wa2, Wd2⟩, gg2⟩ := u_362
            obtain ⟨hP1_, hK1_, hD1_, hall1_⟩ := hB_
            rw [ht_] at hP1_ hall1_
            have hall : wdAll dC dI z0 H1 s n2 wa2 Wd2 := wdAll.moved hvm_.symm hall1_
            obtain ⟨hP, hD⟩ := va_join (wr := [(q_8, .inr (ciM, [.int (th), .int (nI (n)), .ref a1, .ref a2, .ref a3, .ref a4, .ref a5, .int (mo), .int (le)])), (a1, .inl (c1, 40, .inl xh)), (a2, .inl (c2, 40, .inl yr)), (a3, .inl (c3, 40, .inr (.inl xb))), (a4, .inl (c4, 40, .inr (.inl yb))), (a5, .inl (c5, 7400, .inl bs))]) (w1 := [(q_0, .inr (ciP, [.ref q, .int (nI (n2))])), (q, .inl (cW, 40, .inr (.inr (.inr (.inr wa2))))), (q_17, .inl (cA_17, 1, .inr (.inl gg2)))]) hP hD [0, 1, 8] [2, 3, 4, 5, 6, 7] rfl rfl (by decide) (by decide) hk1_ hFc hP1_ hD1_
            generalize H1 = H at hP hS hall hzH ⊢
            have hP : va_P (dC, dI) vwCl [(q_8, .inr (ciM, [.int (th), .int (nI (n)), .ref a1, .ref a2, .ref a3, .ref a4, .ref a5, .int (mo), .int (le)])), (a1, .inl (c1, 40, .inl xh)), (a2, .inl (c2, 40, .inl yr)), (a3, .inl (c3, 40, .inr (.inl xb))), (a4, .inl (c4, 40, .inr (.inl yb))), (a5, .inl (c5, 7400, .inl bs)), (q_0, .inr (ciP, [.ref q, .int (nI (n2))])), (q, .inl (cW, 40, .inr (.inr (.inr (.inr wa2))))), (q_17, .inl (cA_17, 1, .inr (.inl gg2)))] H := hP
            have hD : va_D A [(q_8, .inr (ciM, [.int (th), .int (nI (n)), .ref a1, .ref a2, .ref a3, .ref a4, .ref a5, .int (mo), .int (le)])), (a1, .inl (c1, 40, .inl xh)), (a2, .inl (c2, 40, .inl yr)), (a3, .inl (c3, 40, .inr (.inl xb))), (a4, .inl (c4, 40, .inr (.inl yb))), (a5, .inl (c5, 7400, .inl bs)), (q_0, .inr (ciP, [.ref q, .int (nI (n2))])), (q, .inl (cW, 40, .inr (.inr (.inr (.inr wa2))))), (q_17, .inl (cA_17, 1, .inr (.inl gg2)))] := hD
            refine lv_istore (lv' := [(5, .int (r_362)), (0, .ref b), (1, .ref q_0), (2, .ref q_8), (3, .ref q_17), (4, .int (nI (5 * k)))]) hx hb d_L_law_365 hl (by decide) rfl (fun ls hl => ?_)
            refine lv_aload_n hx hb d_L_law_367 rfl (lv_at hl 3 rfl) ?_
            refine lv_aload_n hx hb d_L_law_368 rfl (lv_at hl 1 rfl) ?_
            refine lv_iload hx hb d_L_law_369 (lv_at hl 5 rfl) ?_
            refine lv_iconst (v := nI 1) hx hb d_L_law_371 (by decide) ?_
            refine pq_iadd (a := (5 * k)) (b := 1) hx hb d_L_law_372 ?_
            refine va_sld hx hb hX hbl hbA hS (vp_in_nI (n := ((5 * k) + 1)) (by omega) (by omega)) d_L_law_373 ?_
            refine pq_top (y := .int (xs ((5 * k) + 1))) (by rw [pq_cl (by omega)]) ?_
            refine lv_aload_n hx hb d_L_law_374 rfl (lv_at hl 1 rfl) ?_
            refine lv_iload hx hb d_L_law_375 (lv_at hl 5 rfl) ?_
            refine lv_iconst (v := nI 2) hx hb d_L_law_377 (by decide) ?_
            refine pq_iadd (a := (5 * k)) (b := 2) hx hb d_L_law_378 ?_
            refine va_sld hx hb hX hbl hbA hS (vp_in_nI (n := ((5 * k) + 2)) (by omega) (by omega)) d_L_law_379 ?_
            refine pq_top (y := .int (xs ((5 * k) + 2))) (by rw [pq_cl (by omega)]) ?_
            have hPc := hP.sub (ws' := [(q_8, .inr (ciM, [.int (th), .int (nI (n)), .ref a1, .ref a2, .ref a3, .ref a4, .ref a5, .int (mo), .int (le)])), (a1, .inl (c1, 40, .inl xh)), (a2, .inl (c2, 40, .inl yr)), (a3, .inl (c3, 40, .inr (.inl xb))), (a4, .inl (c4, 40, .inr (.inl yb))), (a5, .inl (c5, 7400, .inl bs))]) [0, 1, 2, 3, 4, 5] rfl
            have hDc := hD.sub (ws' := [(q_8, .inr (ciM, [.int (th), .int (nI (n)), .ref a1, .ref a2, .ref a3, .ref a4, .ref a5, .int (mo), .int (le)])), (a1, .inl (c1, 40, .inl xh)), (a2, .inl (c2, 40, .inl yr)), (a3, .inl (c3, 40, .inr (.inl xb))), (a4, .inl (c4, 40, .inr (.inl yb))), (a5, .inl (c5, 7400, .inl bs))]) [0, 1, 2, 3, 4, 5] (by decide) rfl
            have hKc := hK.sub (tys' := [(c1, .int), (c2, .int), (c3, .long), (c4, .long), (c5, .boolean)]) [1, 2, 3, 4, 5] rfl
            have hFc := va_free (wc := [(q_8, .inr (ciM, [.int (th), .int (nI (n)), .ref a1, .ref a2, .ref a3, .ref a4, .ref a5, .int (mo), .int (le)])), (a1, .inl (c1, 40, .inl xh)), (a2, .inl (c2, 40, .inl yr)), (a3, .inl (c3, 40, .inr (.inl xb))), (a4, .inl (c4, 40, .inr (.inl yb))), (a5, .inl (c5, 7400, .inl bs))]) hD hS hA [0, 1, 2, 3, 4, 5] rfl
            refine va_calli (va_runV (As := [.int (xs ((5 * k) + 1)), .int (xs ((5 * k) + 2))]) (rest := []) ⟨hx, hb, hml, hown, hts⟩ (c_M_at l dC dI hn hm) (cwV 2 hts (gd_V mb_502 mb_503 mb_504 mb_23 mb_505) rfl rfl rfl (by decide +kernel) ⟨Nat.le_of_ble_eq_true rfl, Nat.le_of_ble_eq_true rfl⟩) ⟨md_blind, va_recv hK hP (ci := ciM) (q0 := 0) rfl rfl, fun U hU hW => ⟨rfl, by rw [hU], by rw [hU]; exact hPc, va_K.moved hW.alike hKc, hDc.weaken (fun _ _ _ _ => trivial)⟩⟩ rfl rfl hl.1 rfl (lv_room (Nat.le_of_ble_eq_true rfl)) d_L_law_380 ⟨Nat.le_trans (m := 601024) (by omega) (Nat.le_of_ble_eq_true rfl), Nat.le_trans (m := 7293034) (by omega) (Nat.le_of_ble_eq_true rfl)⟩) hS (fun q _ h => hFc q h) hFc (fun r_380 u_380 t_ H1 locs ht_ hvm_ hr_380 hB_ hz1_ hk1_ hS => ?_)
            obtain ⟨hP1_, hK1_, hD1_⟩ := hB_
            rw [ht_] at hP1_
            have hall := lm_keep hk1_ (md_out hmz h1z h2z h3z h4z h5z) hall
            have hzH : z0 ≤ H1.size := Nat.le_trans hzH hz1_
            have hj_ := j_at hn hm hr_362 hr_380
            obtain ⟨th2, m2, mo2, le2, xh2, yr2, xb2, yb2, bs2⟩ := u_380
            obtain ⟨⟨hjn_, hn2_, hm2_⟩, hjt_⟩ := hj_
            have hjt_ : jt r_362 gg2 r_380 th2 := hjt_
            have hjn_ : n2 = m2 := hjn_
            have hn : n2 ≤ 40 := hn2_
            have hm : mdAll xh2 yr2 xb2 yb2 n2 Wd2 := hm2_
            subst hjn_
            obtain ⟨hP, hD⟩ := va_join (wr := [(q_0, .inr (ciP, [.ref q, .int (nI (n2))])), (q, .inl (cW, 40, .inr (.inr (.inr (.inr wa2))))), (q_17, .inl (cA_17, 1, .inr (.inl gg2)))]) (w1 := [(q_8, .inr (ciM, [.int (th2), .int (nI (n2)), .ref a1, .ref a2, .ref a3, .ref a4, .ref a5, .int (mo2), .int (le2)])), (a1, .inl (c1, 40, .inl xh2)), (a2, .inl (c2, 40, .inl yr2)), (a3, .inl (c3, 40, .inr (.inl xb2))), (a4, .inl (c4, 40, .inr (.inl yb2))), (a5, .inl (c5, 7400, .inl bs2))]) hP hD [0, 1, 2, 3, 4, 5] [6, 7, 8] rfl rfl (by decide) (by decide) hk1_ hFc hP1_ hD1_
            generalize H1 = H at hP hS hall hzH ⊢
            have hP : va_P (dC, dI) vwCl [(q_0, .inr (ciP, [.ref q, .int (nI (n2))])), (q, .inl (cW, 40, .inr (.inr (.inr (.inr wa2))))), (q_17, .inl (cA_17, 1, .inr (.inl gg2))), (q_8, .inr (ciM, [.int (th2), .int (nI (n2)), .ref a1, .ref a2, .ref a3, .ref a4, .ref a5, .int (mo2), .int (le2)])), (a1, .inl (c1, 40, .inl xh2)), (a2, .inl (c2, 40, .inl yr2)), (a3, .inl (c3, 40, .inr (.inl xb2))), (a4, .inl (c4, 40, .inr (.inl yb2))), (a5, .inl (c5, 7400, .inl bs2))] H := hP
            have hD : va_D A [(q_0, .inr (ciP, [.ref q, .int (nI (n2))])), (q, .inl (cW, 40, .inr (.inr (.inr (.inr wa2))))), (q_17, .inl (cA_17, 1, .inr (.inl gg2))), (q_8, .inr (ciM, [.int (th2), .int (nI (n2)), .ref a1, .ref a2, .ref a3, .ref a4, .ref a5, .int (mo2), .int (le2)])), (a1, .inl (c1, 40, .inl xh2)), (a2, .inl (c2, 40, .inl yr2)), (a3, .inl (c3, 40, .inr (.inl xb2))), (a4, .inl (c4, 40, .inr (.inl yb2))), (a5, .inl (c5, 7400, .inl bs2))] := hD
            refine lv_istore (lv' := [(6, .int (r_380)), (5, .int (r_362)), (0, .ref b), (1, .ref q_0), (2, .ref q_8), (3, .ref q_17), (4, .int (nI (5 * k)))]) hx hb d_L_law_383 hl (by decide) rfl (fun ls hl => ?_)
            rcases hjt_ with ⟨ek_, eth_, eg_⟩ | ⟨ek_, eth_⟩
            · subst ek_
              subst eth_
              refine lv_aload_n hx hb d_L_law_385 rfl (lv_at hl 4 rfl) ?_
              have hPm := hP.sub (ws' := [(q_8, .inr (ciM, [.int (nI (0)), .int (nI (n2)), .ref a1, .ref a2, .ref a3, .ref a4, .ref a5, .int (mo2), .int (le2)])), (a1, .inl (c1, 40, .inl xh2)), (a2, .inl (c2, 40, .inl yr2)), (a3, .inl (c3, 40, .inr (.inl xb2))), (a4, .inl (c4, 40, .inr (.inl yb2))), (a5, .inl (c5, 7400, .inl bs2))]) [3, 4, 5, 6, 7, 8] rfl
              have hKm := hK.sub (tys' := [(c1, .int), (c2, .int), (c3, .long), (c4, .long), (c5, .boolean)]) [1, 2, 3, 4, 5] rfl
              refine vp_callSi (W.runV (As := []) (rest := []) ⟨hx, hb, hml, hown, hts⟩ (c_M_thrown l dC dI) (cwV 0 hts (gd_V mb_413 mb_414 mb_415 mb_23 mb_416) rfl rfl rfl (by decide +kernel) ⟨Nat.le_of_ble_eq_true rfl, Nat.le_of_ble_eq_true rfl⟩) (pw_R_V (va_recv hK hP (ci := ciM) (q0 := 3) rfl rfl) hPm hKm) rfl rfl hl.1 rfl (lv_room (Nat.le_of_ble_eq_true rfl)) d_L_law_386 ⟨Nat.le_trans (m := 601024) (by omega) (Nat.le_of_ble_eq_true rfl), Nat.le_trans (m := 7293034) (by omega) (Nat.le_of_ble_eq_true rfl)⟩) (fun r_386 hr_386 => ?_)
              subst hr_386
              refine lv_iload hx hb d_L_law_389 (lv_at hl 1 rfl) ?_
              refine pq_icmp_eq (tgt := 396) (a := 0) (b := 0) hx hb d_L_law_391 (by decide) (by omega) (by omega) (fun c_391 => ?_) (fun c_391 => absurd c_391 (by omega))
              refine lv_iload hx hb d_L_law_396 (lv_at hl 1 rfl) ?_
              refine pq_if_ne (tgt := 413) (a := 0) hx hb d_L_law_398 (by decide) (by omega) (fun c_398 => absurd c_398 (by omega)) (fun c_398 => ?_)
              refine lv_aload_n hx hb d_L_law_401 rfl (lv_at hl 5 rfl) ?_
              refine lv_iconst (v := nI 0) hx hb d_L_law_402 (by decide) ?_
              refine va_lald hx hb hK hP 2 6 rfl rfl (vp_in_nI (n := 0) (by omega) (by omega)) d_L_law_403 ?_
              refine pq_top (y := .long (gg2 0)) (by rw [pq_cl (by omega)]) ?_
              refine lv_iload hx hb d_L_law_404 (lv_at hl 0 rfl) ?_
              refine lv_i2l hx hb d_L_law_406 rfl ?_
              refine lv_topl (fun y_5 ey_5 => ?_)
              refine pq_top (y := .long (r_380.toInt64)) (by rw [ey_5]) ?_
              refine W.lcmp hx hb d_L_law_407 ?_
              refine lv_topi (fun x_6 ex_6 => ?_)
              refine pq_top (y := .int (nI (0))) (by rw [ex_6, show lg_cmp (gg2 0) r_380.toInt64 = nI 0 by rw [nI_0, lg_cmp_eq]; exact eg_]) ?_
              refine pq_if_eq (tgt := 413) (a := 0) hx hb d_L_law_408 (by decide) (by omega) (fun c_408 => ?_) (fun c_408 => absurd c_408 (by omega))
              refine lv_goto (tgt := 582) hx hb d_L_law_413 (by decide) ?_
              refine W.widen (k := 9 + 5 * (k + 1)) (n := 7612 + 260 * (k + 1)) (by omega) (by omega) ?_
              have hP := hP.sub [0, 1, 3, 4, 5, 6, 7, 8, 2] rfl
              have hD := hD.sub (ws' := [(q_0, .inr (ciP, [.ref q, .int (nI (n2))])), (q, .inl (cW, 40, .inr (.inr (.inr (.inr wa2))))), (q_8, .inr (ciM, [.int (nI (0)), .int (nI (n2)), .ref a1, .ref a2, .ref a3, .ref a4, .ref a5, .int (mo2), .int (le2)])), (a1, .inl (c1, 40, .inl xh2)), (a2, .inl (c2, 40, .inl yr2)), (a3, .inl (c3, 40, .inr (.inl xb2))), (a4, .inl (c4, 40, .inr (.inl yb2))), (a5, .inl (c5, 7400, .inl bs2)), (q_17, .inl (cA_17, 1, .inr (.inl gg2)))]) [0, 1, 3, 4, 5, 6, 7, 8, 2] (by decide) rfl
              exact B_582 (n2) (wa2) (Wd2) (nI 0) (mo2) (le2) (xh2) (yr2) (xb2) (yb2) (bs2) (gg2) _ _ ls hn hzH hall hm hP hD hS (lv_sub hl [2, 3, 4, 5, 6] rfl)
            · subst ek_
              subst eth_
              refine lv_aload_n hx hb d_L_law_385 rfl (lv_at hl 4 rfl) ?_
              have hPm := hP.sub (ws' := [(q_8, .inr (ciM, [.int (nI (1)), .int (nI (n2)), .ref a1, .ref a2, .ref a3, .ref a4, .ref a5, .int (mo2), .int (le2)])), (a1, .inl (c1, 40, .inl xh2)), (a2, .inl (c2, 40, .inl yr2)), (a3, .inl (c3, 40, .inr (.inl xb2))), (a4, .inl (c4, 40, .inr (.inl yb2))), (a5, .inl (c5, 7400, .inl bs2))]) [3, 4, 5, 6, 7, 8] rfl
              have hKm := hK.sub (tys' := [(c1, .int), (c2, .int), (c3, .long), (c4, .long), (c5, .boolean)]) [1, 2, 3, 4, 5] rfl
              refine vp_callSi (W.runV (As := []) (rest := []) ⟨hx, hb, hml, hown, hts⟩ (c_M_thrown l dC dI) (cwV 0 hts (gd_V mb_413 mb_414 mb_415 mb_23 mb_416) rfl rfl rfl (by decide +kernel) ⟨Nat.le_of_ble_eq_true rfl, Nat.le_of_ble_eq_true rfl⟩) (pw_R_V (va_recv hK hP (ci := ciM) (q0 := 3) rfl rfl) hPm hKm) rfl rfl hl.1 rfl (lv_room (Nat.le_of_ble_eq_true rfl)) d_L_law_386 ⟨Nat.le_trans (m := 601024) (by omega) (Nat.le_of_ble_eq_true rfl), Nat.le_trans (m := 7293034) (by omega) (Nat.le_of_ble_eq_true rfl)⟩) (fun r_386 hr_386 => ?_)
              subst hr_386
              refine lv_iload hx hb d_L_law_389 (lv_at hl 1 rfl) ?_
              refine pq_icmp_eq (tgt := 396) (a := 1) (b := 1) hx hb d_L_law_391 (by decide) (by omega) (by omega) (fun c_391 => ?_) (fun c_391 => absurd c_391 (by omega))
              refine lv_iload hx hb d_L_law_396 (lv_at hl 1 rfl) ?_
              refine pq_if_ne (tgt := 413) (a := 1) hx hb d_L_law_398 (by decide) (by omega) (fun c_398 => ?_) (fun c_398 => absurd c_398 (by omega))
              refine lv_goto (tgt := 582) hx hb d_L_law_413 (by decide) ?_
              refine W.widen (k := 9 + 5 * (k + 1)) (n := 7612 + 260 * (k + 1)) (by omega) (by omega) ?_
              have hP := hP.sub [0, 1, 3, 4, 5, 6, 7, 8, 2] rfl
              have hD := hD.sub (ws' := [(q_0, .inr (ciP, [.ref q, .int (nI (n2))])), (q, .inl (cW, 40, .inr (.inr (.inr (.inr wa2))))), (q_8, .inr (ciM, [.int (nI (1)), .int (nI (n2)), .ref a1, .ref a2, .ref a3, .ref a4, .ref a5, .int (mo2), .int (le2)])), (a1, .inl (c1, 40, .inl xh2)), (a2, .inl (c2, 40, .inl yr2)), (a3, .inl (c3, 40, .inr (.inl xb2))), (a4, .inl (c4, 40, .inr (.inl yb2))), (a5, .inl (c5, 7400, .inl bs2)), (q_17, .inl (cA_17, 1, .inr (.inl gg2)))]) [0, 1, 3, 4, 5, 6, 7, 8, 2] (by decide) rfl
              exact B_582 (n2) (wa2) (Wd2) (nI 1) (mo2) (le2) (xh2) (yr2) (xb2) (yb2) (bs2) (gg2) _ _ ls hn hzH hall hm hP hD hS (lv_sub hl [2, 3, 4, 5, 6] rfl)
          · refine lv_tableIn (tgt := 416) hx hb d_L_law_39 (by decide) (by decide) rfl (by decide) ?_
            refine lv_aload_n hx hb d_L_law_416 rfl (lv_at hl 1 rfl) ?_
            refine lv_aload_n hx hb d_L_law_417 rfl (lv_at hl 0 rfl) ?_
            refine lv_iload hx hb d_L_law_418 (lv_at hl 4 rfl) ?_
            refine lv_iconst (v := nI 1) hx hb d_L_law_420 (by decide) ?_
            refine pq_iadd (a := (5 * k)) (b := 1) hx hb d_L_law_421 ?_
            refine va_sld hx hb hX hbl hbA hS (vp_in_nI (n := ((5 * k) + 1)) (by omega) (by omega)) d_L_law_422 ?_
            refine pq_top (y := .int (xs ((5 * k) + 1))) (by rw [pq_cl (by omega)]) ?_
            have hPc := hP.sub (ws' := [(q_0, .inr (ciP, [.ref q, .int (nI (n))])), (q, .inl (cW, 40, .inr (.inr (.inr (.inr wa)))))]) [0, 1] rfl
            have hKc := hK.sub (tys' := [(cW, .object "PeriodWords$Word")]) [0] rfl
            refine vp_callSi (W.runV (As := [.int (xs ((5 * k) + 1))]) (rest := []) ⟨hx, hb, hml, hown, hts⟩ (c_P_same l dC dI (z0 := z0) (o := q_0) (q := q) (n := n) (cW := cW) (wa := wa) (Wd := Wd) hn) (cwV 1 hts (gd_V mb_212 mb_213 mb_214 mb_22 mb_215) rfl rfl rfl (by decide +kernel) ⟨(Nat.le_of_ble_eq_true rfl), (Nat.le_of_ble_eq_true rfl)⟩) ⟨pw_X_blind, va_recv hK hP (ci := ciP) (q0 := 0) rfl rfl, fun U hU hW => ⟨rfl, by rw [hU]; exact hPc, va_K.moved hW.alike hKc, by rw [hU]; exact wdAll.moved hW.alike hall⟩⟩ rfl rfl hl.1 rfl (lv_room (Nat.le_of_ble_eq_true rfl)) d_L_law_423 ⟨Nat.le_trans (m := 601024) (by omega) (Nat.le_of_ble_eq_true rfl), Nat.le_trans (m := 7293034) (by omega) (Nat.le_of_ble_eq_true rfl)⟩) (fun r_423 hr_423 => ?_)
            refine lv_aload_n hx hb d_L_law_426 rfl (lv_at hl 2 rfl) ?_
            refine lv_aload_n hx hb d_L_law_427 rfl (lv_at hl 0 rfl) ?_
            refine lv_iload hx hb d_L_law_428 (lv_at hl 4 rfl) ?_
            refine lv_iconst (v := nI 1) hx hb d_L_law_430 (by decide) ?_
            refine pq_iadd (a := (5 * k)) (b := 1) hx hb d_L_law_431 ?_
            refine va_sld hx hb hX hbl hbA hS (vp_in_nI (n := ((5 * k) + 1)) (by omega) (by omega)) d_L_law_432 ?_
            refine pq_top (y := .int (xs ((5 * k) + 1))) (by rw [pq_cl (by omega)]) ?_
            have hPc := hP.sub (ws' := [(q_8, .inr (ciM, [.int (th), .int (nI (n)), .ref a1, .ref a2, .ref a3, .ref a4, .ref a5, .int (mo), .int (le)])), (a1, .inl (c1, 40, .inl xh)), (a2, .inl (c2, 40, .inl yr)), (a3, .inl (c3, 40, .inr (.inl xb))), (a4, .inl (c4, 40, .inr (.inl yb))), (a5, .inl (c5, 7400, .inl bs))]) [2, 3, 4, 5, 6, 7] rfl
            have hDc := hD.sub (ws' := [(q_8, .inr (ciM, [.int (th), .int (nI (n)), .ref a1, .ref a2, .ref a3, .ref a4, .ref a5, .int (mo), .int (le)])), (a1, .inl (c1, 40, .inl xh)), (a2, .inl (c2, 40, .inl yr)), (a3, .inl (c3, 40, .inr (.inl xb))), (a4, .inl (c4, 40, .inr (.inl yb))), (a5, .inl (c5, 7400, .inl bs))]) [2, 3, 4, 5, 6, 7] (by decide) rfl
            have hKc := hK.sub (tys' := [(c1, .int), (c2, .int), (c3, .long), (c4, .long), (c5, .boolean)]) [1, 2, 3, 4, 5] rfl
            have hFc := va_free (wc := [(q_8, .inr (ciM, [.int (th), .int (nI (n)), .ref a1, .ref a2, .ref a3, .ref a4, .ref a5, .int (mo), .int (le)])), (a1, .inl (c1, 40, .inl xh)), (a2, .inl (c2, 40, .inl yr)), (a3, .inl (c3, 40, .inr (.inl xb))), (a4, .inl (c4, 40, .inr (.inl yb))), (a5, .inl (c5, 7400, .inl bs))]) hD hS hA [2, 3, 4, 5, 6, 7] rfl
            refine va_calli (va_runV (As := [.int (xs ((5 * k) + 1))]) (rest := [.int (r_423)]) ⟨hx, hb, hml, hown, hts⟩ (c_M_same l dC dI hn hm) (cwV 1 hts (gd_V mb_511 mb_512 mb_513 mb_23 mb_514) rfl rfl rfl (by decide +kernel) ⟨Nat.le_of_ble_eq_true rfl, Nat.le_of_ble_eq_true rfl⟩) ⟨md_blind, va_recv hK hP (ci := ciM) (q0 := 2) rfl rfl, fun U hU hW => ⟨rfl, by rw [hU], by rw [hU]; exact hPc, va_K.moved hW.alike hKc, hDc.weaken (fun _ _ _ _ => trivial)⟩⟩ rfl rfl hl.1 rfl (lv_room (Nat.le_of_ble_eq_true rfl)) d_L_law_433 ⟨Nat.le_trans (m := 601024) (by omega) (Nat.le_of_ble_eq_true rfl), Nat.le_trans (m := 7293034) (by omega) (Nat.le_of_ble_eq_true rfl)⟩) hS (fun q _ h => hFc q h) hFc (fun r_433 u_433 t_ H1 locs ht_ hvm_ hr_433 hB_ hz1_ hk1_ hS => ?_)
            obtain ⟨hP1_, hK1_, hD1_⟩ := hB_
            rw [ht_] at hP1_
            have hall := lm_keep hk1_ (md_out hmz h1z h2z h3z h4z h5z) hall
            have hzH : z0 ≤ H1.size := Nat.le_trans hzH hz1_
            obtain ⟨hres_, hu_⟩ := hr_433
            subst hu_
            obtain ⟨hP, hD⟩ := va_join (wr := [(q_0, .inr (ciP, [.ref q, .int (nI (n))])), (q, .inl (cW, 40, .inr (.inr (.inr (.inr wa))))), (q_17, .inl (cA_17, 1, .inr (.inl gg)))]) (w1 := [(q_8, .inr (ciM, [.int (nI (0)), .int (nI (n)), .ref a1, .ref a2, .ref a3, .ref a4, .ref a5, .int (mo), .int (le)])), (a1, .inl (c1, 40, .inl xh)), (a2, .inl (c2, 40, .inl yr)), (a3, .inl (c3, 40, .inr (.inl xb))), (a4, .inl (c4, 40, .inr (.inl yb))), (a5, .inl (c5, 7400, .inl bs))]) hP hD [2, 3, 4, 5, 6, 7] [0, 1, 8] rfl rfl (by decide) (by decide) hk1_ hFc hP1_ hD1_
            generalize H1 = H at hP hS hall hzH ⊢
            have hP : va_P (dC, dI) vwCl [(q_0, .inr (ciP, [.ref q, .int (nI (n))])), (q, .inl (cW, 40, .inr (.inr (.inr (.inr wa))))), (q_17, .inl (cA_17, 1, .inr (.inl gg))), (q_8, .inr (ciM, [.int (nI (0)), .int (nI (n)), .ref a1, .ref a2, .ref a3, .ref a4, .ref a5, .int (mo), .int (le)])), (a1, .inl (c1, 40, .inl xh)), (a2, .inl (c2, 40, .inl yr)), (a3, .inl (c3, 40, .inr (.inl xb))), (a4, .inl (c4, 40, .inr (.inl yb))), (a5, .inl (c5, 7400, .inl bs))] H := hP
            have hD : va_D A [(q_0, .inr (ciP, [.ref q, .int (nI (n))])), (q, .inl (cW, 40, .inr (.inr (.inr (.inr wa))))), (q_17, .inl (cA_17, 1, .inr (.inl gg))), (q_8, .inr (ciM, [.int (nI (0)), .int (nI (n)), .ref a1, .ref a2, .ref a3, .ref a4, .ref a5, .int (mo), .int (le)])), (a1, .inl (c1, 40, .inl xh)), (a2, .inl (c2, 40, .inl yr)), (a3, .inl (c3, 40, .inr (.inl xb))), (a4, .inl (c4, 40, .inr (.inl yb))), (a5, .inl (c5, 7400, .inl bs))] := hD
            refine lv_icmp_eq (tgt := 582) hx hb d_L_law_436 (by decide) (fun c_436 => ?_) (fun c_436 => absurd c_436 (fun z_ => z_ (sp_1_u hn hr_423 hres_ (fun i _ r r' h h' => sp_same_u h h') (fun r r' h h' => pq_eqs h h'))))
            refine W.widen (k := 9 + 5 * (k + 1)) (n := 7612 + 260 * (k + 1)) (by omega) (by omega) ?_
            have hP := hP.sub [0, 1, 3, 4, 5, 6, 7, 8, 2] rfl
            have hD := hD.sub (ws' := [(q_0, .inr (ciP, [.ref q, .int (nI (n))])), (q, .inl (cW, 40, .inr (.inr (.inr (.inr wa))))), (q_8, .inr (ciM, [.int (nI (0)), .int (nI (n)), .ref a1, .ref a2, .ref a3, .ref a4, .ref a5, .int (mo), .int (le)])), (a1, .inl (c1, 40, .inl xh)), (a2, .inl (c2, 40, .inl yr)), (a3, .inl (c3, 40, .inr (.inl xb))), (a4, .inl (c4, 40, .inr (.inl yb))), (a5, .inl (c5, 7400, .inl bs)), (q_17, .inl (cA_17, 1, .inr (.inl gg)))]) [0, 1, 3, 4, 5, 6, 7, 8, 2] (by decide) rfl
            exact B_582 (n) (wa) (Wd) (nI 0) (mo) (le) (xh) (yr) (xb) (yb) (bs) (gg) _ _ ls hn hzH hall hm hP hD hS (lv_sub hl [0, 1, 2, 3, 4] rfl)
          · refine lv_tableIn (tgt := 441) hx hb d_L_law_39 (by decide) (by decide) rfl (by decide) ?_
            refine lv_aload_n hx hb d_L_law_441 rfl (lv_at hl 1 rfl) ?_
            refine lv_aload_n hx hb d_L_law_442 rfl (lv_at hl 0 rfl) ?_
            refine lv_iload hx hb d_L_law_443 (lv_at hl 4 rfl) ?_
            refine lv_iconst (v := nI 1) hx hb d_L_law_445 (by decide) ?_
            refine pq_iadd (a := (5 * k)) (b := 1) hx hb d_L_law_446 ?_
            refine va_sld hx hb hX hbl hbA hS (vp_in_nI (n := ((5 * k) + 1)) (by omega) (by omega)) d_L_law_447 ?_
            refine pq_top (y := .int (xs ((5 * k) + 1))) (by rw [pq_cl (by omega)]) ?_
            refine lv_aload_n hx hb d_L_law_448 rfl (lv_at hl 0 rfl) ?_
            refine lv_iload hx hb d_L_law_449 (lv_at hl 4 rfl) ?_
            refine lv_iconst (v := nI 2) hx hb d_L_law_451 (by decide) ?_
            refine pq_iadd (a := (5 * k)) (b := 2) hx hb d_L_law_452 ?_
            refine va_sld hx hb hX hbl hbA hS (vp_in_nI (n := ((5 * k) + 2)) (by omega) (by omega)) d_L_law_453 ?_
            refine pq_top (y := .int (xs ((5 * k) + 2))) (by rw [pq_cl (by omega)]) ?_
            have hPc := hP.sub (ws' := [(q_0, .inr (ciP, [.ref q, .int (nI (n))])), (q, .inl (cW, 40, .inr (.inr (.inr (.inr wa)))))]) [0, 1] rfl
            have hKc := hK.sub (tys' := [(cW, .object "PeriodWords$Word")]) [0] rfl
            refine vp_callSi (W.runV (As := [.int (xs ((5 * k) + 1)), .int (xs ((5 * k) + 2))]) (rest := []) ⟨hx, hb, hml, hown, hts⟩ (c_P_ahead l dC dI (z0 := z0) (o := q_0) (q := q) (n := n) (cW := cW) (wa := wa) (Wd := Wd) hn) (cwV 2 hts (gd_V mb_219 mb_220 mb_221 mb_22 mb_222) rfl rfl rfl (by decide +kernel) ⟨(Nat.le_of_ble_eq_true rfl), (Nat.le_of_ble_eq_true rfl)⟩) ⟨pw_X_blind, va_recv hK hP (ci := ciP) (q0 := 0) rfl rfl, fun U hU hW => ⟨rfl, by rw [hU]; exact hPc, va_K.moved hW.alike hKc, by rw [hU]; exact wdAll.moved hW.alike hall⟩⟩ rfl rfl hl.1 rfl (lv_room (Nat.le_of_ble_eq_true rfl)) d_L_law_454 ⟨Nat.le_trans (m := 601024) (by omega) (Nat.le_of_ble_eq_true rfl), Nat.le_trans (m := 7293034) (by omega) (Nat.le_of_ble_eq_true rfl)⟩) (fun r_454 hr_454 => ?_)
            refine lv_aload_n hx hb d_L_law_457 rfl (lv_at hl 2 rfl) ?_
            refine lv_aload_n hx hb d_L_law_458 rfl (lv_at hl 0 rfl) ?_
            refine lv_iload hx hb d_L_law_459 (lv_at hl 4 rfl) ?_
            refine lv_iconst (v := nI 1) hx hb d_L_law_461 (by decide) ?_
            refine pq_iadd (a := (5 * k)) (b := 1) hx hb d_L_law_462 ?_
            refine va_sld hx hb hX hbl hbA hS (vp_in_nI (n := ((5 * k) + 1)) (by omega) (by omega)) d_L_law_463 ?_
            refine pq_top (y := .int (xs ((5 * k) + 1))) (by rw [pq_cl (by omega)]) ?_
            refine lv_aload_n hx hb d_L_law_464 rfl (lv_at hl 0 rfl) ?_
            refine lv_iload hx hb d_L_law_465 (lv_at hl 4 rfl) ?_
            refine lv_iconst (v := nI 2) hx hb d_L_law_467 (by decide) ?_
            refine pq_iadd (a := (5 * k)) (b := 2) hx hb d_L_law_468 ?_
            refine va_sld hx hb hX hbl hbA hS (vp_in_nI (n := ((5 * k) + 2)) (by omega) (by omega)) d_L_law_469 ?_
            refine pq_top (y := .int (xs ((5 * k) + 2))) (by rw [pq_cl (by omega)]) ?_
            have hPc := hP.sub (ws' := [(q_8, .inr (ciM, [.int (th), .int (nI (n)), .ref a1, .ref a2, .ref a3, .ref a4, .ref a5, .int (mo), .int (le)])), (a1, .inl (c1, 40, .inl xh)), (a2, .inl (c2, 40, .inl yr)), (a3, .inl (c3, 40, .inr (.inl xb))), (a4, .inl (c4, 40, .inr (.inl yb))), (a5, .inl (c5, 7400, .inl bs))]) [2, 3, 4, 5, 6, 7] rfl
            have hDc := hD.sub (ws' := [(q_8, .inr (ciM, [.int (th), .int (nI (n)), .ref a1, .ref a2, .ref a3, .ref a4, .ref a5, .int (mo), .int (le)])), (a1, .inl (c1, 40, .inl xh)), (a2, .inl (c2, 40, .inl yr)), (a3, .inl (c3, 40, .inr (.inl xb))), (a4, .inl (c4, 40, .inr (.inl yb))), (a5, .inl (c5, 7400, .inl bs))]) [2, 3, 4, 5, 6, 7] (by decide) rfl
            have hKc := hK.sub (tys' := [(c1, .int), (c2, .int), (c3, .long), (c4, .long), (c5, .boolean)]) [1, 2, 3, 4, 5] rfl
            have hFc := va_free (wc := [(q_8, .inr (ciM, [.int (th), .int (nI (n)), .ref a1, .ref a2, .ref a3, .ref a4, .ref a5, .int (mo), .int (le)])), (a1, .inl (c1, 40, .inl xh)), (a2, .inl (c2, 40, .inl yr)), (a3, .inl (c3, 40, .inr (.inl xb))), (a4, .inl (c4, 40, .inr (.inl yb))), (a5, .inl (c5, 7400, .inl bs))]) hD hS hA [2, 3, 4, 5, 6, 7] rfl
            refine va_calli (va_runV (As := [.int (xs ((5 * k) + 1)), .int (xs ((5 * k) + 2))]) (rest := [.int (r_454)]) ⟨hx, hb, hml, hown, hts⟩ (c_M_ahead l dC dI hn hm) (cwV 2 hts (gd_V mb_515 mb_516 mb_517 mb_23 mb_518) rfl rfl rfl (by decide +kernel) ⟨Nat.le_of_ble_eq_true rfl, Nat.le_of_ble_eq_true rfl⟩) ⟨md_blind, va_recv hK hP (ci := ciM) (q0 := 2) rfl rfl, fun U hU hW => ⟨rfl, by rw [hU], by rw [hU]; exact hPc, va_K.moved hW.alike hKc, hDc.weaken (fun _ _ _ _ => trivial)⟩⟩ rfl rfl hl.1 rfl (lv_room (Nat.le_of_ble_eq_true rfl)) d_L_law_470 ⟨Nat.le_trans (m := 601024) (by omega) (Nat.le_of_ble_eq_true rfl), Nat.le_trans (m := 7293034) (by omega) (Nat.le_of_ble_eq_true rfl)⟩) hS (fun q _ h => hFc q h) hFc (fun r_470 u_470 t_ H1 locs ht_ hvm_ hr_470 hB_ hz1_ hk1_ hS => ?_)
            obtain ⟨hP1_, hK1_, hD1_⟩ := hB_
            rw [ht_] at hP1_
            have hall := lm_keep hk1_ (md_out hmz h1z h2z h3z h4z h5z) hall
            have hzH : z0 ≤ H1.size := Nat.le_trans hzH hz1_
            obtain ⟨hres_, mo9, le9, hu_⟩ := hr_470
            subst hu_
            obtain ⟨hP, hD⟩ := va_join (wr := [(q_0, .inr (ciP, [.ref q, .int (nI (n))])), (q, .inl (cW, 40, .inr (.inr (.inr (.inr wa))))), (q_17, .inl (cA_17, 1, .inr (.inl gg)))]) (w1 := [(q_8, .inr (ciM, [.int (nI (0)), .int (nI (n)), .ref a1, .ref a2, .ref a3, .ref a4, .ref a5, .int (mo9), .int (le9)])), (a1, .inl (c1, 40, .inl xh)), (a2, .inl (c2, 40, .inl yr)), (a3, .inl (c3, 40, .inr (.inl xb))), (a4, .inl (c4, 40, .inr (.inl yb))), (a5, .inl (c5, 7400, .inl bs))]) hP hD [2, 3, 4, 5, 6, 7] [0, 1, 8] rfl rfl (by decide) (by decide) hk1_ hFc hP1_ hD1_
            generalize H1 = H at hP hS hall hzH ⊢
            have hP : va_P (dC, dI) vwCl [(q_0, .inr (ciP, [.ref q, .int (nI (n))])), (q, .inl (cW, 40, .inr (.inr (.inr (.inr wa))))), (q_17, .inl (cA_17, 1, .inr (.inl gg))), (q_8, .inr (ciM, [.int (nI (0)), .int (nI (n)), .ref a1, .ref a2, .ref a3, .ref a4, .ref a5, .int (mo9), .int (le9)])), (a1, .inl (c1, 40, .inl xh)), (a2, .inl (c2, 40, .inl yr)), (a3, .inl (c3, 40, .inr (.inl xb))), (a4, .inl (c4, 40, .inr (.inl yb))), (a5, .inl (c5, 7400, .inl bs))] H := hP
            have hD : va_D A [(q_0, .inr (ciP, [.ref q, .int (nI (n))])), (q, .inl (cW, 40, .inr (.inr (.inr (.inr wa))))), (q_17, .inl (cA_17, 1, .inr (.inl gg))), (q_8, .inr (ciM, [.int (nI (0)), .int (nI (n)), .ref a1, .ref a2, .ref a3, .ref a4, .ref a5, .int (mo9), .int (le9)])), (a1, .inl (c1, 40, .inl xh)), (a2, .inl (c2, 40, .inl yr)), (a3, .inl (c3, 40, .inr (.inl xb))), (a4, .inl (c4, 40, .inr (.inl yb))), (a5, .inl (c5, 7400, .inl bs))] := hD
            refine lv_icmp_eq (tgt := 582) hx hb d_L_law_473 (by decide) (fun c_473 => ?_) (fun c_473 => absurd c_473 (fun z_ => z_ (sp_2_u hn hr_454 hres_ (fun i j _ _ r r' h h' => sp_ahead_u h h') (fun r r' h h' => pq_eqs h h'))))
            refine W.widen (k := 9 + 5 * (k + 1)) (n := 7612 + 260 * (k + 1)) (by omega) (by omega) ?_
            have hP := hP.sub [0, 1, 3, 4, 5, 6, 7, 8, 2] rfl
            have hD := hD.sub (ws' := [(q_0, .inr (ciP, [.ref q, .int (nI (n))])), (q, .inl (cW, 40, .inr (.inr (.inr (.inr wa))))), (q_8, .inr (ciM, [.int (nI (0)), .int (nI (n)), .ref a1, .ref a2, .ref a3, .ref a4, .ref a5, .int (mo9), .int (le9)])), (a1, .inl (c1, 40, .inl xh)), (a2, .inl (c2, 40, .inl yr)), (a3, .inl (c3, 40, .inr (.inl xb))), (a4, .inl (c4, 40, .inr (.inl yb))), (a5, .inl (c5, 7400, .inl bs)), (q_17, .inl (cA_17, 1, .inr (.inl gg)))]) [0, 1, 3, 4, 5, 6, 7, 8, 2] (by decide) rfl
            exact B_582 (n) (wa) (Wd) (nI 0) (mo9) (le9) (xh) (yr) (xb) (yb) (bs) (gg) _ _ ls hn hzH hall hm hP hD hS (lv_sub hl [0, 1, 2, 3, 4] rfl)
          · refine lv_tableIn (tgt := 478) hx hb d_L_law_39 (by decide) (by decide) rfl (by decide) ?_
            refine lv_aload_n hx hb d_L_law_478 rfl (lv_at hl 1 rfl) ?_
            refine lv_aload_n hx hb d_L_law_479 rfl (lv_at hl 0 rfl) ?_
            refine lv_iload hx hb d_L_law_480 (lv_at hl 4 rfl) ?_
            refine lv_iconst (v := nI 1) hx hb d_L_law_482 (by decide) ?_
            refine pq_iadd (a := (5 * k)) (b := 1) hx hb d_L_law_483 ?_
            refine va_sld hx hb hX hbl hbA hS (vp_in_nI (n := ((5 * k) + 1)) (by omega) (by omega)) d_L_law_484 ?_
            refine pq_top (y := .int (xs ((5 * k) + 1))) (by rw [pq_cl (by omega)]) ?_
            refine lv_aload_n hx hb d_L_law_485 rfl (lv_at hl 0 rfl) ?_
            refine lv_iload hx hb d_L_law_486 (lv_at hl 4 rfl) ?_
            refine lv_iconst (v := nI 2) hx hb d_L_law_488 (by decide) ?_
            refine pq_iadd (a := (5 * k)) (b := 2) hx hb d_L_law_489 ?_
            refine va_sld hx hb hX hbl hbA hS (vp_in_nI (n := ((5 * k) + 2)) (by omega) (by omega)) d_L_law_490 ?_
            refine pq_top (y := .int (xs ((5 * k) + 2))) (by rw [pq_cl (by omega)]) ?_
            refine lv_aload_n hx hb d_L_law_491 rfl (lv_at hl 0 rfl) ?_
            refine lv_iload hx hb d_L_law_492 (lv_at hl 4 rfl) ?_
            refine lv_iconst (v := nI 3) hx hb d_L_law_494 (by decide) ?_
            refine pq_iadd (a := (5 * k)) (b := 3) hx hb d_L_law_495 ?_
            refine va_sld hx hb hX hbl hbA hS (vp_in_nI (n := ((5 * k) + 3)) (by omega) (by omega)) d_L_law_496 ?_
            refine pq_top (y := .int (xs ((5 * k) + 3))) (by rw [pq_cl (by omega)]) ?_
            refine lv_aload_n hx hb d_L_law_497 rfl (lv_at hl 3 rfl) ?_
            have hPc := hP.sub (ws' := [(q_0, .inr (ciP, [.ref q, .int (nI (n))])), (q, .inl (cW, 40, .inr (.inr (.inr (.inr wa))))), (q_17, .inl (cA_17, 1, .inr (.inl gg)))]) [0, 1, 8] rfl
            have hDc := hD.sub (ws' := [(q_0, .inr (ciP, [.ref q, .int (nI (n))])), (q, .inl (cW, 40, .inr (.inr (.inr (.inr wa))))), (q_17, .inl (cA_17, 1, .inr (.inl gg)))]) [0, 1, 8] (by decide) rfl
            have hKc := hK.sub (tys' := [(cW, .object "PeriodWords$Word"), (cA_17, .long)]) [0, 6] rfl
            have hFc := va_free (wc := [(q_0, .inr (ciP, [.ref q, .int (nI (n))])), (q, .inl (cW, 40, .inr (.inr (.inr (.inr wa))))), (q_17, .inl (cA_17, 1, .inr (.inl gg)))]) hD hS hA [0, 1, 8] rfl
            refine vx_calli (vx_runSX (As := [.ref q_0, .int (xs ((5 * k) + 1)), .int (xs ((5 * k) + 2)), .int (xs ((5 * k) + 3)), .ref q_17]) (rest := []) ⟨hx, hb, hml, hown, hts⟩ (c_L_between l hst dC dI (Wd := Wd) hn hoz hqz hwz hzH hzo hzq hS.1) (vx_cwSW 5 hts (gd_SW mb_349 mb_350 mb_21 mb_351) rfl rfl rfl (by decide +kernel) ⟨(Nat.le_of_ble_eq_true rfl), (Nat.le_of_ble_eq_true rfl)⟩) ⟨tx_blind lm_blind, fun U hU hW => ⟨⟨rfl, by rw [hU], by rw [hU]; exact hPc, va_K.moved hW.alike hKc, hDc.weaken (fun _ _ _ _ => trivial), by rw [hU]; exact wdAll.moved hW.alike hall⟩, htxA.at (fun a_ h_ _ => hS.2.1 a_ h_ (fun z_ => absurd ((hAd a_).mp z_) (Nat.not_le.mpr h_))) hU hW⟩⟩ rfl rfl hl.1 rfl (lv_room (Nat.le_of_ble_eq_true rfl)) d_L_law_498 ⟨Nat.le_trans (m := 601024) (by omega) (Nat.le_of_ble_eq_true rfl), Nat.le_trans (m := 7293034) (by omega) (Nat.le_of_ble_eq_true rfl)⟩) hS (fun q _ h => hFc q h) hFc (fun q _ h => h.elim) (fun E9 ce9 q9 u9 t_ H1 locs _ _ hpx_ _ _ _ _ _ _ _ => hpx_.elim) (fun r_498 u_498 t_ H1 locs ht_ hvm_ hr_498 hB_ hz1_ hk1_ hS => ?_)
            have hzH : z0 ≤ H1.size := Nat.le_trans hzH hz1_
            obtain ⟨⟨n2, wa2, Wd2⟩, gg2⟩ := u_498
            obtain ⟨hP1_, hK1_, hD1_, hall1_⟩ := hB_
            rw [ht_] at hP1_ hall1_
            have hall : wdAll dC dI z0 H1 s n2 wa2 Wd2 := wdAll.moved hvm_.symm hall1_
            obtain ⟨hP, hD⟩ := va_join (wr := [(q_8, .inr (ciM, [.int (th), .int (nI (n)), .ref a1, .ref a2, .ref a3, .ref a4, .ref a5, .int (mo), .int (le)])), (a1, .inl (c1, 40, .inl xh)), (a2, .inl (c2, 40, .inl yr)), (a3, .inl (c3, 40, .inr (.inl xb))), (a4, .inl (c4, 40, .inr (.inl yb))), (a5, .inl (c5, 7400, .inl bs))]) (w1 := [(q_0, .inr (ciP, [.ref q, .int (nI (n2))])), (q, .inl (cW, 40, .inr (.inr (.inr (.inr wa2))))), (q_17, .inl (cA_17, 1, .inr (.inl gg2)))]) hP hD [0, 1, 8] [2, 3, 4, 5, 6, 7] rfl rfl (by decide) (by decide) hk1_ hFc hP1_ hD1_
            generalize H1 = H at hP hS hall hzH ⊢
            have hP : va_P (dC, dI) vwCl [(q_8, .inr (ciM, [.int (th), .int (nI (n)), .ref a1, .ref a2, .ref a3, .ref a4, .ref a5, .int (mo), .int (le)])), (a1, .inl (c1, 40, .inl xh)), (a2, .inl (c2, 40, .inl yr)), (a3, .inl (c3, 40, .inr (.inl xb))), (a4, .inl (c4, 40, .inr (.inl yb))), (a5, .inl (c5, 7400, .inl bs)), (q_0, .inr (ciP, [.ref q, .int (nI (n2))])), (q, .inl (cW, 40, .inr (.inr (.inr (.inr wa2))))), (q_17, .inl (cA_17, 1, .inr (.inl gg2)))] H := hP
            have hD : va_D A [(q_8, .inr (ciM, [.int (th), .int (nI (n)), .ref a1, .ref a2, .ref a3, .ref a4, .ref a5, .int (mo), .int (le)])), (a1, .inl (c1, 40, .inl xh)), (a2, .inl (c2, 40, .inl yr)), (a3, .inl (c3, 40, .inr (.inl xb))), (a4, .inl (c4, 40, .inr (.inl yb))), (a5, .inl (c5, 7400, .inl bs)), (q_0, .inr (ciP, [.ref q, .int (nI (n2))])), (q, .inl (cW, 40, .inr (.inr (.inr (.inr wa2))))), (q_17, .inl (cA_17, 1, .inr (.inl gg2)))] := hD
            refine lv_istore (lv' := [(5, .int (r_498)), (0, .ref b), (1, .ref q_0), (2, .ref q_8), (3, .ref q_17), (4, .int (nI (5 * k)))]) hx hb d_L_law_501 hl (by decide) rfl (fun ls hl => ?_)
            refine lv_aload_n hx hb d_L_law_503 rfl (lv_at hl 3 rfl) ?_
            refine lv_aload_n hx hb d_L_law_504 rfl (lv_at hl 1 rfl) ?_
            refine lv_iload hx hb d_L_law_505 (lv_at hl 5 rfl) ?_
            refine lv_iconst (v := nI 1) hx hb d_L_law_507 (by decide) ?_
            refine pq_iadd (a := (5 * k)) (b := 1) hx hb d_L_law_508 ?_
            refine va_sld hx hb hX hbl hbA hS (vp_in_nI (n := ((5 * k) + 1)) (by omega) (by omega)) d_L_law_509 ?_
            refine pq_top (y := .int (xs ((5 * k) + 1))) (by rw [pq_cl (by omega)]) ?_
            refine lv_aload_n hx hb d_L_law_510 rfl (lv_at hl 1 rfl) ?_
            refine lv_iload hx hb d_L_law_511 (lv_at hl 5 rfl) ?_
            refine lv_iconst (v := nI 2) hx hb d_L_law_513 (by decide) ?_
            refine pq_iadd (a := (5 * k)) (b := 2) hx hb d_L_law_514 ?_
            refine va_sld hx hb hX hbl hbA hS (vp_in_nI (n := ((5 * k) + 2)) (by omega) (by omega)) d_L_law_515 ?_
            refine pq_top (y := .int (xs ((5 * k) + 2))) (by rw [pq_cl (by omega)]) ?_
            refine lv_aload_n hx hb d_L_law_516 rfl (lv_at hl 1 rfl) ?_
            refine lv_iload hx hb d_L_law_517 (lv_at hl 5 rfl) ?_
            refine lv_iconst (v := nI 3) hx hb d_L_law_519 (by decide) ?_
            refine pq_iadd (a := (5 * k)) (b := 3) hx hb d_L_law_520 ?_
            refine va_sld hx hb hX hbl hbA hS (vp_in_nI (n := ((5 * k) + 3)) (by omega) (by omega)) d_L_law_521 ?_
            refine pq_top (y := .int (xs ((5 * k) + 3))) (by rw [pq_cl (by omega)]) ?_
            have hPc := hP.sub (ws' := [(q_8, .inr (ciM, [.int (th), .int (nI (n)), .ref a1, .ref a2, .ref a3, .ref a4, .ref a5, .int (mo), .int (le)])), (a1, .inl (c1, 40, .inl xh)), (a2, .inl (c2, 40, .inl yr)), (a3, .inl (c3, 40, .inr (.inl xb))), (a4, .inl (c4, 40, .inr (.inl yb))), (a5, .inl (c5, 7400, .inl bs))]) [0, 1, 2, 3, 4, 5] rfl
            have hDc := hD.sub (ws' := [(q_8, .inr (ciM, [.int (th), .int (nI (n)), .ref a1, .ref a2, .ref a3, .ref a4, .ref a5, .int (mo), .int (le)])), (a1, .inl (c1, 40, .inl xh)), (a2, .inl (c2, 40, .inl yr)), (a3, .inl (c3, 40, .inr (.inl xb))), (a4, .inl (c4, 40, .inr (.inl yb))), (a5, .inl (c5, 7400, .inl bs))]) [0, 1, 2, 3, 4, 5] (by decide) rfl
            have hKc := hK.sub (tys' := [(c1, .int), (c2, .int), (c3, .long), (c4, .long), (c5, .boolean)]) [1, 2, 3, 4, 5] rfl
            have hFc := va_free (wc := [(q_8, .inr (ciM, [.int (th), .int (nI (n)), .ref a1, .ref a2, .ref a3, .ref a4, .ref a5, .int (mo), .int (le)])), (a1, .inl (c1, 40, .inl xh)), (a2, .inl (c2, 40, .inl yr)), (a3, .inl (c3, 40, .inr (.inl xb))), (a4, .inl (c4, 40, .inr (.inl yb))), (a5, .inl (c5, 7400, .inl bs))]) hD hS hA [0, 1, 2, 3, 4, 5] rfl
            refine va_calli (va_runV (As := [.int (xs ((5 * k) + 1)), .int (xs ((5 * k) + 2)), .int (xs ((5 * k) + 3))]) (rest := []) ⟨hx, hb, hml, hown, hts⟩ (c_M_between l dC dI hn hm) (cwV 3 hts (gd_V mb_531 mb_532 mb_533 mb_23 mb_534) rfl rfl rfl (by decide +kernel) ⟨Nat.le_of_ble_eq_true rfl, Nat.le_of_ble_eq_true rfl⟩) ⟨md_blind, va_recv hK hP (ci := ciM) (q0 := 0) rfl rfl, fun U hU hW => ⟨rfl, by rw [hU], by rw [hU]; exact hPc, va_K.moved hW.alike hKc, hDc.weaken (fun _ _ _ _ => trivial)⟩⟩ rfl rfl hl.1 rfl (lv_room (Nat.le_of_ble_eq_true rfl)) d_L_law_522 ⟨Nat.le_trans (m := 601024) (by omega) (Nat.le_of_ble_eq_true rfl), Nat.le_trans (m := 7293034) (by omega) (Nat.le_of_ble_eq_true rfl)⟩) hS (fun q _ h => hFc q h) hFc (fun r_522 u_522 t_ H1 locs ht_ hvm_ hr_522 hB_ hz1_ hk1_ hS => ?_)
            obtain ⟨hP1_, hK1_, hD1_⟩ := hB_
            rw [ht_] at hP1_
            have hall := lm_keep hk1_ (md_out hmz h1z h2z h3z h4z h5z) hall
            have hzH : z0 ≤ H1.size := Nat.le_trans hzH hz1_
            have hj_ := j_between hn hm hr_498 hr_522
            obtain ⟨th2, m2, mo2, le2, xh2, yr2, xb2, yb2, bs2⟩ := u_522
            obtain ⟨⟨hjn_, hn2_, hm2_⟩, hjt_⟩ := hj_
            have hjt_ : jt r_498 gg2 r_522 th2 := hjt_
            have hjn_ : n2 = m2 := hjn_
            have hn : n2 ≤ 40 := hn2_
            have hm : mdAll xh2 yr2 xb2 yb2 n2 Wd2 := hm2_
            subst hjn_
            obtain ⟨hP, hD⟩ := va_join (wr := [(q_0, .inr (ciP, [.ref q, .int (nI (n2))])), (q, .inl (cW, 40, .inr (.inr (.inr (.inr wa2))))), (q_17, .inl (cA_17, 1, .inr (.inl gg2)))]) (w1 := [(q_8, .inr (ciM, [.int (th2), .int (nI (n2)), .ref a1, .ref a2, .ref a3, .ref a4, .ref a5, .int (mo2), .int (le2)])), (a1, .inl (c1, 40, .inl xh2)), (a2, .inl (c2, 40, .inl yr2)), (a3, .inl (c3, 40, .inr (.inl xb2))), (a4, .inl (c4, 40, .inr (.inl yb2))), (a5, .inl (c5, 7400, .inl bs2))]) hP hD [0, 1, 2, 3, 4, 5] [6, 7, 8] rfl rfl (by decide) (by decide) hk1_ hFc hP1_ hD1_
            generalize H1 = H at hP hS hall hzH ⊢
            have hP : va_P (dC, dI) vwCl [(q_0, .inr (ciP, [.ref q, .int (nI (n2))])), (q, .inl (cW, 40, .inr (.inr (.inr (.inr wa2))))), (q_17, .inl (cA_17, 1, .inr (.inl gg2))), (q_8, .inr (ciM, [.int (th2), .int (nI (n2)), .ref a1, .ref a2, .ref a3, .ref a4, .ref a5, .int (mo2), .int (le2)])), (a1, .inl (c1, 40, .inl xh2)), (a2, .inl (c2, 40, .inl yr2)), (a3, .inl (c3, 40, .inr (.inl xb2))), (a4, .inl (c4, 40, .inr (.inl yb2))), (a5, .inl (c5, 7400, .inl bs2))] H := hP
            have hD : va_D A [(q_0, .inr (ciP, [.ref q, .int (nI (n2))])), (q, .inl (cW, 40, .inr (.inr (.inr (.inr wa2))))), (q_17, .inl (cA_17, 1, .inr (.inl gg2))), (q_8, .inr (ciM, [.int (th2), .int (nI (n2)), .ref a1, .ref a2, .ref a3, .ref a4, .ref a5, .int (mo2), .int (le2)])), (a1, .inl (c1, 40, .inl xh2)), (a2, .inl (c2, 40, .inl yr2)), (a3, .inl (c3, 40, .inr (.inl xb2))), (a4, .inl (c4, 40, .inr (.inl yb2))), (a5, .inl (c5, 7400, .inl bs2))] := hD
            refine lv_istore (lv' := [(6, .int (r_522)), (5, .int (r_498)), (0, .ref b), (1, .ref q_0), (2, .ref q_8), (3, .ref q_17), (4, .int (nI (5 * k)))]) hx hb d_L_law_525 hl (by decide) rfl (fun ls hl => ?_)
            rcases hjt_ with ⟨ek_, eth_, eg_⟩ | ⟨ek_, eth_⟩
            · subst ek_
              subst eth_
              refine lv_aload_n hx hb d_L_law_527 rfl (lv_at hl 4 rfl) ?_
              have hPm := hP.sub (ws' := [(q_8, .inr (ciM, [.int (nI (0)), .int (nI (n2)), .ref a1, .ref a2, .ref a3, .ref a4, .ref a5, .int (mo2), .int (le2)])), (a1, .inl (c1, 40, .inl xh2)), (a2, .inl (c2, 40, .inl yr2)), (a3, .inl (c3, 40, .inr (.inl xb2))), (a4, .inl (c4, 40, .inr (.inl yb2))), (a5, .inl (c5, 7400, .inl bs2))]) [3, 4, 5, 6, 7, 8] rfl
              have hKm := hK.sub (tys' := [(c1, .int), (c2, .int), (c3, .long), (c4, .long), (c5, .boolean)]) [1, 2, 3, 4, 5] rfl
              refine vp_callSi (W.runV (As := []) (rest := []) ⟨hx, hb, hml, hown, hts⟩ (c_M_thrown l dC dI) (cwV 0 hts (gd_V mb_413 mb_414 mb_415 mb_23 mb_416) rfl rfl rfl (by decide +kernel) ⟨Nat.le_of_ble_eq_true rfl, Nat.le_of_ble_eq_true rfl⟩) (pw_R_V (va_recv hK hP (ci := ciM) (q0 := 3) rfl rfl) hPm hKm) rfl rfl hl.1 rfl (lv_room (Nat.le_of_ble_eq_true rfl)) d_L_law_528 ⟨Nat.le_trans (m := 601024) (by omega) (Nat.le_of_ble_eq_true rfl), Nat.le_trans (m := 7293034) (by omega) (Nat.le_of_ble_eq_true rfl)⟩) (fun r_528 hr_528 => ?_)
              subst hr_528
              refine lv_iload hx hb d_L_law_531 (lv_at hl 1 rfl) ?_
              refine pq_icmp_eq (tgt := 538) (a := 0) (b := 0) hx hb d_L_law_533 (by decide) (by omega) (by omega) (fun c_533 => ?_) (fun c_533 => absurd c_533 (by omega))
              refine lv_iload hx hb d_L_law_538 (lv_at hl 1 rfl) ?_
              refine pq_if_ne (tgt := 555) (a := 0) hx hb d_L_law_540 (by decide) (by omega) (fun c_540 => absurd c_540 (by omega)) (fun c_540 => ?_)
              refine lv_aload_n hx hb d_L_law_543 rfl (lv_at hl 5 rfl) ?_
              refine lv_iconst (v := nI 0) hx hb d_L_law_544 (by decide) ?_
              refine va_lald hx hb hK hP 2 6 rfl rfl (vp_in_nI (n := 0) (by omega) (by omega)) d_L_law_545 ?_
              refine pq_top (y := .long (gg2 0)) (by rw [pq_cl (by omega)]) ?_
              refine lv_iload hx hb d_L_law_546 (lv_at hl 0 rfl) ?_
              refine lv_i2l hx hb d_L_law_548 rfl ?_
              refine lv_topl (fun y_7 ey_7 => ?_)
              refine pq_top (y := .long (r_522.toInt64)) (by rw [ey_7]) ?_
              refine W.lcmp hx hb d_L_law_549 ?_
              refine lv_topi (fun x_8 ex_8 => ?_)
              refine pq_top (y := .int (nI (0))) (by rw [ex_8, show lg_cmp (gg2 0) r_522.toInt64 = nI 0 by rw [nI_0, lg_cmp_eq]; exact eg_]) ?_
              refine pq_if_eq (tgt := 555) (a := 0) hx hb d_L_law_550 (by decide) (by omega) (fun c_550 => ?_) (fun c_550 => absurd c_550 (by omega))
              refine lv_goto (tgt := 582) hx hb d_L_law_555 (by decide) ?_
              refine W.widen (k := 9 + 5 * (k + 1)) (n := 7612 + 260 * (k + 1)) (by omega) (by omega) ?_
              have hP := hP.sub [0, 1, 3, 4, 5, 6, 7, 8, 2] rfl
              have hD := hD.sub (ws' := [(q_0, .inr (ciP, [.ref q, .int (nI (n2))])), (q, .inl (cW, 40, .inr (.inr (.inr (.inr wa2))))), (q_8, .inr (ciM, [.int (nI (0)), .int (nI (n2)), .ref a1, .ref a2, .ref a3, .ref a4, .ref a5, .int (mo2), .int (le2)])), (a1, .inl (c1, 40, .inl xh2)), (a2, .inl (c2, 40, .inl yr2)), (a3, .inl (c3, 40, .inr (.inl xb2))), (a4, .inl (c4, 40, .inr (.inl yb2))), (a5, .inl (c5, 7400, .inl bs2)), (q_17, .inl (cA_17, 1, .inr (.inl gg2)))]) [0, 1, 3, 4, 5, 6, 7, 8, 2] (by decide) rfl
              exact B_582 (n2) (wa2) (Wd2) (nI 0) (mo2) (le2) (xh2) (yr2) (xb2) (yb2) (bs2) (gg2) _ _ ls hn hzH hall hm hP hD hS (lv_sub hl [2, 3, 4, 5, 6] rfl)
            · subst ek_
              subst eth_
              refine lv_aload_n hx hb d_L_law_527 rfl (lv_at hl 4 rfl) ?_
              have hPm := hP.sub (ws' := [(q_8, .inr (ciM, [.int (nI (1)), .int (nI (n2)), .ref a1, .ref a2, .ref a3, .ref a4, .ref a5, .int (mo2), .int (le2)])), (a1, .inl (c1, 40, .inl xh2)), (a2, .inl (c2, 40, .inl yr2)), (a3, .inl (c3, 40, .inr (.inl xb2))), (a4, .inl (c4, 40, .inr (.inl yb2))), (a5, .inl (c5, 7400, .inl bs2))]) [3, 4, 5, 6, 7, 8] rfl
              have hKm := hK.sub (tys' := [(c1, .int), (c2, .int), (c3, .long), (c4, .long), (c5, .boolean)]) [1, 2, 3, 4, 5] rfl
              refine vp_callSi (W.runV (As := []) (rest := []) ⟨hx, hb, hml, hown, hts⟩ (c_M_thrown l dC dI) (cwV 0 hts (gd_V mb_413 mb_414 mb_415 mb_23 mb_416) rfl rfl rfl (by decide +kernel) ⟨Nat.le_of_ble_eq_true rfl, Nat.le_of_ble_eq_true rfl⟩) (pw_R_V (va_recv hK hP (ci := ciM) (q0 := 3) rfl rfl) hPm hKm) rfl rfl hl.1 rfl (lv_room (Nat.le_of_ble_eq_true rfl)) d_L_law_528 ⟨Nat.le_trans (m := 601024) (by omega) (Nat.le_of_ble_eq_true rfl), Nat.le_trans (m := 7293034) (by omega) (Nat.le_of_ble_eq_true rfl)⟩) (fun r_528 hr_528 => ?_)
              subst hr_528
              refine lv_iload hx hb d_L_law_531 (lv_at hl 1 rfl) ?_
              refine pq_icmp_eq (tgt := 538) (a := 1) (b := 1) hx hb d_L_law_533 (by decide) (by omega) (by omega) (fun c_533 => ?_) (fun c_533 => absurd c_533 (by omega))
              refine lv_iload hx hb d_L_law_538 (lv_at hl 1 rfl) ?_
              refine pq_if_ne (tgt := 555) (a := 1) hx hb d_L_law_540 (by decide) (by omega) (fun c_540 => ?_) (fun c_540 => absurd c_540 (by omega))
              refine lv_goto (tgt := 582) hx hb d_L_law_555 (by decide) ?_
              refine W.widen (k := 9 + 5 * (k + 1)) (n := 7612 + 260 * (k + 1)) (by omega) (by omega) ?_
              have hP := hP.sub [0, 1, 3, 4, 5, 6, 7, 8, 2] rfl
              have hD := hD.sub (ws' := [(q_0, .inr (ciP, [.ref q, .int (nI (n2))])), (q, .inl (cW, 40, .inr (.inr (.inr (.inr wa2))))), (q_8, .inr (ciM, [.int (nI (1)), .int (nI (n2)), .ref a1, .ref a2, .ref a3, .ref a4, .ref a5, .int (mo2), .int (le2)])), (a1, .inl (c1, 40, .inl xh2)), (a2, .inl (c2, 40, .inl yr2)), (a3, .inl (c3, 40, .inr (.inl xb2))), (a4, .inl (c4, 40, .inr (.inl yb2))), (a5, .inl (c5, 7400, .inl bs2)), (q_17, .inl (cA_17, 1, .inr (.inl gg2)))]) [0, 1, 3, 4, 5, 6, 7, 8, 2] (by decide) rfl
              exact B_582 (n2) (wa2) (Wd2) (nI 1) (mo2) (le2) (xh2) (yr2) (xb2) (yb2) (bs2) (gg2) _ _ ls hn hzH hall hm hP hD hS (lv_sub hl [2, 3, 4, 5, 6] rfl)
          · refine lv_tableIn (tgt := 558) hx hb d_L_law_39 (by decide) (by decide) rfl (by decide) ?_
            refine lv_aload_n hx hb d_L_law_558 rfl (lv_at hl 1 rfl) ?_
            have hPc := hP.sub (ws' := [(q_0, .inr (ciP, [.ref q, .int (nI (n))])), (q, .inl (cW, 40, .inr (.inr (.inr (.inr wa)))))]) [0, 1] rfl
            have hDc := hD.sub (ws' := [(q_0, .inr (ciP, [.ref q, .int (nI (n))])), (q, .inl (cW, 40, .inr (.inr (.inr (.inr wa)))))]) [0, 1] (by decide) rfl
            have hKc := hK.sub (tys' := [(cW, .object "PeriodWords$Word")]) [0] rfl
            have hFc := va_free (wc := [(q_0, .inr (ciP, [.ref q, .int (nI (n))])), (q, .inl (cW, 40, .inr (.inr (.inr (.inr wa)))))]) hD hS hA [0, 1] rfl
            refine va_callv (va_runV (As := []) (rest := []) ⟨hx, hb, hml, hown, hts⟩ (c_P_clear l dC dI hn) (cwV 0 hts (gd_V mb_236 mb_237 mb_238 mb_22 mb_239) rfl rfl rfl (by decide +kernel) ⟨(Nat.le_of_ble_eq_true rfl), (Nat.le_of_ble_eq_true rfl)⟩) ⟨md_blind, va_recv hK hP (ci := ciP) (q0 := 0) rfl rfl, fun U hU hW => ⟨rfl, by rw [hU], by rw [hU]; exact hPc, va_K.moved hW.alike hKc, hDc.weaken (fun _ _ _ _ => trivial)⟩⟩ rfl rfl hl.1 rfl (lv_room (Nat.le_of_ble_eq_true rfl)) d_L_law_559 ⟨Nat.le_trans (m := 601024) (by omega) (Nat.le_of_ble_eq_true rfl), Nat.le_trans (m := 7293034) (by omega) (Nat.le_of_ble_eq_true rfl)⟩) hS (fun q _ h => hFc q h) hFc (fun u_559 t_ H1 locs ht_ hvm_ hr_559 hB_ hz1_ hk1_ hS => ?_)
            have hzH : z0 ≤ H1.size := Nat.le_trans hzH hz1_
            obtain ⟨n2, wa2⟩ := u_559
            obtain ⟨hP1_, hK1_, hD1_⟩ := hB_
            rw [ht_] at hP1_
            have hr_559 : n2 = 0 := hr_559
            subst hr_559
            have hall : wdAll dC dI z0 H1 s 0 wa2 Wd := fun i hi => absurd hi (Nat.not_lt_zero i)
            obtain ⟨hP, hD⟩ := va_join (wr := [(q_8, .inr (ciM, [.int (th), .int (nI (n)), .ref a1, .ref a2, .ref a3, .ref a4, .ref a5, .int (mo), .int (le)])), (a1, .inl (c1, 40, .inl xh)), (a2, .inl (c2, 40, .inl yr)), (a3, .inl (c3, 40, .inr (.inl xb))), (a4, .inl (c4, 40, .inr (.inl yb))), (a5, .inl (c5, 7400, .inl bs)), (q_17, .inl (cA_17, 1, .inr (.inl gg)))]) (w1 := [(q_0, .inr (ciP, [.ref q, .int (nI (0))])), (q, .inl (cW, 40, .inr (.inr (.inr (.inr wa2)))))]) hP hD [0, 1] [2, 3, 4, 5, 6, 7, 8] rfl rfl (by decide) (by decide) hk1_ hFc hP1_ hD1_
            generalize H1 = H at hP hS hall hzH ⊢
            have hP : va_P (dC, dI) vwCl [(q_8, .inr (ciM, [.int (th), .int (nI (n)), .ref a1, .ref a2, .ref a3, .ref a4, .ref a5, .int (mo), .int (le)])), (a1, .inl (c1, 40, .inl xh)), (a2, .inl (c2, 40, .inl yr)), (a3, .inl (c3, 40, .inr (.inl xb))), (a4, .inl (c4, 40, .inr (.inl yb))), (a5, .inl (c5, 7400, .inl bs)), (q_17, .inl (cA_17, 1, .inr (.inl gg))), (q_0, .inr (ciP, [.ref q, .int (nI (0))])), (q, .inl (cW, 40, .inr (.inr (.inr (.inr wa2)))))] H := hP
            have hD : va_D A [(q_8, .inr (ciM, [.int (th), .int (nI (n)), .ref a1, .ref a2, .ref a3, .ref a4, .ref a5, .int (mo), .int (le)])), (a1, .inl (c1, 40, .inl xh)), (a2, .inl (c2, 40, .inl yr)), (a3, .inl (c3, 40, .inr (.inl xb))), (a4, .inl (c4, 40, .inr (.inl yb))), (a5, .inl (c5, 7400, .inl bs)), (q_17, .inl (cA_17, 1, .inr (.inl gg))), (q_0, .inr (ciP, [.ref q, .int (nI (0))])), (q, .inl (cW, 40, .inr (.inr (.inr (.inr wa2)))))] := hD
            refine lv_aload_n hx hb d_L_law_562 rfl (lv_at hl 2 rfl) ?_
            have hPc := hP.sub (ws' := [(q_8, .inr (ciM, [.int (th), .int (nI (n)), .ref a1, .ref a2, .ref a3, .ref a4, .ref a5, .int (mo), .int (le)])), (a1, .inl (c1, 40, .inl xh)), (a2, .inl (c2, 40, .inl yr)), (a3, .inl (c3, 40, .inr (.inl xb))), (a4, .inl (c4, 40, .inr (.inl yb))), (a5, .inl (c5, 7400, .inl bs))]) [0, 1, 2, 3, 4, 5] rfl
            have hDc := hD.sub (ws' := [(q_8, .inr (ciM, [.int (th), .int (nI (n)), .ref a1, .ref a2, .ref a3, .ref a4, .ref a5, .int (mo), .int (le)])), (a1, .inl (c1, 40, .inl xh)), (a2, .inl (c2, 40, .inl yr)), (a3, .inl (c3, 40, .inr (.inl xb))), (a4, .inl (c4, 40, .inr (.inl yb))), (a5, .inl (c5, 7400, .inl bs))]) [0, 1, 2, 3, 4, 5] (by decide) rfl
            have hKc := hK.sub (tys' := [(c1, .int), (c2, .int), (c3, .long), (c4, .long), (c5, .boolean)]) [1, 2, 3, 4, 5] rfl
            have hFc := va_free (wc := [(q_8, .inr (ciM, [.int (th), .int (nI (n)), .ref a1, .ref a2, .ref a3, .ref a4, .ref a5, .int (mo), .int (le)])), (a1, .inl (c1, 40, .inl xh)), (a2, .inl (c2, 40, .inl yr)), (a3, .inl (c3, 40, .inr (.inl xb))), (a4, .inl (c4, 40, .inr (.inl yb))), (a5, .inl (c5, 7400, .inl bs))]) hD hS hA [0, 1, 2, 3, 4, 5] rfl
            refine va_callv (va_runV (As := []) (rest := []) ⟨hx, hb, hml, hown, hts⟩ (c_M_clear l dC dI) (cwV 0 hts (gd_V mb_539 mb_540 mb_541 mb_23 mb_542) rfl rfl rfl (by decide +kernel) ⟨Nat.le_of_ble_eq_true rfl, Nat.le_of_ble_eq_true rfl⟩) ⟨md_blind, va_recv hK hP (ci := ciM) (q0 := 0) rfl rfl, fun U hU hW => ⟨rfl, by rw [hU], by rw [hU]; exact hPc, va_K.moved hW.alike hKc, hDc.weaken (fun _ _ _ _ => trivial)⟩⟩ rfl rfl hl.1 rfl (lv_room (Nat.le_of_ble_eq_true rfl)) d_L_law_563 ⟨Nat.le_trans (m := 601024) (by omega) (Nat.le_of_ble_eq_true rfl), Nat.le_trans (m := 7293034) (by omega) (Nat.le_of_ble_eq_true rfl)⟩) hS (fun q _ h => hFc q h) hFc (fun u_563 t_ H1 locs ht_ hvm_ hr_563 hB_ hz1_ hk1_ hS => ?_)
            obtain ⟨hP1_, hK1_, hD1_⟩ := hB_
            rw [ht_] at hP1_
            have hall := lm_keep hk1_ (md_out hmz h1z h2z h3z h4z h5z) hall
            have hzH : z0 ≤ H1.size := Nat.le_trans hzH hz1_
            subst hr_563
            have hn : 0 ≤ 40 := by decide
            have hm : mdAll xh yr xb yb 0 Wd := fun i hi => absurd hi (Nat.not_lt_zero i)
            obtain ⟨hP, hD⟩ := va_join (wr := [(q_17, .inl (cA_17, 1, .inr (.inl gg))), (q_0, .inr (ciP, [.ref q, .int (nI (0))])), (q, .inl (cW, 40, .inr (.inr (.inr (.inr wa2)))))]) (w1 := [(q_8, .inr (ciM, [.int (nI (0)), .int (nI (0)), .ref a1, .ref a2, .ref a3, .ref a4, .ref a5, .int (mo), .int (le)])), (a1, .inl (c1, 40, .inl xh)), (a2, .inl (c2, 40, .inl yr)), (a3, .inl (c3, 40, .inr (.inl xb))), (a4, .inl (c4, 40, .inr (.inl yb))), (a5, .inl (c5, 7400, .inl bs))]) hP hD [0, 1, 2, 3, 4, 5] [6, 7, 8] rfl rfl (by decide) (by decide) hk1_ hFc hP1_ hD1_
            generalize H1 = H at hP hS hall hzH ⊢
            have hP : va_P (dC, dI) vwCl [(q_17, .inl (cA_17, 1, .inr (.inl gg))), (q_0, .inr (ciP, [.ref q, .int (nI (0))])), (q, .inl (cW, 40, .inr (.inr (.inr (.inr wa2))))), (q_8, .inr (ciM, [.int (nI (0)), .int (nI (0)), .ref a1, .ref a2, .ref a3, .ref a4, .ref a5, .int (mo), .int (le)])), (a1, .inl (c1, 40, .inl xh)), (a2, .inl (c2, 40, .inl yr)), (a3, .inl (c3, 40, .inr (.inl xb))), (a4, .inl (c4, 40, .inr (.inl yb))), (a5, .inl (c5, 7400, .inl bs))] H := hP
            have hD : va_D A [(q_17, .inl (cA_17, 1, .inr (.inl gg))), (q_0, .inr (ciP, [.ref q, .int (nI (0))])), (q, .inl (cW, 40, .inr (.inr (.inr (.inr wa2))))), (q_8, .inr (ciM, [.int (nI (0)), .int (nI (0)), .ref a1, .ref a2, .ref a3, .ref a4, .ref a5, .int (mo), .int (le)])), (a1, .inl (c1, 40, .inl xh)), (a2, .inl (c2, 40, .inl yr)), (a3, .inl (c3, 40, .inr (.inl xb))), (a4, .inl (c4, 40, .inr (.inl yb))), (a5, .inl (c5, 7400, .inl bs))] := hD
            refine lv_goto (tgt := 582) hx hb d_L_law_566 (by decide) ?_
            refine W.widen (k := 9 + 5 * (k + 1)) (n := 7612 + 260 * (k + 1)) (by omega) (by omega) ?_
            have hP := hP.sub [1, 2, 3, 4, 5, 6, 7, 8, 0] rfl
            have hD := hD.sub (ws' := [(q_0, .inr (ciP, [.ref q, .int (nI (0))])), (q, .inl (cW, 40, .inr (.inr (.inr (.inr wa2))))), (q_8, .inr (ciM, [.int (nI (0)), .int (nI (0)), .ref a1, .ref a2, .ref a3, .ref a4, .ref a5, .int (mo), .int (le)])), (a1, .inl (c1, 40, .inl xh)), (a2, .inl (c2, 40, .inl yr)), (a3, .inl (c3, 40, .inr (.inl xb))), (a4, .inl (c4, 40, .inr (.inl yb))), (a5, .inl (c5, 7400, .inl bs)), (q_17, .inl (cA_17, 1, .inr (.inl gg)))]) [1, 2, 3, 4, 5, 6, 7, 8, 0] (by decide) rfl
            exact B_582 (0) (wa2) (Wd) (nI 0) (mo) (le) (xh) (yr) (xb) (yb) (bs) (gg) _ _ ls hn hzH hall hm hP hD hS (lv_sub hl [0, 1, 2, 3, 4] rfl)
          · refine lv_tableIn (tgt := 569) hx hb d_L_law_39 (by decide) (by decide) rfl (by decide) ?_
            refine lv_aload_n hx hb d_L_law_569 rfl (lv_at hl 1 rfl) ?_
            have hPc := hP.sub (ws' := [(q_0, .inr (ciP, [.ref q, .int (nI (n))])), (q, .inl (cW, 40, .inr (.inr (.inr (.inr wa)))))]) [0, 1] rfl
            have hKc := hK.sub (tys' := [(cW, .object "PeriodWords$Word")]) [0] rfl
            refine vp_callSi (W.runV (As := []) (rest := []) ⟨hx, hb, hml, hown, hts⟩ (c_P_total l dC dI (z0 := z0) (o := q_0) (q := q) (n := n) (cW := cW) (wa := wa) (Wd := Wd) hn) (cwV 0 hts (gd_V mb_240 mb_241 mb_242 mb_22 mb_243) rfl rfl rfl (by decide +kernel) ⟨(Nat.le_of_ble_eq_true rfl), (Nat.le_of_ble_eq_true rfl)⟩) ⟨pw_X_blind, va_recv hK hP (ci := ciP) (q0 := 0) rfl rfl, fun U hU hW => ⟨rfl, by rw [hU]; exact hPc, va_K.moved hW.alike hKc, by rw [hU]; exact wdAll.moved hW.alike hall⟩⟩ rfl rfl hl.1 rfl (lv_room (Nat.le_of_ble_eq_true rfl)) d_L_law_570 ⟨Nat.le_trans (m := 601024) (by omega) (Nat.le_of_ble_eq_true rfl), Nat.le_trans (m := 7293034) (by omega) (Nat.le_of_ble_eq_true rfl)⟩) (fun r_570 hr_570 => ?_)
            refine lv_aload_n hx hb d_L_law_573 rfl (lv_at hl 2 rfl) ?_
            have hPc := hP.sub (ws' := [(q_8, .inr (ciM, [.int (th), .int (nI (n)), .ref a1, .ref a2, .ref a3, .ref a4, .ref a5, .int (mo), .int (le)])), (a1, .inl (c1, 40, .inl xh)), (a2, .inl (c2, 40, .inl yr)), (a3, .inl (c3, 40, .inr (.inl xb))), (a4, .inl (c4, 40, .inr (.inl yb))), (a5, .inl (c5, 7400, .inl bs))]) [2, 3, 4, 5, 6, 7] rfl
            have hDc := hD.sub (ws' := [(q_8, .inr (ciM, [.int (th), .int (nI (n)), .ref a1, .ref a2, .ref a3, .ref a4, .ref a5, .int (mo), .int (le)])), (a1, .inl (c1, 40, .inl xh)), (a2, .inl (c2, 40, .inl yr)), (a3, .inl (c3, 40, .inr (.inl xb))), (a4, .inl (c4, 40, .inr (.inl yb))), (a5, .inl (c5, 7400, .inl bs))]) [2, 3, 4, 5, 6, 7] (by decide) rfl
            have hKc := hK.sub (tys' := [(c1, .int), (c2, .int), (c3, .long), (c4, .long), (c5, .boolean)]) [1, 2, 3, 4, 5] rfl
            have hFc := va_free (wc := [(q_8, .inr (ciM, [.int (th), .int (nI (n)), .ref a1, .ref a2, .ref a3, .ref a4, .ref a5, .int (mo), .int (le)])), (a1, .inl (c1, 40, .inl xh)), (a2, .inl (c2, 40, .inl yr)), (a3, .inl (c3, 40, .inr (.inl xb))), (a4, .inl (c4, 40, .inr (.inl yb))), (a5, .inl (c5, 7400, .inl bs))]) hD hS hA [2, 3, 4, 5, 6, 7] rfl
            refine va_calli (va_runV (As := []) (rest := [.int (r_570)]) ⟨hx, hb, hml, hown, hts⟩ (c_M_total l dC dI) (cwV 0 hts (gd_V mb_543 mb_544 mb_545 mb_23 mb_546) rfl rfl rfl (by decide +kernel) ⟨Nat.le_of_ble_eq_true rfl, Nat.le_of_ble_eq_true rfl⟩) ⟨md_blind, va_recv hK hP (ci := ciM) (q0 := 2) rfl rfl, fun U hU hW => ⟨rfl, by rw [hU], by rw [hU]; exact hPc, va_K.moved hW.alike hKc, hDc.weaken (fun _ _ _ _ => trivial)⟩⟩ rfl rfl hl.1 rfl (lv_room (Nat.le_of_ble_eq_true rfl)) d_L_law_574 ⟨Nat.le_trans (m := 601024) (by omega) (Nat.le_of_ble_eq_true rfl), Nat.le_trans (m := 7293034) (by omega) (Nat.le_of_ble_eq_true rfl)⟩) hS (fun q _ h => hFc q h) hFc (fun r_574 u_574 t_ H1 locs ht_ hvm_ hr_574 hB_ hz1_ hk1_ hS => ?_)
            obtain ⟨hP1_, hK1_, hD1_⟩ := hB_
            rw [ht_] at hP1_
            have hall := lm_keep hk1_ (md_out hmz h1z h2z h3z h4z h5z) hall
            have hzH : z0 ≤ H1.size := Nat.le_trans hzH hz1_
            obtain ⟨hres_, hu_⟩ := hr_574
            subst hu_
            obtain ⟨hP, hD⟩ := va_join (wr := [(q_0, .inr (ciP, [.ref q, .int (nI (n))])), (q, .inl (cW, 40, .inr (.inr (.inr (.inr wa))))), (q_17, .inl (cA_17, 1, .inr (.inl gg)))]) (w1 := [(q_8, .inr (ciM, [.int (nI (0)), .int (nI (n)), .ref a1, .ref a2, .ref a3, .ref a4, .ref a5, .int (mo), .int (le)])), (a1, .inl (c1, 40, .inl xh)), (a2, .inl (c2, 40, .inl yr)), (a3, .inl (c3, 40, .inr (.inl xb))), (a4, .inl (c4, 40, .inr (.inl yb))), (a5, .inl (c5, 7400, .inl bs))]) hP hD [2, 3, 4, 5, 6, 7] [0, 1, 8] rfl rfl (by decide) (by decide) hk1_ hFc hP1_ hD1_
            generalize H1 = H at hP hS hall hzH ⊢
            have hP : va_P (dC, dI) vwCl [(q_0, .inr (ciP, [.ref q, .int (nI (n))])), (q, .inl (cW, 40, .inr (.inr (.inr (.inr wa))))), (q_17, .inl (cA_17, 1, .inr (.inl gg))), (q_8, .inr (ciM, [.int (nI (0)), .int (nI (n)), .ref a1, .ref a2, .ref a3, .ref a4, .ref a5, .int (mo), .int (le)])), (a1, .inl (c1, 40, .inl xh)), (a2, .inl (c2, 40, .inl yr)), (a3, .inl (c3, 40, .inr (.inl xb))), (a4, .inl (c4, 40, .inr (.inl yb))), (a5, .inl (c5, 7400, .inl bs))] H := hP
            have hD : va_D A [(q_0, .inr (ciP, [.ref q, .int (nI (n))])), (q, .inl (cW, 40, .inr (.inr (.inr (.inr wa))))), (q_17, .inl (cA_17, 1, .inr (.inl gg))), (q_8, .inr (ciM, [.int (nI (0)), .int (nI (n)), .ref a1, .ref a2, .ref a3, .ref a4, .ref a5, .int (mo), .int (le)])), (a1, .inl (c1, 40, .inl xh)), (a2, .inl (c2, 40, .inl yr)), (a3, .inl (c3, 40, .inr (.inl xb))), (a4, .inl (c4, 40, .inr (.inl yb))), (a5, .inl (c5, 7400, .inl bs))] := hD
            refine lv_icmp_eq (tgt := 582) hx hb d_L_law_577 (by decide) (fun c_577 => ?_) (fun c_577 => absurd c_577 (fun z_ => z_ (pq_eqs hr_570 hres_)))
            refine W.widen (k := 9 + 5 * (k + 1)) (n := 7612 + 260 * (k + 1)) (by omega) (by omega) ?_
            have hP := hP.sub [0, 1, 3, 4, 5, 6, 7, 8, 2] rfl
            have hD := hD.sub (ws' := [(q_0, .inr (ciP, [.ref q, .int (nI (n))])), (q, .inl (cW, 40, .inr (.inr (.inr (.inr wa))))), (q_8, .inr (ciM, [.int (nI (0)), .int (nI (n)), .ref a1, .ref a2, .ref a3, .ref a4, .ref a5, .int (mo), .int (le)])), (a1, .inl (c1, 40, .inl xh)), (a2, .inl (c2, 40, .inl yr)), (a3, .inl (c3, 40, .inr (.inl xb))), (a4, .inl (c4, 40, .inr (.inl yb))), (a5, .inl (c5, 7400, .inl bs)), (q_17, .inl (cA_17, 1, .inr (.inl gg)))]) [0, 1, 3, 4, 5, 6, 7, 8, 2] (by decide) rfl
            exact B_582 (n) (wa) (Wd) (nI 0) (mo) (le) (xh) (yr) (xb) (yb) (bs) (gg) _ _ ls hn hzH hall hm hP hD hS (lv_sub hl [0, 1, 2, 3, 4] rfl)
        · refine lv_tableOut (tgt := 582) hx hb d_L_law_39 hout_ (by decide) ?_
          refine W.widen (k := 9 + 5 * (k + 1)) (n := 7612 + 260 * (k + 1)) (by omega) (by omega) ?_
          exact B_582 (n) (wa) (Wd) (th) (mo) (le) (xh) (yr) (xb) (yb) (bs) (gg) _ _ ls hn hzH hall hm hP hD hS (lv_sub hl [0, 1, 2, 3, 4] rfl)
  exact B_23 _ (0) (0) (fun _ => none) (fun _ => (0, 0, fun _ => false)) (0) (0) (0) (fun _ => 0) (fun _ => 0) (fun _ => 0) (fun _ => 0) (fun _ => 0) ((fun _ => 0)) _ _ ls (Nat.lt_succ_self _) (by omega) hn hzH hall hm hP hD hS (lv_sub hl [4, 3, 2, 1, 0] rfl)
