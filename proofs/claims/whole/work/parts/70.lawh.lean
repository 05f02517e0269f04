set_option maxHeartbeats 1000000 in
set_option maxRecDepth 100000 in
theorem c_L_make (l : Launch) (hst : l.stackTraces = false) (dC : Nat → ClassId) (dI : Nat → Nat → Nat) {sz : Nat} {z0 o q n : Nat} {cW : ClassId} {wa : Nat → Option Nat} {Wd : Nat → pw_V} {ow : Nat} {cL : ClassId} {gg : Nat → Int64} (hn : n ≤ 40) (hoz : o < z0) (hqz : q < z0) (hwz : ow < z0) (hzs : z0 ≤ sz) {zz : Nat} (hzo : zz ≤ o) (hzq : zz ≤ q) (hzz : zz ≤ sz) {x y z : Int32} : vx_Met l y_L_make ws_L_make ({ frames := 7, cells := 3, slots := 133, locals := 139 } : Room) (tx_Pre (lm_Pre [.ref o, .int (x), .int (y), .int (z), .ref ow] dC dI z0 sz o q n cW wa Wd ow cL gg) zz "java/lang/IllegalArgumentException" [(47, "b has 1s with an end")]) (va_Qi (fun k u => (k = nI 0 ∧ ∃ r, mk_post n Wd x y z r u.1 ∧ u.2 0 = r.toInt64) ∨ (k = nI 1 ∧ mk_px n Wd x y z ∧ u.1 = (n, wa, Wd))) (lm_B dC dI (va_A (pwc o q n cW wa ++ ot ow cL gg) sz) z0 o q cW ow cL) (va_A (pwc o q n cW wa ++ ot ow cL gg) sz)) (vx_X (fun _ : Unit => False) (fun _ _ _ => True) (fun _ => False)) 3 133 (va_A (pwc o q n cW wa ++ ot ow cL gg) sz) := by
  refine vx_ofWH (cc := b_L_make) (maxL := 6) (ret := (some .int)) (hh := [(0, 12, 15, 13)]) (by decide) rfl ?_
  intro p e s m args below meth c s₁ B hml hv
  obtain ⟨⟨rfl, hsz, hP, hK, hD0, hall⟩, htx⟩ := hv
  have hx := B.exec
  have hb := B.bytes
  have hr := B.returns
  have hts := atoms_spec (ws := ws_L_make) B.pre
  have hown : s.vm.findClass R_L = some m.cls := findClass_of_methodNamed B.named
  have htab := vx_table (x := y_L_make) B (hts _ List.mem_cons_self)
  have hlocks := B.notSynchronized
  subst hsz
  have hD := hD0.self (sz := s.heap.size)
  generalize hAe : va_A (pwc o q n cW wa ++ ot ow cL gg) s.heap.size = A at hD ⊢
  have hA : ∀ q : Nat, s.heap.size ≤ q → A q := fun q h => by rw [← hAe]; exact Or.inr h
  have hS : va_S A s.heap s.heap [] := va_S.rf
  have hl := lv_entry ([.ref o, .int (x), .int (y), .int (z), .ref ow]) (n := 6) (Nat.le_of_ble_eq_true rfl)
  rw [lg_entry_eq]
  generalize (lg_sl ([.ref o, .int (x), .int (y), .int (z), .ref ow]) ++ List.replicate (6 - (lg_sl ([.ref o, .int (x), .int (y), .int (z), .ref ow])).length) Slot.unset).toArray = ls at hl ⊢
  have hl : lv_has ls 6 [(0, .ref o), (1, .int (x)), (2, .int (y)), (3, .int (z)), (4, .ref ow)] := hl
  refine lv_aload hx hb d_L_make_0 (lv_at hl 4 rfl) ?_
  refine lv_iconst (v := nI 0) hx hb d_L_make_2 (by decide) ?_
  refine lv_aload_n hx hb d_L_make_3 rfl (lv_at hl 0 rfl) ?_
  refine lv_iload_n hx hb d_L_make_4 rfl (lv_at hl 1 rfl) ?_
  refine lv_iload_n hx hb d_L_make_5 rfl (lv_at hl 2 rfl) ?_
  refine lv_iload_n hx hb d_L_make_6 rfl (lv_at hl 3 rfl) ?_
  have hPc := hP.sub (ws' := [(o, .inr (ciP, [.ref q, .int (nI (n))])), (q, .inl (cW, 40, .inr (.inr (.inr (.inr wa)))))]) [0, 1] rfl
  have hDc := hD.sub (ws' := [(o, .inr (ciP, [.ref q, .int (nI (n))])), (q, .inl (cW, 40, .inr (.inr (.inr (.inr wa)))))]) [0, 1] (by decide) rfl
  have hKc := hK.sub (tys' := [(cW, .object "PeriodWords$Word")]) [0] rfl
  have hFc := va_free (wc := [(o, .inr (ciP, [.ref q, .int (nI (n))])), (q, .inl (cW, 40, .inr (.inr (.inr (.inr wa)))))]) hD hS hA [0, 1] rfl
  refine vx_calli (vx_runV (As := [.int (x), .int (y), .int (z)]) (rest := [.int (nI (0)), .ref ow]) ⟨hx, hb, hml, hown, hts⟩ (c_P_make l hst dC dI hn hoz hqz hzs hzo hzq hzz) (cwV 3 hts (gd_V mb_248 mb_249 mb_250 mb_22 mb_251) rfl rfl rfl (by decide +kernel) ⟨Nat.le_of_ble_eq_true rfl, Nat.le_of_ble_eq_true rfl⟩) ⟨tx_blind cs_blind, va_recv hK hP (ci := ciP) (q0 := 0) rfl rfl, fun U hU hW => ⟨⟨rfl, by rw [hU], by rw [hU]; exact hPc, va_K.moved hW.alike hKc, hDc.weaken (fun _ _ _ _ => trivial), by rw [hU]; exact wdAll.moved hW.alike hall⟩, htx.at (fun _ _ _ => rfl) hU hW⟩⟩ rfl rfl hl.1 rfl (lv_room (Nat.le_of_ble_eq_true rfl)) d_L_make_7 ⟨Nat.le_of_ble_eq_true rfl, Nat.le_of_ble_eq_true rfl⟩) hS (fun q _ h => hFc q h) hFc (fun q _ h => hFc q h) (fun E9 ce9 q9 u9 t_ H1 locs ht_ hvm_ hpx_ hBX_ hz1_ hk1_ hS hce_ hcv_ hcl_ => ?_) (fun r_9 u_9 t_ H1 locs ht_ hvm_ hr_9 hB_ hz1_ hk1_ hS => ?_)
  · obtain ⟨hE9_, hP1_, hK1_, hD1_, hall1_⟩ := hBX_
    subst hE9_
    rw [ht_] at hP1_ hall1_
    have hallF := wdAll.moved hvm_.symm hall1_
    obtain ⟨hP, hD⟩ := va_join (wr := [(ow, .inl (cL, 1, .inr (.inl gg)))]) (w1 := [(o, .inr (ciP, [.ref q, .int (nI (n))])), (q, .inl (cW, 40, .inr (.inr (.inr (.inr wa)))))]) hP hD [0, 1] [2] rfl rfl (by decide) (by decide) hk1_ hFc hP1_ hD1_
    generalize H1 = H at hP hS hallF hce_ ⊢
    have hP : va_P (dC, dI) vwCl [(ow, .inl (cL, 1, .inr (.inl gg))), (o, .inr (ciP, [.ref q, .int (nI (n))])), (q, .inl (cW, 40, .inr (.inr (.inr (.inr wa)))))] H := hP
    have hD : va_D A [(ow, .inl (cL, 1, .inr (.inl gg))), (o, .inr (ciP, [.ref q, .int (nI (n))])), (q, .inl (cW, 40, .inr (.inr (.inr (.inr wa)))))] := hD
    refine vx_catch hown [] ⟨0, 12, 15, 13⟩ [] (by rw [htab]; rfl) (fun z_ hz_ => absurd hz_ List.not_mem_nil) (by decide) (by decide) (hts (.classLink R_L 13 "java/lang/IllegalArgumentException") (List.mem_cons_of_mem _ mb_247)) (va_Nw.use rfl htx.1.1) hce_ hcv_ hcl_ ?_
    refine lv_astore (lv' := [(5, .ref q9), (0, .ref o), (1, .int (x)), (2, .int (y)), (3, .int (z)), (4, .ref ow)]) hx hb d_L_make_15 hl (by decide) rfl (fun ls hl => ?_)
    refine lv_iconst (v := nI 1) hx hb d_L_make_17 (by decide) ?_
    refine vx_ret ?_
    refine W.widen (k := 3) (n := 133) (by omega) (by omega) ?_
    exact W.iret (v := (nI (1))) hx hb hr (fun t_ ht_ hW_ => ⟨⟨_, ((n, wa, Wd), gg), rfl, Or.inr ⟨rfl, hpx_, rfl⟩, by rw [ht_]; exact hP.sub [1, 2, 0] rfl, va_K.moved hW_.alike hK, hD.sub [1, 2, 0] (by decide) rfl, by rw [ht_]; exact wdAll.moved hW_.alike hallF⟩, hS.F ht_⟩) hS.2.2 d_L_make_18
  · obtain ⟨hP1_, hK1_, hD1_, hall1_⟩ := hB_
    rw [ht_] at hP1_ hall1_
    have hallF := wdAll.moved hvm_.symm hall1_
    obtain ⟨hP, hD⟩ := va_join (wr := [(ow, .inl (cL, 1, .inr (.inl gg)))]) (w1 := [(o, .inr (ciP, [.ref q, .int (nI (u_9.1))])), (q, .inl (cW, 40, .inr (.inr (.inr (.inr u_9.2.1)))))]) hP hD [0, 1] [2] rfl rfl (by decide) (by decide) hk1_ hFc hP1_ hD1_
    generalize H1 = H at hP hS hallF ⊢
    have hP : va_P (dC, dI) vwCl [(ow, .inl (cL, 1, .inr (.inl gg))), (o, .inr (ciP, [.ref q, .int (nI (u_9.1))])), (q, .inl (cW, 40, .inr (.inr (.inr (.inr u_9.2.1)))))] H := hP
    have hD : va_D A [(ow, .inl (cL, 1, .inr (.inl gg))), (o, .inr (ciP, [.ref q, .int (nI (u_9.1))])), (q, .inl (cW, 40, .inr (.inr (.inr (.inr u_9.2.1)))))] := hD
    refine lv_i2l hx hb d_L_make_10 rfl ?_
    refine lv_topl (fun y_1 ey_1 => ?_)
    refine lx_last hx hb hK hP hD hS 0 1 rfl rfl (vp_in_nI (n := 0) (by omega) (by omega)) d_L_make_11 (fun H locs hoq_ hP hD hS => ?_)
    rw [pq_cl (by omega)] at hP hD
    have hallF := wdAll.kept (fun q_ h1_ _ => hoq_ q_ (by omega)) hallF
    have hP : va_P (dC, dI) vwCl [(ow, .inl (cL, 1, .inr (.inl (vp_updL gg 0 y_1)))), (o, .inr (ciP, [.ref q, .int (nI (u_9.1))])), (q, .inl (cW, 40, .inr (.inr (.inr (.inr u_9.2.1)))))] H := hP
    have hD : va_D A [(ow, .inl (cL, 1, .inr (.inl (vp_updL gg 0 y_1)))), (o, .inr (ciP, [.ref q, .int (nI (u_9.1))])), (q, .inl (cW, 40, .inr (.inr (.inr (.inr u_9.2.1)))))] := hD
    refine lv_goto (tgt := 19) hx hb d_L_make_12 (by decide) ?_
    refine lv_iconst (v := nI 0) hx hb d_L_make_19 (by decide) ?_
    refine vx_ret ?_
    refine W.widen (k := 3) (n := 133) (by omega) (by omega) ?_
    exact W.iret (v := (nI (0))) hx hb hr (fun t_ ht_ hW_ => ⟨⟨_, (u_9, vp_updL gg 0 y_1), rfl, Or.inl ⟨rfl, r_9, hr_9, (pk_uLs (f := gg) (k := 0) (x := y_1)).trans ey_1⟩, by rw [ht_]; exact hP.sub [1, 2, 0] rfl, va_K.moved hW_.alike hK, hD.sub [1, 2, 0] (by decide) rfl, by rw [ht_]; exact wdAll.moved hW_.alike hallF⟩, hS.F ht_⟩) hS.2.2 d_L_make_20
set_option maxHeartbeats 1000000 in
set_option maxRecDepth 100000 in
theorem c_L_at (l : Launch) (hst : l.stackTraces = false) (dC : Nat → ClassId) (dI : Nat → Nat → Nat) {sz : Nat} {z0 o q n : Nat} {cW : ClassId} {wa : Nat → Option Nat} {Wd : Nat → pw_V} {ow : Nat} {cL : ClassId} {gg : Nat → Int64} (hn : n ≤ 40) (hoz : o < z0) (hqz : q < z0) (hwz : ow < z0) (hzs : z0 ≤ sz) {zz : Nat} (hzo : zz ≤ o) (hzq : zz ≤ q) (hzz : zz ≤ sz) {x y : Int32} : vx_Met l y_L_at ws_L_at ({ frames := 7, cells := 1, slots := 6, locals := 113 } : Room) (tx_Pre (lm_Pre [.ref o, .int (x), .int (y), .ref ow] dC dI z0 sz o q n cW wa Wd ow cL gg) zz "java/util/NoSuchElementException" [(75, "there is no such WORD"), (82, "there is no such 1")]) (va_Qi (fun k u => u.1 = (n, wa, Wd) ∧ ((k = nI 0 ∧ ∃ r : Int32, (∃ i j, sp_atv n Wd x y i j ∧ r = nI (pw_tk (Wd i).2.2 j)) ∧ u.2 0 = r.toInt64) ∨ (k = nI 1 ∧ ¬ ∃ i j, sp_atv n Wd x y i j))) (lm_B dC dI (va_A (pwc o q n cW wa ++ ot ow cL gg) sz) z0 o q cW ow cL) (va_A (pwc o q n cW wa ++ ot ow cL gg) sz)) (vx_X (fun _ : Unit => False) (fun _ _ _ => True) (fun _ => False)) 1 6 (va_A (pwc o q n cW wa ++ ot ow cL gg) sz) := by
  refine vx_ofWH (cc := b_L_at) (maxL := 5) (ret := (some .int)) (hh := [(0, 10, 13, 19)]) (by decide) rfl ?_
  intro p e s m args below meth c s₁ B hml hv
  obtain ⟨⟨rfl, hsz, hP, hK, hD0, hall⟩, htx⟩ := hv
  have hx := B.exec
  have hb := B.bytes
  have hr := B.returns
  have hts := atoms_spec (ws := ws_L_at) B.pre
  have hown : s.vm.findClass R_L = some m.cls := findClass_of_methodNamed B.named
  have htab := vx_table (x := y_L_make) B (hts _ List.mem_cons_self)
  have hlocks := B.notSynchronized
  subst hsz
  have hD := hD0.self (sz := s.heap.size)
  generalize hAe : va_A (pwc o q n cW wa ++ ot ow cL gg) s.heap.size = A at hD ⊢
  have hA : ∀ q : Nat, s.heap.size ≤ q → A q := fun q h => by rw [← hAe]; exact Or.inr h
  have hS : va_S A s.heap s.heap [] := va_S.rf
  have hl := lv_entry ([.ref o, .int (x), .int (y), .ref ow]) (n := 5) (Nat.le_of_ble_eq_true rfl)
  rw [lg_entry_eq]
  generalize (lg_sl ([.ref o, .int (x), .int (y), .ref ow]) ++ List.replicate (5 - (lg_sl ([.ref o, .int (x), .int (y), .ref ow])).length) Slot.unset).toArray = ls at hl ⊢
  have hl : lv_has ls 5 [(0, .ref o), (1, .int (x)), (2, .int (y)), (3, .ref ow)] := hl
  refine lv_aload_n hx hb d_L_at_0 rfl (lv_at hl 3 rfl) ?_
  refine lv_iconst (v := nI 0) hx hb d_L_at_1 (by decide) ?_
  refine lv_aload_n hx hb d_L_at_2 rfl (lv_at hl 0 rfl) ?_
  refine lv_iload_n hx hb d_L_at_3 rfl (lv_at hl 1 rfl) ?_
  refine lv_iload_n hx hb d_L_at_4 rfl (lv_at hl 2 rfl) ?_
  have hPc := hP.sub (ws' := [(o, .inr (ciP, [.ref q, .int (nI (n))])), (q, .inl (cW, 40, .inr (.inr (.inr (.inr wa)))))]) [0, 1] rfl
  have hDc := hD.sub (ws' := [(o, .inr (ciP, [.ref q, .int (nI (n))])), (q, .inl (cW, 40, .inr (.inr (.inr (.inr wa)))))]) [0, 1] (by decide) rfl
  have hKc := hK.sub (tys' := [(cW, .object "PeriodWords$Word")]) [0] rfl
  have hFc := va_free (wc := []) hD hS hA [] rfl
  refine vx_calli (vx_runV (As := [.int (x), .int (y)]) (rest := [.int (nI (0)), .ref ow]) ⟨hx, hb, hml, hown, hts⟩ (c_P_at l hst dC dI hn hzz) (cwV 2 hts (gd_V mb_327 mb_328 mb_329 mb_22 mb_330) rfl rfl rfl (by decide +kernel) ⟨Nat.le_of_ble_eq_true rfl, Nat.le_of_ble_eq_true rfl⟩) ⟨tx_blind pz_blind, va_recv hK hP (ci := ciP) (q0 := 0) rfl rfl, fun U hU hW => ⟨⟨by rw [hU], rfl, by rw [hU]; exact hPc, va_K.moved hW.alike hKc, by rw [hU]; exact wdAll.moved hW.alike hall⟩, htx.at (fun _ _ _ => rfl) hU hW⟩⟩ rfl rfl hl.1 rfl (lv_room (Nat.le_of_ble_eq_true rfl)) d_L_at_5 ⟨Nat.le_of_ble_eq_true rfl, Nat.le_of_ble_eq_true rfl⟩) hS (fun q _ h => hFc q h) hFc (fun q _ h => hFc q h) (fun E9 ce9 q9 u9 t_ H1 locs ht_ hvm_ hpx_ hBX_ hz1_ hk1_ hS hce_ hcv_ hcl_ => ?_) (fun r_9 u_9 t_ H1 locs ht_ hvm_ hr_9 hB_ hz1_ hk1_ hS => ?_)
  · subst hBX_
    have hallF := lm_keep hk1_ (fun q_ _ h_ z_ => by have := pw_A0 z_; omega) hall
    obtain ⟨hP, hD⟩ := va_join (wr := [(o, .inr (ciP, [.ref q, .int (nI (n))])), (q, .inl (cW, 40, .inr (.inr (.inr (.inr wa))))), (ow, .inl (cL, 1, .inr (.inl gg)))]) (w1 := []) hP hD [] [0, 1, 2] rfl rfl (by decide) (by decide) hk1_ hFc pw_P0 pw_D0
    generalize H1 = H at hP hS hallF hce_ ⊢
    have hP : va_P (dC, dI) vwCl [(o, .inr (ciP, [.ref q, .int (nI (n))])), (q, .inl (cW, 40, .inr (.inr (.inr (.inr wa))))), (ow, .inl (cL, 1, .inr (.inl gg)))] H := hP
    have hD : va_D A [(o, .inr (ciP, [.ref q, .int (nI (n))])), (q, .inl (cW, 40, .inr (.inr (.inr (.inr wa))))), (ow, .inl (cL, 1, .inr (.inl gg)))] := hD
    refine vx_catch hown [] ⟨0, 10, 13, 19⟩ [] (by rw [htab]; rfl) (fun z_ hz_ => absurd hz_ List.not_mem_nil) (by decide) (by decide) (hts (.classLink R_L 19 "java/util/NoSuchElementException") (List.mem_cons_of_mem _ mb_326)) (va_Nw.use rfl htx.1.1) hce_ hcv_ hcl_ ?_
    refine lv_astore (lv' := [(4, .ref q9), (0, .ref o), (1, .int (x)), (2, .int (y)), (3, .ref ow)]) hx hb d_L_at_13 hl (by decide) rfl (fun ls hl => ?_)
    refine lv_iconst (v := nI 1) hx hb d_L_at_15 (by decide) ?_
    refine vx_ret ?_
    refine W.widen (k := 1) (n := 6) (by omega) (by omega) ?_
    exact W.iret (v := (nI (1))) hx hb hr (fun t_ ht_ hW_ => ⟨⟨_, ((n, wa, Wd), gg), rfl, ⟨rfl, Or.inr ⟨rfl, hpx_⟩⟩, by rw [ht_]; exact hP.sub [0, 1, 2] rfl, va_K.moved hW_.alike hK, hD.sub [0, 1, 2] (by decide) rfl, by rw [ht_]; exact wdAll.moved hW_.alike hallF⟩, hS.F ht_⟩) hS.2.2 d_L_at_16
  · have hallF := lm_keep hk1_ (fun q_ _ h_ z_ => by have := pw_A0 z_; omega) hall
    obtain ⟨hP, hD⟩ := va_join (wr := [(o, .inr (ciP, [.ref q, .int (nI (n))])), (q, .inl (cW, 40, .inr (.inr (.inr (.inr wa))))), (ow, .inl (cL, 1, .inr (.inl gg)))]) (w1 := []) hP hD [] [0, 1, 2] rfl rfl (by decide) (by decide) hk1_ hFc pw_P0 pw_D0
    generalize H1 = H at hP hS hallF ⊢
    have hP : va_P (dC, dI) vwCl [(o, .inr (ciP, [.ref q, .int (nI (n))])), (q, .inl (cW, 40, .inr (.inr (.inr (.inr wa))))), (ow, .inl (cL, 1, .inr (.inl gg)))] H := hP
    have hD : va_D A [(o, .inr (ciP, [.ref q, .int (nI (n))])), (q, .inl (cW, 40, .inr (.inr (.inr (.inr wa))))), (ow, .inl (cL, 1, .inr (.inl gg)))] := hD
    refine lv_i2l hx hb d_L_at_8 rfl ?_
    refine lv_topl (fun y_1 ey_1 => ?_)
    refine lx_last hx hb hK hP hD hS 2 1 rfl rfl (vp_in_nI (n := 0) (by omega) (by omega)) d_L_at_9 (fun H locs hoq_ hP hD hS => ?_)
    rw [pq_cl (by omega)] at hP hD
    have hallF := wdAll.kept (fun q_ h1_ _ => hoq_ q_ (by omega)) hallF
    have hP : va_P (dC, dI) vwCl [(o, .inr (ciP, [.ref q, .int (nI (n))])), (q, .inl (cW, 40, .inr (.inr (.inr (.inr wa))))), (ow, .inl (cL, 1, .inr (.inl (vp_updL gg 0 y_1))))] H := hP
    have hD : va_D A [(o, .inr (ciP, [.ref q, .int (nI (n))])), (q, .inl (cW, 40, .inr (.inr (.inr (.inr wa))))), (ow, .inl (cL, 1, .inr (.inl (vp_updL gg 0 y_1))))] := hD
    refine lv_goto (tgt := 17) hx hb d_L_at_10 (by decide) ?_
    refine lv_iconst (v := nI 0) hx hb d_L_at_17 (by decide) ?_
    refine vx_ret ?_
    refine W.widen (k := 1) (n := 6) (by omega) (by omega) ?_
    exact W.iret (v := (nI (0))) hx hb hr (fun t_ ht_ hW_ => ⟨⟨_, ((n, wa, Wd), vp_updL gg 0 y_1), rfl, ⟨rfl, Or.inl ⟨rfl, r_9, hr_9, (pk_uLs (f := gg) (k := 0) (x := y_1)).trans ey_1⟩⟩, by rw [ht_]; exact hP.sub [0, 1, 2] rfl, va_K.moved hW_.alike hK, hD.sub [0, 1, 2] (by decide) rfl, by rw [ht_]; exact wdAll.moved hW_.alike hallF⟩, hS.F ht_⟩) hS.2.2 d_L_at_18
set_option maxHeartbeats 1000000 in
set_option maxRecDepth 100000 in
theorem c_L_between (l : Launch) (hst : l.stackTraces = false) (dC : Nat → ClassId) (dI : Nat → Nat → Nat) {sz : Nat} {z0 o q n : Nat} {cW : ClassId} {wa : Nat → Option Nat} {Wd : Nat → pw_V} {ow : Nat} {cL : ClassId} {gg : Nat → Int64} (hn : n ≤ 40) (hoz : o < z0) (hqz : q < z0) (hwz : ow < z0) (hzs : z0 ≤ sz) {zz : Nat} (hzo : zz ≤ o) (hzq : zz ≤ q) (hzz : zz ≤ sz) {x y z : Int32} : vx_Met l y_L_between ws_L_between ({ frames := 7, cells := 1, slots := 6, locals := 118 } : Room) (tx_Pre (lm_Pre [.ref o, .int (x), .int (y), .int (z), .ref ow] dC dI z0 sz o q n cW wa Wd ow cL gg) zz "java/lang/ArithmeticException" [(97, "no wait is long enough"), (103, "the RATES are not alike")]) (va_Qi (fun k u => u.1 = (n, wa, Wd) ∧ ((k = nI 0 ∧ ∃ r : Int32, sp_b n Wd x y z (some r) ∧ u.2 0 = r.toInt64) ∨ (k = nI 1 ∧ sp_b n Wd x y z none))) (lm_B dC dI (va_A (pwc o q n cW wa ++ ot ow cL gg) sz) z0 o q cW ow cL) (va_A (pwc o q n cW wa ++ ot ow cL gg) sz)) (vx_X (fun _ : Unit => False) (fun _ _ _ => True) (fun _ => False)) 1 6 (va_A (pwc o q n cW wa ++ ot ow cL gg) sz) := by
  refine vx_ofWH (cc := b_L_between) (maxL := 6) (ret := (some .int)) (hh := [(0, 12, 15, 24)]) (by decide) rfl ?_
  intro p e s m args below meth c s₁ B hml hv
  obtain ⟨⟨rfl, hsz, hP, hK, hD0, hall⟩, htx⟩ := hv
  have hx := B.exec
  have hb := B.bytes
  have hr := B.returns
  have hts := atoms_spec (ws := ws_L_between) B.pre
  have hown : s.vm.findClass R_L = some m.cls := findClass_of_methodNamed B.named
  have htab := vx_table (x := y_L_make) B (hts _ List.mem_cons_self)
  have hlocks := B.notSynchronized
  subst hsz
  have hD := hD0.self (sz := s.heap.size)
  generalize hAe : va_A (pwc o q n cW wa ++ ot ow cL gg) s.heap.size = A at hD ⊢
  have hA : ∀ q : Nat, s.heap.size ≤ q → A q := fun q h => by rw [← hAe]; exact Or.inr h
  have hS : va_S A s.heap s.heap [] := va_S.rf
  have hl := lv_entry ([.ref o, .int (x), .int (y), .int (z), .ref ow]) (n := 6) (Nat.le_of_ble_eq_true rfl)
  rw [lg_entry_eq]
  generalize (lg_sl ([.ref o, .int (x), .int (y), .int (z), .ref ow]) ++ List.replicate (6 - (lg_sl ([.ref o, .int (x), .int (y), .int (z), .ref ow])).length) Slot.unset).toArray = ls at hl ⊢
  have hl : lv_has ls 6 [(0, .ref o), (1, .int (x)), (2, .int (y)), (3, .int (z)), (4, .ref ow)] := hl
  refine lv_aload hx hb d_L_between_0 (lv_at hl 4 rfl) ?_
  refine lv_iconst (v := nI 0) hx hb d_L_between_2 (by decide) ?_
  refine lv_aload_n hx hb d_L_between_3 rfl (lv_at hl 0 rfl) ?_
  refine lv_iload_n hx hb d_L_between_4 rfl (lv_at hl 1 rfl) ?_
  refine lv_iload_n hx hb d_L_between_5 rfl (lv_at hl 2 rfl) ?_
  refine lv_iload_n hx hb d_L_between_6 rfl (lv_at hl 3 rfl) ?_
  have hPc := hP.sub (ws' := [(o, .inr (ciP, [.ref q, .int (nI (n))])), (q, .inl (cW, 40, .inr (.inr (.inr (.inr wa)))))]) [0, 1] rfl
  have hDc := hD.sub (ws' := [(o, .inr (ciP, [.ref q, .int (nI (n))])), (q, .inl (cW, 40, .inr (.inr (.inr (.inr wa)))))]) [0, 1] (by decide) rfl
  have hKc := hK.sub (tys' := [(cW, .object "PeriodWords$Word")]) [0] rfl
  have hFc := va_free (wc := []) hD hS hA [] rfl
  refine vx_calli (vx_runV (As := [.int (x), .int (y), .int (z)]) (rest := [.int (nI (0)), .ref ow]) ⟨hx, hb, hml, hown, hts⟩ (c_P_between l hst dC dI hn hzz) (cwV 3 hts (gd_V mb_353 mb_354 mb_355 mb_22 mb_356) rfl rfl rfl (by decide +kernel) ⟨Nat.le_of_ble_eq_true rfl, Nat.le_of_ble_eq_true rfl⟩) ⟨tx_blind pz_blind, va_recv hK hP (ci := ciP) (q0 := 0) rfl rfl, fun U hU hW => ⟨⟨by rw [hU], rfl, by rw [hU]; exact hPc, va_K.moved hW.alike hKc, by rw [hU]; exact wdAll.moved hW.alike hall⟩, htx.at (fun _ _ _ => rfl) hU hW⟩⟩ rfl rfl hl.1 rfl (lv_room (Nat.le_of_ble_eq_true rfl)) d_L_between_7 ⟨Nat.le_of_ble_eq_true rfl, Nat.le_of_ble_eq_true rfl⟩) hS (fun q _ h => hFc q h) hFc (fun q _ h => hFc q h) (fun E9 ce9 q9 u9 t_ H1 locs ht_ hvm_ hpx_ hBX_ hz1_ hk1_ hS hce_ hcv_ hcl_ => ?_) (fun r_9 u_9 t_ H1 locs ht_ hvm_ hr_9 hB_ hz1_ hk1_ hS => ?_)
  · subst hBX_
    have hallF := lm_keep hk1_ (fun q_ _ h_ z_ => by have := pw_A0 z_; omega) hall
    obtain ⟨hP, hD⟩ := va_join (wr := [(o, .inr (ciP, [.ref q, .int (nI (n))])), (q, .inl (cW, 40, .inr (.inr (.inr (.inr wa))))), (ow, .inl (cL, 1, .inr (.inl gg)))]) (w1 := []) hP hD [] [0, 1, 2] rfl rfl (by decide) (by decide) hk1_ hFc pw_P0 pw_D0
    generalize H1 = H at hP hS hallF hce_ ⊢
    have hP : va_P (dC, dI) vwCl [(o, .inr (ciP, [.ref q, .int (nI (n))])), (q, .inl (cW, 40, .inr (.inr (.inr (.inr wa))))), (ow, .inl (cL, 1, .inr (.inl gg)))] H := hP
    have hD : va_D A [(o, .inr (ciP, [.ref q, .int (nI (n))])), (q, .inl (cW, 40, .inr (.inr (.inr (.inr wa))))), (ow, .inl (cL, 1, .inr (.inl gg)))] := hD
    refine vx_catch hown [] ⟨0, 12, 15, 24⟩ [] (by rw [htab]; rfl) (fun z_ hz_ => absurd hz_ List.not_mem_nil) (by decide) (by decide) (hts (.classLink R_L 24 "java/lang/ArithmeticException") (List.mem_cons_of_mem _ mb_352)) (va_Nw.use rfl htx.1.1) hce_ hcv_ hcl_ ?_
    refine lv_astore (lv' := [(5, .ref q9), (0, .ref o), (1, .int (x)), (2, .int (y)), (3, .int (z)), (4, .ref ow)]) hx hb d_L_between_15 hl (by decide) rfl (fun ls hl => ?_)
    refine lv_iconst (v := nI 1) hx hb d_L_between_17 (by decide) ?_
    refine vx_ret ?_
    refine W.widen (k := 1) (n := 6) (by omega) (by omega) ?_
    exact W.iret (v := (nI (1))) hx hb hr (fun t_ ht_ hW_ => ⟨⟨_, ((n, wa, Wd), gg), rfl, ⟨rfl, Or.inr ⟨rfl, hpx_⟩⟩, by rw [ht_]; exact hP.sub [0, 1, 2] rfl, va_K.moved hW_.alike hK, hD.sub [0, 1, 2] (by decide) rfl, by rw [ht_]; exact wdAll.moved hW_.alike hallF⟩, hS.F ht_⟩) hS.2.2 d_L_between_18
  · have hallF := lm_keep hk1_ (fun q_ _ h_ z_ => by have := pw_A0 z_; omega) hall
    obtain ⟨hP, hD⟩ := va_join (wr := [(o, .inr (ciP, [.ref q, .int (nI (n))])), (q, .inl (cW, 40, .inr (.inr (.inr (.inr wa))))), (ow, .inl (cL, 1, .inr (.inl gg)))]) (w1 := []) hP hD [] [0, 1, 2] rfl rfl (by decide) (by decide) hk1_ hFc pw_P0 pw_D0
    generalize H1 = H at hP hS hallF ⊢
    have hP : va_P (dC, dI) vwCl [(o, .inr (ciP, [.ref q, .int (nI (n))])), (q, .inl (cW, 40, .inr (.inr (.inr (.inr wa))))), (ow, .inl (cL, 1, .inr (.inl gg)))] H := hP
    have hD : va_D A [(o, .inr (ciP, [.ref q, .int (nI (n))])), (q, .inl (cW, 40, .inr (.inr (.inr (.inr wa))))), (ow, .inl (cL, 1, .inr (.inl gg)))] := hD
    refine lv_i2l hx hb d_L_between_10 rfl ?_
    refine lv_topl (fun y_1 ey_1 => ?_)
    refine lx_last hx hb hK hP hD hS 2 1 rfl rfl (vp_in_nI (n := 0) (by omega) (by omega)) d_L_between_11 (fun H locs hoq_ hP hD hS => ?_)
    rw [pq_cl (by omega)] at hP hD
    have hallF := wdAll.kept (fun q_ h1_ _ => hoq_ q_ (by omega)) hallF
    have hP : va_P (dC, dI) vwCl [(o, .inr (ciP, [.ref q, .int (nI (n))])), (q, .inl (cW, 40, .inr (.inr (.inr (.inr wa))))), (ow, .inl (cL, 1, .inr (.inl (vp_updL gg 0 y_1))))] H := hP
    have hD : va_D A [(o, .inr (ciP, [.ref q, .int (nI (n))])), (q, .inl (cW, 40, .inr (.inr (.inr (.inr wa))))), (ow, .inl (cL, 1, .inr (.inl (vp_updL gg 0 y_1))))] := hD
    refine lv_goto (tgt := 19) hx hb d_L_between_12 (by decide) ?_
    refine lv_iconst (v := nI 0) hx hb d_L_between_19 (by decide) ?_
    refine vx_ret ?_
    refine W.widen (k := 1) (n := 6) (by omega) (by omega) ?_
    exact W.iret (v := (nI (0))) hx hb hr (fun t_ ht_ hW_ => ⟨⟨_, ((n, wa, Wd), vp_updL gg 0 y_1), rfl, ⟨rfl, Or.inl ⟨rfl, r_9, hr_9, (pk_uLs (f := gg) (k := 0) (x := y_1)).trans ey_1⟩⟩, by rw [ht_]; exact hP.sub [0, 1, 2] rfl, va_K.moved hW_.alike hK, hD.sub [0, 1, 2] (by decide) rfl, by rw [ht_]; exact wdAll.moved hW_.alike hallF⟩, hS.F ht_⟩) hS.2.2 d_L_between_20
