set_option maxHeartbeats 1000000 in
set_option maxRecDepth 100000 in
theorem c_P_shortestForm (l : Launch) (dC : Nat → ClassId) (dI : Nat → Nat → Nat) {sz : Nat} {a q h pp : Nat} {cA : ClassId} {f : Nat → Bool} {pl : Nat → Int32} (hw : wd_ok h pp f) {a2 q2 h2 pp2 : Nat} {cA2 : ClassId} {f2 : Nat → Bool} {pl2 : Nat → Int32} (hw2 : wd_ok h2 pp2 f2) (hpl2 : wd_pl h2 pp2 f2 pl2) {dd hd rd how late : Nat} (hhow : how < 8) (hlate : late < 100) (hby : how = 5 → 0 < pw_o f2 h2 pp2) (hhd : hd < 100000) (hrd : rd < 100000) (hrd0 : 0 < rd) (hEd : pw_E (pw_mk how f f2 late) hd rd) : Met l y_P_shortestForm ws_P_shortestForm ({ frames := 4, cells := 2, slots := 127, locals := 92 } : Room) (dr_Pre [.ref dd] dC dI sz [(cA, .int), (cA2, .int)] (dr dd a a2 hd rd how late ++ (wd a q cA h pp f pl ++ wd a2 q2 cA2 h2 pp2 f2 pl2))) (va_Qq (fun r u => r = u.map (fun x => x.1) ∧ sf_ok (pw_mk how f f2 late) u) (sf_B dC dI (va_A [] sz) (pw_mk how f f2 late)) (va_A [] sz)) 2 127 (va_A [] sz) := by
  refine Met.ofW (cc := b_P_shortestForm) (maxL := 3) (ret := (some (.object "PeriodWords$Word"))) (by decide) rfl ?_
  intro p e s m args below meth c s₁ B hml hv
  obtain ⟨rfl, hsz, hW0, hK⟩ := hv
  have hx := B.exec
  have hb := B.bytes
  have hr := B.returns
  have hts := atoms_spec (ws := ws_P_shortestForm) B.pre
  have hown : s.vm.findClass R_P = some m.cls := findClass_of_methodNamed B.named
  have hlocks := B.notSynchronized
  subst hsz
  generalize hAe : va_A [] s.heap.size = A
  have hA : ∀ q : Nat, s.heap.size ≤ q → A q := fun q h => by rw [← hAe]; exact Or.inr h
  have hAn : ∀ q : Nat, A q → s.heap.size ≤ q := fun q h => by rw [← hAe] at h; exact pw_A0 h
  have hS : va_S A s.heap s.heap [] := va_S.rf
  have hP : va_P (dC, dI) vwCl [] s.heap := pw_P0
  have hD : va_D A [] := pw_D0
  have hPd0 := hW0.sub (ws' := dr dd a a2 hd rd how late) [0] rfl
  have hKd := hK.sub (tys' := []) [] rfl
  have hPd := hPd0
  have hWk := hW0
  have hl := lv_entry ([.ref dd]) (n := 3) (Nat.le_of_ble_eq_true rfl)
  rw [lg_entry_eq]
  generalize (lg_sl ([.ref dd]) ++ List.replicate (3 - (lg_sl ([.ref dd])).length) Slot.unset).toArray = ls at hl ⊢
  have hl : lv_has ls 3 [(0, .ref dd)] := hl
  refine lv_aload_n hx hb d_P_shortestForm_0 rfl (lv_at hl 0 rfl) ?_
  refine vp_callSi (W.runS (As := [.ref dd]) (rest := []) ⟨hx, hb, hml, hown, hts⟩ (c_P_shortestRing l dC dI hw hw2 hpl2 (hd := hd) (rd := rd) hhow hlate hby hhd hrd hrd0 hEd) (va_cwS 1 hts (gd_S mb_166 mb_167 mb_22 mb_168) rfl rfl rfl (by decide +kernel) ⟨Nat.le_of_ble_eq_true rfl, Nat.le_of_ble_eq_true rfl⟩) (pw_R_S hWk hK) rfl rfl hl.1 rfl (lv_room (Nat.le_of_ble_eq_true rfl)) d_P_shortestForm_1 ⟨Nat.le_of_ble_eq_true rfl, Nat.le_of_ble_eq_true rfl⟩) (fun r_1 hr_1 => ?_)
  rcases hr_1 with ⟨rg, hre, hg0, hg6, hgE, hgm⟩ | ⟨hre, hgn⟩
  · subst hre
    refine lv_istore_n (lv' := [(1, .int (nI (rg))), (0, .ref dd)]) hx hb d_P_shortestForm_4 rfl hl (by decide) rfl (fun ls hl => ?_)
    refine lv_iload_n hx hb d_P_shortestForm_5 rfl (lv_at hl 0 rfl) ?_
    refine lv_iconst (v := (-1)) hx hb d_P_shortestForm_6 (by decide) ?_
    refine lv_icmp_ne (tgt := 12) hx hb d_P_shortestForm_7 (by decide) (fun c_7 => ?_) (fun c_7 => absurd c_7 (pq_nm1 (by omega)))
    refine lv_aload_n hx hb d_P_shortestForm_12 rfl (lv_at hl 1 rfl) ?_
    refine lv_iload_n hx hb d_P_shortestForm_13 rfl (lv_at hl 0 rfl) ?_
    refine vp_callSi (W.runS (As := [.ref dd, .int (nI (rg))]) (rest := []) ⟨hx, hb, hml, hown, hts⟩ (c_P_shortestHead l dC dI hw hw2 hpl2 (hd := hd) (rd := rd) hhow hlate hby (rg := rg) hg6 hhd hgE) (va_cwS 2 hts (gd_S mb_182 mb_183 mb_22 mb_184) rfl rfl rfl (by decide +kernel) ⟨Nat.le_of_ble_eq_true rfl, Nat.le_of_ble_eq_true rfl⟩) (pw_R_S hWk hK) rfl rfl hl.1 rfl (lv_room (Nat.le_of_ble_eq_true rfl)) d_P_shortestForm_14 ⟨Nat.le_of_ble_eq_true rfl, Nat.le_of_ble_eq_true rfl⟩) (fun r_14 hr_14 => ?_)
    obtain ⟨hq, hre, hqle, hqE, hqc⟩ := hr_14
    subst hre
    have hcan := pw_Can_of hrd0 hEd hg0 hgm hqE hqc
    refine lv_istore_n (lv' := [(2, .int (nI (hq))), (1, .int (nI (rg))), (0, .ref dd)]) hx hb d_P_shortestForm_17 rfl hl (by decide) rfl (fun ls hl => ?_)
    refine lv_iload_n hx hb d_P_shortestForm_18 rfl (lv_at hl 0 rfl) ?_
    refine lv_bipush (v := nI 60) hx hb d_P_shortestForm_19 (by decide) ?_
    refine pq_icmp_le (tgt := 26) (a := hq) (b := 60) hx hb d_P_shortestForm_21 (by decide) (by omega) (by omega) (fun c_21 => ?_) (fun c_21 => ?_)
    · refine va_new (ci := ciW) (fs := [.int (0), .long (0), .int (0), .long (0), .int (0), .int (0), .null]) (C := R_W) (T := F_W) (N := 7) hx hb hts (fun w h => List.mem_cons_of_mem _ (in_W w h)) t_W t_W_ok hown (hts (.classLink R_P 9 R_W) (List.mem_cons_of_mem _ mb_43)) (hts (.instantiable R_W 7) (List.mem_cons_of_mem _ mb_56)) (hts (.initialized R_W) (List.mem_cons_of_mem _ mb_24)) hK hP hD hS hA rfl (fun j hj => by rcases (show j = 0 ∨ j = 1 ∨ j = 2 ∨ j = 3 ∨ j = 4 ∨ j = 5 ∨ j = 6 by omega) with rfl | rfl | rfl | rfl | rfl | rfl | rfl <;> rfl) (Nat.le_of_ble_eq_true rfl) (Nat.le_of_ble_eq_true rfl) d_P_shortestForm_26 (fun q_26 H hP hD hS => ?_)
      have hP : va_P (dC, dI) vwCl [(q_26, .inr (ciW, [.int (0), .long (0), .int (0), .long (0), .int (0), .int (0), .null]))] H := hP
      have hD : va_D A [(q_26, .inr (ciW, [.int (0), .long (0), .int (0), .long (0), .int (0), .int (0), .null]))] := hD
      refine W.widen (k := 1) (n := 7) (by omega) (by omega) ?_
      have hPd := pw_keep hPd0 hS hAn
      have hWk := pw_keep hW0 hS hAn
      refine lv_dup hx hb d_P_shortestForm_29 rfl ?_
      refine lv_iload_n hx hb d_P_shortestForm_30 rfl (lv_at hl 0 rfl) ?_
      refine lv_aload_n hx hb d_P_shortestForm_31 rfl (lv_at hl 2 rfl) ?_
      refine lv_iconst (v := nI 0) hx hb d_P_shortestForm_32 (by decide) ?_
      refine lv_iload_n hx hb d_P_shortestForm_33 rfl (lv_at hl 0 rfl) ?_
      refine vp_callSl (W.runV (As := [.int (nI (0)), .int (nI (hq))]) (rest := [.int (nI (hq)), .ref q_26, .ref q_26]) ⟨hx, hb, hml, hown, hts⟩ (c_D_bits l dC dI hw hw2 hpl2 (hd := hd) (rd := rd) hhow hlate hby (u := 0) (n := hq) (by omega) c_21) (cwV 2 hts (gd_V mb_185 mb_186 mb_187 mb_27 mb_188) rfl rfl rfl (by decide +kernel) ⟨Nat.le_of_ble_eq_true rfl, Nat.le_of_ble_eq_true rfl⟩) (pw_R_V (va_recv hKd hPd (ci := ciD) (q0 := 0) rfl rfl) hWk hK) rfl rfl hl.1 rfl (lv_room (Nat.le_of_ble_eq_true rfl)) d_P_shortestForm_34 ⟨Nat.le_of_ble_eq_true rfl, Nat.le_of_ble_eq_true rfl⟩) (fun r_34 hr_34 => ?_)
      subst hr_34
      refine lv_iload_n hx hb d_P_shortestForm_37 rfl (lv_at hl 1 rfl) ?_
      refine lv_aload_n hx hb d_P_shortestForm_38 rfl (lv_at hl 2 rfl) ?_
      refine lv_iload_n hx hb d_P_shortestForm_39 rfl (lv_at hl 0 rfl) ?_
      refine lv_iload_n hx hb d_P_shortestForm_40 rfl (lv_at hl 1 rfl) ?_
      refine vp_callSl (W.runV (As := [.int (nI (hq)), .int (nI (rg))]) (rest := [.int (nI (rg)), .long (lN (pw_b (pw_mk how f f2 late) 0 hq)), .int (nI (hq)), .ref q_26, .ref q_26]) ⟨hx, hb, hml, hown, hts⟩ (c_D_bits l dC dI hw hw2 hpl2 (hd := hd) (rd := rd) hhow hlate hby (u := hq) (n := rg) (by omega) hg6) (cwV 2 hts (gd_V mb_185 mb_186 mb_187 mb_27 mb_188) rfl rfl rfl (by decide +kernel) ⟨Nat.le_of_ble_eq_true rfl, Nat.le_of_ble_eq_true rfl⟩) (pw_R_V (va_recv hKd hPd (ci := ciD) (q0 := 0) rfl rfl) hWk hK) rfl rfl hl.1 rfl (lv_room (Nat.le_of_ble_eq_true rfl)) d_P_shortestForm_41 ⟨Nat.le_of_ble_eq_true rfl, Nat.le_of_ble_eq_true rfl⟩) (fun r_41 hr_41 => ?_)
      subst hr_41
      have hPc := hP.sub (ws' := [(q_26, .inr (ciW, [.int (0), .long (0), .int (0), .long (0), .int (0), .int (0), .null]))]) [0] rfl
      have hDc := hD.sub (ws' := [(q_26, .inr (ciW, [.int (0), .long (0), .int (0), .long (0), .int (0), .int (0), .null]))]) [0] (by decide) rfl
      have hKc := hK.sub (tys' := []) [] rfl
      have hFc := va_free (wc := [(q_26, .inr (ciW, [.int (0), .long (0), .int (0), .long (0), .int (0), .int (0), .null]))]) hD hS hA [0] rfl
      refine va_callv (va_runI (As := [.int (nI (hq)), .long (lN (pw_b (pw_mk how f f2 late) 0 hq)), .int (nI (rg)), .long (lN (pw_b (pw_mk how f f2 late) hq rg))]) (rest := [.ref q_26]) ⟨hx, hb, hml, hown, hts⟩ (c_W_init l dC dI (f := (pw_mk how f f2 late)) (a := q_26) (X := pw_b (pw_mk how f f2 late) 0 hq) (Y := pw_b (pw_mk how f f2 late) hq rg) c_21 hg0 hg6 (Nat.lt_trans (pq_lt60 (pw_b_lt _ _ _) c_21) (by decide)) (Nat.lt_trans (pq_lt60 (pw_b_lt _ _ _) hg6) (by decide)) (Nat.mod_eq_of_lt (pw_b_lt _ _ _)) (Nat.mod_eq_of_lt (pw_b_lt _ _ _))) (cwI 4 hts (gd_I mb_59) rfl rfl rfl (hts (.initialized R_W) (List.mem_cons_of_mem _ mb_24)) (hts (.methodLink R_P 19 y_W_init) (List.mem_cons_of_mem _ mb_57)) (hts (.instanceMethod y_W_init) (List.mem_cons_of_mem _ mb_58)) rfl (by decide +kernel) ⟨Nat.le_of_ble_eq_true rfl, Nat.le_of_ble_eq_true rfl⟩) ⟨md_blind, fun U hU hW => ⟨rfl, by rw [hU], by rw [hU]; exact hPc, va_K.moved hW.alike hKc, hDc.weaken (fun _ _ _ _ => trivial)⟩⟩ rfl rfl hl.1 rfl (lv_room (Nat.le_of_ble_eq_true rfl)) d_P_shortestForm_44 ⟨Nat.le_of_ble_eq_true rfl, Nat.le_of_ble_eq_true rfl⟩) hS (fun q _ h => hFc q h) hFc (fun u_44 t_ H1 locs ht_ hvm_ hr_44 hB_ hz1_ hk1_ hS => ?_)
      obtain ⟨hP1_, hK1_, hD1_⟩ := hB_
      rw [ht_] at hP1_
      have hK1s : va_K (dC, dI) vwCl [(u_44.2.1, .int)] s := va_K.moved hvm_.symm hK1_
      obtain ⟨hP, hD⟩ := va_join (wr := []) (w1 := [(q_26, .inr (ciW, [.int (nI (hq)), .long (lN (pw_b (pw_mk how f f2 late) 0 hq)), .int (nI (rg)), .long (lN (pw_b (pw_mk how f f2 late) hq rg)), .int (nI (pw_c (pw_mk how f f2 late) hq)), .int (nI (pw_o (pw_mk how f f2 late) hq rg)), .ref u_44.1])), (u_44.1, .inl (u_44.2.1, (pw_c (pw_mk how f f2 late) hq + pw_o (pw_mk how f f2 late) hq rg), .inl u_44.2.2))]) hP hD [0] [] rfl rfl (by decide) (by decide) hk1_ hFc hP1_ hD1_
      generalize H1 = H at hP hS ⊢
      have hP : va_P (dC, dI) vwCl [(q_26, .inr (ciW, [.int (nI (hq)), .long (lN (pw_b (pw_mk how f f2 late) 0 hq)), .int (nI (rg)), .long (lN (pw_b (pw_mk how f f2 late) hq rg)), .int (nI (pw_c (pw_mk how f f2 late) hq)), .int (nI (pw_o (pw_mk how f f2 late) hq rg)), .ref u_44.1])), (u_44.1, .inl (u_44.2.1, (pw_c (pw_mk how f f2 late) hq + pw_o (pw_mk how f f2 late) hq rg), .inl u_44.2.2))] H := hP
      have hD : va_D A [(q_26, .inr (ciW, [.int (nI (hq)), .long (lN (pw_b (pw_mk how f f2 late) 0 hq)), .int (nI (rg)), .long (lN (pw_b (pw_mk how f f2 late) hq rg)), .int (nI (pw_c (pw_mk how f f2 late) hq)), .int (nI (pw_o (pw_mk how f f2 late) hq rg)), .ref u_44.1])), (u_44.1, .inl (u_44.2.1, (pw_c (pw_mk how f f2 late) hq + pw_o (pw_mk how f f2 late) hq rg), .inl u_44.2.2))] := hD
      exact W.aret (v := .ref q_26) hx hb hr (Or.inl ⟨_, rfl⟩) (Or.inr ⟨_, rfl⟩) (fun t_ ht_ hW_ => ⟨⟨some q_26, some (q_26, hq, rg, u_44.1, u_44.2.1, u_44.2.2), rfl, ⟨rfl, hcan, c_21, hg6, hr_44⟩, by rw [ht_]; exact hP, va_K.moved hW_.alike hK1s, hD⟩, hS.F ht_⟩) hS.2.2 d_P_shortestForm_47
    · refine lv_null hx hb d_P_shortestForm_24 ?_
      refine W.widen (k := 2) (n := 127) (by omega) (by omega) ?_
      exact W.aret (v := .null) hx hb hr (Or.inl ⟨_, rfl⟩) (Or.inl rfl) (fun t_ ht_ hW_ => ⟨⟨none, none, rfl, ⟨rfl, ⟨hq, rg, hcan, fun z => absurd z.1 (by omega)⟩⟩, trivial⟩, hS.F ht_⟩) hS.2.2 d_P_shortestForm_25
  · subst hre
    refine lv_istore_n (lv' := [(1, .int (-1)), (0, .ref dd)]) hx hb d_P_shortestForm_4 rfl hl (by decide) rfl (fun ls hl => ?_)
    refine lv_iload_n hx hb d_P_shortestForm_5 rfl (lv_at hl 0 rfl) ?_
    refine lv_iconst (v := (-1)) hx hb d_P_shortestForm_6 (by decide) ?_
    refine lv_icmp_ne (tgt := 12) hx hb d_P_shortestForm_7 (by decide) (fun c_7 => absurd c_7 (fun z => z rfl)) (fun c_7 => ?_)
    refine lv_null hx hb d_P_shortestForm_10 ?_
    refine W.widen (k := 2) (n := 127) (by omega) (by omega) ?_
    exact W.aret (v := .null) hx hb hr (Or.inl ⟨_, rfl⟩) (Or.inl rfl) (fun t_ ht_ hW_ => ⟨⟨none, none, rfl, ⟨rfl, sf_none hrd0 hEd hgn⟩, trivial⟩, hS.F ht_⟩) hS.2.2 d_P_shortestForm_11
