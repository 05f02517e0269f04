set_option maxHeartbeats 1000000 in
set_option maxRecDepth 100000 in
theorem c_P_draftOfX (l : Launch) (dC : Nat → ClassId) (dI : Nat → Nat → Nat) {sz : Nat} {a q h pp : Nat} {cA : ClassId} {f : Nat → Bool} {pl : Nat → Int32} (hw : wd_ok h pp f) {a2 q2 h2 pp2 : Nat} {cA2 : ClassId} {f2 : Nat → Bool} {pl2 : Nat → Int32} (hw2 : wd_ok h2 pp2 f2) (hpl : wd_pl h pp f pl) {how : Nat} {zz : Int32} (hhow : how < 8) (hne : how ≠ 6) (hob : how = 5 → 0 < pw_o f2 h2 pp2) : Met l y_P_draftOf ws_P_draftOf ({ frames := 3, cells := 1, slots := 6, locals := 69 } : Room) (dr_Pre [.int (nI (how)), .ref a, .ref a2, .int (zz)] dC dI sz [(cA, .int), (cA2, .int)] (wd a q cA h pp f pl ++ wd a2 q2 cA2 h2 pp2 f2 pl2)) (va_Qr (fun u => dr_ok how f f2 u.1 u.2.1 u.2.2 ∧ (how = 6 → u.2.2 = 0)) (fun (u : Nat × Nat × Nat) (r : Nat) (t : State) => di_B dC dI (va_A [] sz) r a a2 u.1 u.2.1 how u.2.2 () t) (va_A [] sz)) 1 6 (va_A [] sz) := by
  refine Met.ofW (cc := b_P_draftOf) (maxL := 4) (ret := (some (.object "PeriodWords$Draft"))) (by decide) rfl ?_
  intro p e s m args below meth c s₁ B hml hv
  obtain ⟨rfl, hsz, hW0, hK⟩ := hv
  have hx := B.exec
  have hb := B.bytes
  have hr := B.returns
  have hts := atoms_spec (ws := ws_P_draftOf) B.pre
  have hown : s.vm.findClass R_P = some m.cls := findClass_of_methodNamed B.named
  have hlocks := B.notSynchronized
  subst hsz
  generalize hAe : va_A [] s.heap.size = A
  have hA : ∀ q : Nat, s.heap.size ≤ q → A q := fun q h => by rw [← hAe]; exact Or.inr h
  have hAn : ∀ q : Nat, A q → s.heap.size ≤ q := fun q h => by rw [← hAe] at h; exact pw_A0 h
  have hS : va_S A s.heap s.heap [] := va_S.rf
  have hP : va_P (dC, dI) vwCl [] s.heap := pw_P0
  have hD : va_D A [] := pw_D0
  have hw0 := hw; obtain ⟨hh, hp0, hp6, hE⟩ := hw0
  have ho := pw_o_le f h pp
  have hc := pw_c_le f h
  have hw20 := hw2; obtain ⟨hh2, hp02, hp62, hE2⟩ := hw20
  have ho2 := pw_o_le f2 h2 pp2
  have hc2 := pw_c_le f2 h2
  have hPa0 := hW0.sub (ws' := wd a q cA h pp f pl) [0, 1] rfl
  have hKa := hK.sub (tys' := [(cA, .int)]) [0] rfl
  have hPb0 := hW0.sub (ws' := wd a2 q2 cA2 h2 pp2 f2 pl2) [2, 3] rfl
  have hKb := hK.sub (tys' := [(cA2, .int)]) [1] rfl
  have hPa := hPa0
  have hPb := hPb0
  have m3 : pp / Nat.gcd pp pp2 * pp2 ≤ 60 * 60 := Nat.mul_le_mul (Nat.le_trans (Nat.div_le_self _ _) hp6) hp62
  have m4 : pp * (1 + pw_o f h pp % 2) ≤ 60 * 2 := Nat.mul_le_mul hp6 (by omega)
  have hl := lv_entry ([.int (nI (how)), .ref a, .ref a2, .int (zz)]) (n := 4) (Nat.le_of_ble_eq_true rfl)
  rw [lg_entry_eq]
  generalize (lg_sl ([.int (nI (how)), .ref a, .ref a2, .int (zz)]) ++ List.replicate (4 - (lg_sl ([.int (nI (how)), .ref a, .ref a2, .int (zz)])).length) Slot.unset).toArray = ls at hl ⊢
  have hl : lv_has ls 4 [(0, .int (nI (how))), (1, .ref a), (2, .ref a2), (3, .int (zz))] := hl
  refine lv_iload_n hx hb d_P_draftOf_0 rfl (lv_at hl 0 rfl) ?_
  rcases (show how = 0 ∨ how = 1 ∨ how = 2 ∨ how = 3 ∨ how = 4 ∨ how = 5 ∨ how = 7 by omega) with rfl | rfl | rfl | rfl | rfl | rfl | rfl
  · refine lv_tableOut (tgt := 97) hx hb d_P_draftOf_1 (Or.inl (by decide)) (by decide) ?_
    refine va_new (ci := ciD) (fs := [.int (0), .int (0), .int (0), .null, .null, .int (0)]) (C := R_D) (T := F_D) (N := 6) hx hb hts (fun w h => List.mem_cons_of_mem _ (in_D w h)) t_D t_D_ok hown (hts (.classLink R_P 122 R_D) (List.mem_cons_of_mem _ mb_114)) (hts (.instantiable R_D 6) (List.mem_cons_of_mem _ mb_115)) (hts (.initialized R_D) (List.mem_cons_of_mem _ mb_27)) hK hP hD hS hA rfl (fun j hj => by rcases (show j = 0 ∨ j = 1 ∨ j = 2 ∨ j = 3 ∨ j = 4 ∨ j = 5 by omega) with rfl | rfl | rfl | rfl | rfl | rfl <;> rfl) (Nat.le_of_ble_eq_true rfl) (Nat.le_of_ble_eq_true rfl) d_P_draftOf_97 (fun q_97 H hP hD hS => ?_)
    have hP : va_P (dC, dI) vwCl [(q_97, .inr (ciD, [.int (0), .int (0), .int (0), .null, .null, .int (0)]))] H := hP
    have hD : va_D A [(q_97, .inr (ciD, [.int (0), .int (0), .int (0), .null, .null, .int (0)]))] := hD
    refine W.widen (k := 1) (n := 6) (by omega) (by omega) ?_
    have hPa := pw_keep hPa0 hS hAn
    have hPb := pw_keep hPb0 hS hAn
    refine lv_dup hx hb d_P_draftOf_100 rfl ?_
    refine lv_iload_n hx hb d_P_draftOf_101 rfl (lv_at hl 0 rfl) ?_
    refine lv_aload_n hx hb d_P_draftOf_102 rfl (lv_at hl 1 rfl) ?_
    refine lv_aload_n hx hb d_P_draftOf_103 rfl (lv_at hl 2 rfl) ?_
    refine lv_iconst (v := nI 0) hx hb d_P_draftOf_104 (by decide) ?_
    refine lv_aload_n hx hb d_P_draftOf_105 rfl (lv_at hl 1 rfl) ?_
    refine va_get (D := (dC, dI)) (ci := ciW) (v := .int (nI (h))) (C := R_W) (T := F_W) (N := 7) hx hb hts (fun w h => List.mem_cons_of_mem _ (in_W w h)) hown hKa hPa 0 rfl rfl 0 (by decide) (hts (.fieldLink R_P 52 "PeriodWords$Word" "headLength" "I") (List.mem_cons_of_mem _ mb_80)) (fun _ h9 => h9) rfl d_P_draftOf_106 ?_
    refine lv_aload_n hx hb d_P_draftOf_109 rfl (lv_at hl 2 rfl) ?_
    refine va_get (D := (dC, dI)) (ci := ciW) (v := .int (nI (h2))) (C := R_W) (T := F_W) (N := 7) hx hb hts (fun w h => List.mem_cons_of_mem _ (in_W w h)) hown hKb hPb 0 rfl rfl 0 (by decide) (hts (.fieldLink R_P 52 "PeriodWords$Word" "headLength" "I") (List.mem_cons_of_mem _ mb_80)) (fun _ h9 => h9) rfl d_P_draftOf_110 ?_
    refine va_mmax hx hb (hml.trans hl.1.symm) hown (hts (.methodLink R_P 127 Lib.Math.max.name) (List.mem_cons_of_mem _ mb_149)) (hts (.static Lib.Math.max.name) (List.mem_cons_of_mem _ mb_65)) (hts (.initialized "java/lang/Math") (List.mem_cons_of_mem _ mb_25)) (hts (.code Lib.Math.max.name Lib.Math.max.code 2 (some .int)) (List.mem_cons_of_mem _ mb_66)) (Nat.le_of_ble_eq_true rfl) (Nat.le_of_ble_eq_true rfl) (Nat.le_of_ble_eq_true rfl) (Nat.le_of_ble_eq_true rfl) d_P_draftOf_113 ?_
    refine pq_top (y := .int (nI (max h h2))) (by rw [pq_max (by omega) (by omega)]) ?_
    refine lv_aload_n hx hb d_P_draftOf_116 rfl (lv_at hl 1 rfl) ?_
    refine va_get (D := (dC, dI)) (ci := ciW) (v := .int (nI (pp))) (C := R_W) (T := F_W) (N := 7) hx hb hts (fun w h => List.mem_cons_of_mem _ (in_W w h)) hown hKa hPa 0 rfl rfl 2 (by decide) (hts (.fieldLink R_P 55 "PeriodWords$Word" "ringLength" "I") (List.mem_cons_of_mem _ mb_84)) (fun _ h9 => h9) rfl d_P_draftOf_117 ?_
    refine lv_aload_n hx hb d_P_draftOf_120 rfl (lv_at hl 2 rfl) ?_
    refine va_get (D := (dC, dI)) (ci := ciW) (v := .int (nI (pp2))) (C := R_W) (T := F_W) (N := 7) hx hb hts (fun w h => List.mem_cons_of_mem _ (in_W w h)) hown hKb hPb 0 rfl rfl 2 (by decide) (hts (.fieldLink R_P 55 "PeriodWords$Word" "ringLength" "I") (List.mem_cons_of_mem _ mb_84)) (fun _ h9 => h9) rfl d_P_draftOf_121 ?_
    refine vp_callSi (W.runS (As := [.int (nI (pp)), .int (nI (pp2))]) (rest := [.int (nI (max h h2)), .int (nI (0)), .ref a2, .ref a, .int (nI (0)), .ref q_97, .ref q_97]) ⟨hx, hb, hml, hown, hts⟩ (c_P_cm l dC dI hp6 hp02 hp62) (va_cwS 2 hts (gd_S mb_160 mb_161 mb_22 mb_162) rfl rfl rfl (by decide +kernel) ⟨Nat.le_of_ble_eq_true rfl, Nat.le_of_ble_eq_true rfl⟩) (pw_R_S pw_P0 (hK.sub [] rfl)) rfl rfl hl.1 rfl (lv_room (Nat.le_of_ble_eq_true rfl)) d_P_draftOf_124 ⟨Nat.le_of_ble_eq_true rfl, Nat.le_of_ble_eq_true rfl⟩) (fun r_124 hr_124 => ?_)
    subst hr_124
    have hPc := hP.sub (ws' := [(q_97, .inr (ciD, [.int (0), .int (0), .int (0), .null, .null, .int (0)]))]) [0] rfl
    have hDc := hD.sub (ws' := [(q_97, .inr (ciD, [.int (0), .int (0), .int (0), .null, .null, .int (0)]))]) [0] (by decide) rfl
    have hKc := hK.sub (tys' := []) [] rfl
    have hFc := va_free (wc := [(q_97, .inr (ciD, [.int (0), .int (0), .int (0), .null, .null, .int (0)]))]) hD hS hA [0] rfl
    refine va_callv (va_runI (As := [.int (nI (0)), .ref a, .ref a2, .int (nI (0)), .int (nI (max h h2)), .int (nI (pp / Nat.gcd pp pp2 * pp2))]) (rest := [.ref q_97]) ⟨hx, hb, hml, hown, hts⟩ (c_D_init l dC dI (dd := q_97) (hd := max h h2) (rd := pp / Nat.gcd pp pp2 * pp2) (how := 0) (late := 0) (a := a) (a2 := a2)) (cwI 6 hts (gd_I mb_118) rfl rfl rfl (hts (.initialized R_D) (List.mem_cons_of_mem _ mb_27)) (hts (.methodLink R_P 124 y_D_init) (List.mem_cons_of_mem _ mb_116)) (hts (.instanceMethod y_D_init) (List.mem_cons_of_mem _ mb_117)) rfl (by decide +kernel) ⟨Nat.le_of_ble_eq_true rfl, Nat.le_of_ble_eq_true rfl⟩) ⟨md_blind, fun U hU hW => ⟨rfl, by rw [hU], by rw [hU]; exact hPc, va_K.moved hW.alike hKc, hDc.weaken (fun _ _ _ _ => trivial)⟩⟩ rfl rfl hl.1 rfl (lv_room (Nat.le_of_ble_eq_true rfl)) d_P_draftOf_127 ⟨Nat.le_of_ble_eq_true rfl, Nat.le_of_ble_eq_true rfl⟩) hS (fun q _ h => hFc q h) hFc (fun u_127 t_ H1 locs ht_ hvm_ hr_127 hB_ hz1_ hk1_ hS => ?_)
    obtain ⟨hP1_, hK1_, hD1_⟩ := hB_
    rw [ht_] at hP1_
    obtain ⟨hP, hD⟩ := va_join (wr := []) (w1 := [(q_97, .inr (ciD, [.int (nI (max h h2)), .int (nI (pp / Nat.gcd pp pp2 * pp2)), .int (nI (0)), .ref a, .ref a2, .int (nI (0))]))]) hP hD [0] [] rfl rfl (by decide) (by decide) hk1_ hFc hP1_ hD1_
    generalize H1 = H at hP hS ⊢
    have hP : va_P (dC, dI) vwCl [(q_97, .inr (ciD, [.int (nI (max h h2)), .int (nI (pp / Nat.gcd pp pp2 * pp2)), .int (nI (0)), .ref a, .ref a2, .int (nI (0))]))] H := hP
    have hD : va_D A [(q_97, .inr (ciD, [.int (nI (max h h2)), .int (nI (pp / Nat.gcd pp pp2 * pp2)), .int (nI (0)), .ref a, .ref a2, .int (nI (0))]))] := hD
    exact W.aret (v := .ref q_97) hx hb hr (Or.inl ⟨_, rfl⟩) (Or.inr ⟨_, rfl⟩) (fun t_ ht_ hW_ => ⟨⟨(max h h2, pp / Nat.gcd pp pp2 * pp2, 0), q_97, rfl, ⟨(show dr_ok 0 f f2 (max h h2) (pp / Nat.gcd pp pp2 * pp2) (0) from ⟨by omega, by omega, (pw_lcm hp0 hp02).1, by decide, pw_E_joinC (by omega) hE hp0 hE2 hp02⟩), fun q => absurd q (by omega)⟩, by rw [ht_]; exact hP, va_K.moved hW_.alike (hK.sub [] rfl), hD⟩, hS.F ht_⟩) hS.2.2 d_P_draftOf_130
  · refine lv_tableOut (tgt := 97) hx hb d_P_draftOf_1 (Or.inl (by decide)) (by decide) ?_
    refine va_new (ci := ciD) (fs := [.int (0), .int (0), .int (0), .null, .null, .int (0)]) (C := R_D) (T := F_D) (N := 6) hx hb hts (fun w h => List.mem_cons_of_mem _ (in_D w h)) t_D t_D_ok hown (hts (.classLink R_P 122 R_D) (List.mem_cons_of_mem _ mb_114)) (hts (.instantiable R_D 6) (List.mem_cons_of_mem _ mb_115)) (hts (.initialized R_D) (List.mem_cons_of_mem _ mb_27)) hK hP hD hS hA rfl (fun j hj => by rcases (show j = 0 ∨ j = 1 ∨ j = 2 ∨ j = 3 ∨ j = 4 ∨ j = 5 by omega) with rfl | rfl | rfl | rfl | rfl | rfl <;> rfl) (Nat.le_of_ble_eq_true rfl) (Nat.le_of_ble_eq_true rfl) d_P_draftOf_97 (fun q_97 H hP hD hS => ?_)
    have hP : va_P (dC, dI) vwCl [(q_97, .inr (ciD, [.int (0), .int (0), .int (0), .null, .null, .int (0)]))] H := hP
    have hD : va_D A [(q_97, .inr (ciD, [.int (0), .int (0), .int (0), .null, .null, .int (0)]))] := hD
    refine W.widen (k := 1) (n := 6) (by omega) (by omega) ?_
    have hPa := pw_keep hPa0 hS hAn
    have hPb := pw_keep hPb0 hS hAn
    refine lv_dup hx hb d_P_draftOf_100 rfl ?_
    refine lv_iload_n hx hb d_P_draftOf_101 rfl (lv_at hl 0 rfl) ?_
    refine lv_aload_n hx hb d_P_draftOf_102 rfl (lv_at hl 1 rfl) ?_
    refine lv_aload_n hx hb d_P_draftOf_103 rfl (lv_at hl 2 rfl) ?_
    refine lv_iconst (v := nI 0) hx hb d_P_draftOf_104 (by decide) ?_
    refine lv_aload_n hx hb d_P_draftOf_105 rfl (lv_at hl 1 rfl) ?_
    refine va_get (D := (dC, dI)) (ci := ciW) (v := .int (nI (h))) (C := R_W) (T := F_W) (N := 7) hx hb hts (fun w h => List.mem_cons_of_mem _ (in_W w h)) hown hKa hPa 0 rfl rfl 0 (by decide) (hts (.fieldLink R_P 52 "PeriodWords$Word" "headLength" "I") (List.mem_cons_of_mem _ mb_80)) (fun _ h9 => h9) rfl d_P_draftOf_106 ?_
    refine lv_aload_n hx hb d_P_draftOf_109 rfl (lv_at hl 2 rfl) ?_
    refine va_get (D := (dC, dI)) (ci := ciW) (v := .int (nI (h2))) (C := R_W) (T := F_W) (N := 7) hx hb hts (fun w h => List.mem_cons_of_mem _ (in_W w h)) hown hKb hPb 0 rfl rfl 0 (by decide) (hts (.fieldLink R_P 52 "PeriodWords$Word" "headLength" "I") (List.mem_cons_of_mem _ mb_80)) (fun _ h9 => h9) rfl d_P_draftOf_110 ?_
    refine va_mmax hx hb (hml.trans hl.1.symm) hown (hts (.methodLink R_P 127 Lib.Math.max.name) (List.mem_cons_of_mem _ mb_149)) (hts (.static Lib.Math.max.name) (List.mem_cons_of_mem _ mb_65)) (hts (.initialized "java/lang/Math") (List.mem_cons_of_mem _ mb_25)) (hts (.code Lib.Math.max.name Lib.Math.max.code 2 (some .int)) (List.mem_cons_of_mem _ mb_66)) (Nat.le_of_ble_eq_true rfl) (Nat.le_of_ble_eq_true rfl) (Nat.le_of_ble_eq_true rfl) (Nat.le_of_ble_eq_true rfl) d_P_draftOf_113 ?_
    refine pq_top (y := .int (nI (max h h2))) (by rw [pq_max (by omega) (by omega)]) ?_
    refine lv_aload_n hx hb d_P_draftOf_116 rfl (lv_at hl 1 rfl) ?_
    refine va_get (D := (dC, dI)) (ci := ciW) (v := .int (nI (pp))) (C := R_W) (T := F_W) (N := 7) hx hb hts (fun w h => List.mem_cons_of_mem _ (in_W w h)) hown hKa hPa 0 rfl rfl 2 (by decide) (hts (.fieldLink R_P 55 "PeriodWords$Word" "ringLength" "I") (List.mem_cons_of_mem _ mb_84)) (fun _ h9 => h9) rfl d_P_draftOf_117 ?_
    refine lv_aload_n hx hb d_P_draftOf_120 rfl (lv_at hl 2 rfl) ?_
    refine va_get (D := (dC, dI)) (ci := ciW) (v := .int (nI (pp2))) (C := R_W) (T := F_W) (N := 7) hx hb hts (fun w h => List.mem_cons_of_mem _ (in_W w h)) hown hKb hPb 0 rfl rfl 2 (by decide) (hts (.fieldLink R_P 55 "PeriodWords$Word" "ringLength" "I") (List.mem_cons_of_mem _ mb_84)) (fun _ h9 => h9) rfl d_P_draftOf_121 ?_
    refine vp_callSi (W.runS (As := [.int (nI (pp)), .int (nI (pp2))]) (rest := [.int (nI (max h h2)), .int (nI (0)), .ref a2, .ref a, .int (nI (1)), .ref q_97, .ref q_97]) ⟨hx, hb, hml, hown, hts⟩ (c_P_cm l dC dI hp6 hp02 hp62) (va_cwS 2 hts (gd_S mb_160 mb_161 mb_22 mb_162) rfl rfl rfl (by decide +kernel) ⟨Nat.le_of_ble_eq_true rfl, Nat.le_of_ble_eq_true rfl⟩) (pw_R_S pw_P0 (hK.sub [] rfl)) rfl rfl hl.1 rfl (lv_room (Nat.le_of_ble_eq_true rfl)) d_P_draftOf_124 ⟨Nat.le_of_ble_eq_true rfl, Nat.le_of_ble_eq_true rfl⟩) (fun r_124 hr_124 => ?_)
    subst hr_124
    have hPc := hP.sub (ws' := [(q_97, .inr (ciD, [.int (0), .int (0), .int (0), .null, .null, .int (0)]))]) [0] rfl
    have hDc := hD.sub (ws' := [(q_97, .inr (ciD, [.int (0), .int (0), .int (0), .null, .null, .int (0)]))]) [0] (by decide) rfl
    have hKc := hK.sub (tys' := []) [] rfl
    have hFc := va_free (wc := [(q_97, .inr (ciD, [.int (0), .int (0), .int (0), .null, .null, .int (0)]))]) hD hS hA [0] rfl
    refine va_callv (va_runI (As := [.int (nI (1)), .ref a, .ref a2, .int (nI (0)), .int (nI (max h h2)), .int (nI (pp / Nat.gcd pp pp2 * pp2))]) (rest := [.ref q_97]) ⟨hx, hb, hml, hown, hts⟩ (c_D_init l dC dI (dd := q_97) (hd := max h h2) (rd := pp / Nat.gcd pp pp2 * pp2) (how := 1) (late := 0) (a := a) (a2 := a2)) (cwI 6 hts (gd_I mb_118) rfl rfl rfl (hts (.initialized R_D) (List.mem_cons_of_mem _ mb_27)) (hts (.methodLink R_P 124 y_D_init) (List.mem_cons_of_mem _ mb_116)) (hts (.instanceMethod y_D_init) (List.mem_cons_of_mem _ mb_117)) rfl (by decide +kernel) ⟨Nat.le_of_ble_eq_true rfl, Nat.le_of_ble_eq_true rfl⟩) ⟨md_blind, fun U hU hW => ⟨rfl, by rw [hU], by rw [hU]; exact hPc, va_K.moved hW.alike hKc, hDc.weaken (fun _ _ _ _ => trivial)⟩⟩ rfl rfl hl.1 rfl (lv_room (Nat.le_of_ble_eq_true rfl)) d_P_draftOf_127 ⟨Nat.le_of_ble_eq_true rfl, Nat.le_of_ble_eq_true rfl⟩) hS (fun q _ h => hFc q h) hFc (fun u_127 t_ H1 locs ht_ hvm_ hr_127 hB_ hz1_ hk1_ hS => ?_)
    obtain ⟨hP1_, hK1_, hD1_⟩ := hB_
    rw [ht_] at hP1_
    obtain ⟨hP, hD⟩ := va_join (wr := []) (w1 := [(q_97, .inr (ciD, [.int (nI (max h h2)), .int (nI (pp / Nat.gcd pp pp2 * pp2)), .int (nI (1)), .ref a, .ref a2, .int (nI (0))]))]) hP hD [0] [] rfl rfl (by decide) (by decide) hk1_ hFc hP1_ hD1_
    generalize H1 = H at hP hS ⊢
    have hP : va_P (dC, dI) vwCl [(q_97, .inr (ciD, [.int (nI (max h h2)), .int (nI (pp / Nat.gcd pp pp2 * pp2)), .int (nI (1)), .ref a, .ref a2, .int (nI (0))]))] H := hP
    have hD : va_D A [(q_97, .inr (ciD, [.int (nI (max h h2)), .int (nI (pp / Nat.gcd pp pp2 * pp2)), .int (nI (1)), .ref a, .ref a2, .int (nI (0))]))] := hD
    exact W.aret (v := .ref q_97) hx hb hr (Or.inl ⟨_, rfl⟩) (Or.inr ⟨_, rfl⟩) (fun t_ ht_ hW_ => ⟨⟨(max h h2, pp / Nat.gcd pp pp2 * pp2, 0), q_97, rfl, ⟨(show dr_ok 1 f f2 (max h h2) (pp / Nat.gcd pp pp2 * pp2) (0) from ⟨by omega, by omega, (pw_lcm hp0 hp02).1, by decide, pw_E_joinC (by omega) hE hp0 hE2 hp02⟩), fun q => absurd q (by omega)⟩, by rw [ht_]; exact hP, va_K.moved hW_.alike (hK.sub [] rfl), hD⟩, hS.F ht_⟩) hS.2.2 d_P_draftOf_130
  · refine lv_tableOut (tgt := 97) hx hb d_P_draftOf_1 (Or.inl (by decide)) (by decide) ?_
    refine va_new (ci := ciD) (fs := [.int (0), .int (0), .int (0), .null, .null, .int (0)]) (C := R_D) (T := F_D) (N := 6) hx hb hts (fun w h => List.mem_cons_of_mem _ (in_D w h)) t_D t_D_ok hown (hts (.classLink R_P 122 R_D) (List.mem_cons_of_mem _ mb_114)) (hts (.instantiable R_D 6) (List.mem_cons_of_mem _ mb_115)) (hts (.initialized R_D) (List.mem_cons_of_mem _ mb_27)) hK hP hD hS hA rfl (fun j hj => by rcases (show j = 0 ∨ j = 1 ∨ j = 2 ∨ j = 3 ∨ j = 4 ∨ j = 5 by omega) with rfl | rfl | rfl | rfl | rfl | rfl <;> rfl) (Nat.le_of_ble_eq_true rfl) (Nat.le_of_ble_eq_true rfl) d_P_draftOf_97 (fun q_97 H hP hD hS => ?_)
    have hP : va_P (dC, dI) vwCl [(q_97, .inr (ciD, [.int (0), .int (0), .int (0), .null, .null, .int (0)]))] H := hP
    have hD : va_D A [(q_97, .inr (ciD, [.int (0), .int (0), .int (0), .null, .null, .int (0)]))] := hD
    refine W.widen (k := 1) (n := 6) (by omega) (by omega) ?_
    have hPa := pw_keep hPa0 hS hAn
    have hPb := pw_keep hPb0 hS hAn
    refine lv_dup hx hb d_P_draftOf_100 rfl ?_
    refine lv_iload_n hx hb d_P_draftOf_101 rfl (lv_at hl 0 rfl) ?_
    refine lv_aload_n hx hb d_P_draftOf_102 rfl (lv_at hl 1 rfl) ?_
    refine lv_aload_n hx hb d_P_draftOf_103 rfl (lv_at hl 2 rfl) ?_
    refine lv_iconst (v := nI 0) hx hb d_P_draftOf_104 (by decide) ?_
    refine lv_aload_n hx hb d_P_draftOf_105 rfl (lv_at hl 1 rfl) ?_
    refine va_get (D := (dC, dI)) (ci := ciW) (v := .int (nI (h))) (C := R_W) (T := F_W) (N := 7) hx hb hts (fun w h => List.mem_cons_of_mem _ (in_W w h)) hown hKa hPa 0 rfl rfl 0 (by decide) (hts (.fieldLink R_P 52 "PeriodWords$Word" "headLength" "I") (List.mem_cons_of_mem _ mb_80)) (fun _ h9 => h9) rfl d_P_draftOf_106 ?_
    refine lv_aload_n hx hb d_P_draftOf_109 rfl (lv_at hl 2 rfl) ?_
    refine va_get (D := (dC, dI)) (ci := ciW) (v := .int (nI (h2))) (C := R_W) (T := F_W) (N := 7) hx hb hts (fun w h => List.mem_cons_of_mem _ (in_W w h)) hown hKb hPb 0 rfl rfl 0 (by decide) (hts (.fieldLink R_P 52 "PeriodWords$Word" "headLength" "I") (List.mem_cons_of_mem _ mb_80)) (fun _ h9 => h9) rfl d_P_draftOf_110 ?_
    refine va_mmax hx hb (hml.trans hl.1.symm) hown (hts (.methodLink R_P 127 Lib.Math.max.name) (List.mem_cons_of_mem _ mb_149)) (hts (.static Lib.Math.max.name) (List.mem_cons_of_mem _ mb_65)) (hts (.initialized "java/lang/Math") (List.mem_cons_of_mem _ mb_25)) (hts (.code Lib.Math.max.name Lib.Math.max.code 2 (some .int)) (List.mem_cons_of_mem _ mb_66)) (Nat.le_of_ble_eq_true rfl) (Nat.le_of_ble_eq_true rfl) (Nat.le_of_ble_eq_true rfl) (Nat.le_of_ble_eq_true rfl) d_P_draftOf_113 ?_
    refine pq_top (y := .int (nI (max h h2))) (by rw [pq_max (by omega) (by omega)]) ?_
    refine lv_aload_n hx hb d_P_draftOf_116 rfl (lv_at hl 1 rfl) ?_
    refine va_get (D := (dC, dI)) (ci := ciW) (v := .int (nI (pp))) (C := R_W) (T := F_W) (N := 7) hx hb hts (fun w h => List.mem_cons_of_mem _ (in_W w h)) hown hKa hPa 0 rfl rfl 2 (by decide) (hts (.fieldLink R_P 55 "PeriodWords$Word" "ringLength" "I") (List.mem_cons_of_mem _ mb_84)) (fun _ h9 => h9) rfl d_P_draftOf_117 ?_
    refine lv_aload_n hx hb d_P_draftOf_120 rfl (lv_at hl 2 rfl) ?_
    refine va_get (D := (dC, dI)) (ci := ciW) (v := .int (nI (pp2))) (C := R_W) (T := F_W) (N := 7) hx hb hts (fun w h => List.mem_cons_of_mem _ (in_W w h)) hown hKb hPb 0 rfl rfl 2 (by decide) (hts (.fieldLink R_P 55 "PeriodWords$Word" "ringLength" "I") (List.mem_cons_of_mem _ mb_84)) (fun _ h9 => h9) rfl d_P_draftOf_121 ?_
    refine vp_callSi (W.runS (As := [.int (nI (pp)), .int (nI (pp2))]) (rest := [.int (nI (max h h2)), .int (nI (0)), .ref a2, .ref a, .int (nI (2)), .ref q_97, .ref q_97]) ⟨hx, hb, hml, hown, hts⟩ (c_P_cm l dC dI hp6 hp02 hp62) (va_cwS 2 hts (gd_S mb_160 mb_161 mb_22 mb_162) rfl rfl rfl (by decide +kernel) ⟨Nat.le_of_ble_eq_true rfl, Nat.le_of_ble_eq_true rfl⟩) (pw_R_S pw_P0 (hK.sub [] rfl)) rfl rfl hl.1 rfl (lv_room (Nat.le_of_ble_eq_true rfl)) d_P_draftOf_124 ⟨Nat.le_of_ble_eq_true rfl, Nat.le_of_ble_eq_true rfl⟩) (fun r_124 hr_124 => ?_)
    subst hr_124
    have hPc := hP.sub (ws' := [(q_97, .inr (ciD, [.int (0), .int (0), .int (0), .null, .null, .int (0)]))]) [0] rfl
    have hDc := hD.sub (ws' := [(q_97, .inr (ciD, [.int (0), .int (0), .int (0), .null, .null, .int (0)]))]) [0] (by decide) rfl
    have hKc := hK.sub (tys' := []) [] rfl
    have hFc := va_free (wc := [(q_97, .inr (ciD, [.int (0), .int (0), .int (0), .null, .null, .int (0)]))]) hD hS hA [0] rfl
    refine va_callv (va_runI (As := [.int (nI (2)), .ref a, .ref a2, .int (nI (0)), .int (nI (max h h2)), .int (nI (pp / Nat.gcd pp pp2 * pp2))]) (rest := [.ref q_97]) ⟨hx, hb, hml, hown, hts⟩ (c_D_init l dC dI (dd := q_97) (hd := max h h2) (rd := pp / Nat.gcd pp pp2 * pp2) (how := 2) (late := 0) (a := a) (a2 := a2)) (cwI 6 hts (gd_I mb_118) rfl rfl rfl (hts (.initialized R_D) (List.mem_cons_of_mem _ mb_27)) (hts (.methodLink R_P 124 y_D_init) (List.mem_cons_of_mem _ mb_116)) (hts (.instanceMethod y_D_init) (List.mem_cons_of_mem _ mb_117)) rfl (by decide +kernel) ⟨Nat.le_of_ble_eq_true rfl, Nat.le_of_ble_eq_true rfl⟩) ⟨md_blind, fun U hU hW => ⟨rfl, by rw [hU], by rw [hU]; exact hPc, va_K.moved hW.alike hKc, hDc.weaken (fun _ _ _ _ => trivial)⟩⟩ rfl rfl hl.1 rfl (lv_room (Nat.le_of_ble_eq_true rfl)) d_P_draftOf_127 ⟨Nat.le_of_ble_eq_true rfl, Nat.le_of_ble_eq_true rfl⟩) hS (fun q _ h => hFc q h) hFc (fun u_127 t_ H1 locs ht_ hvm_ hr_127 hB_ hz1_ hk1_ hS => ?_)
    obtain ⟨hP1_, hK1_, hD1_⟩ := hB_
    rw [ht_] at hP1_
    obtain ⟨hP, hD⟩ := va_join (wr := []) (w1 := [(q_97, .inr (ciD, [.int (nI (max h h2)), .int (nI (pp / Nat.gcd pp pp2 * pp2)), .int (nI (2)), .ref a, .ref a2, .int (nI (0))]))]) hP hD [0] [] rfl rfl (by decide) (by decide) hk1_ hFc hP1_ hD1_
    generalize H1 = H at hP hS ⊢
    have hP : va_P (dC, dI) vwCl [(q_97, .inr (ciD, [.int (nI (max h h2)), .int (nI (pp / Nat.gcd pp pp2 * pp2)), .int (nI (2)), .ref a, .ref a2, .int (nI (0))]))] H := hP
    have hD : va_D A [(q_97, .inr (ciD, [.int (nI (max h h2)), .int (nI (pp / Nat.gcd pp pp2 * pp2)), .int (nI (2)), .ref a, .ref a2, .int (nI (0))]))] := hD
    exact W.aret (v := .ref q_97) hx hb hr (Or.inl ⟨_, rfl⟩) (Or.inr ⟨_, rfl⟩) (fun t_ ht_ hW_ => ⟨⟨(max h h2, pp / Nat.gcd pp pp2 * pp2, 0), q_97, rfl, ⟨(show dr_ok 2 f f2 (max h h2) (pp / Nat.gcd pp pp2 * pp2) (0) from ⟨by omega, by omega, (pw_lcm hp0 hp02).1, by decide, pw_E_joinC (by omega) hE hp0 hE2 hp02⟩), fun q => absurd q (by omega)⟩, by rw [ht_]; exact hP, va_K.moved hW_.alike (hK.sub [] rfl), hD⟩, hS.F ht_⟩) hS.2.2 d_P_draftOf_130
  · refine lv_tableOut (tgt := 97) hx hb d_P_draftOf_1 (Or.inl (by decide)) (by decide) ?_
    refine va_new (ci := ciD) (fs := [.int (0), .int (0), .int (0), .null, .null, .int (0)]) (C := R_D) (T := F_D) (N := 6) hx hb hts (fun w h => List.mem_cons_of_mem _ (in_D w h)) t_D t_D_ok hown (hts (.classLink R_P 122 R_D) (List.mem_cons_of_mem _ mb_114)) (hts (.instantiable R_D 6) (List.mem_cons_of_mem _ mb_115)) (hts (.initialized R_D) (List.mem_cons_of_mem _ mb_27)) hK hP hD hS hA rfl (fun j hj => by rcases (show j = 0 ∨ j = 1 ∨ j = 2 ∨ j = 3 ∨ j = 4 ∨ j = 5 by omega) with rfl | rfl | rfl | rfl | rfl | rfl <;> rfl) (Nat.le_of_ble_eq_true rfl) (Nat.le_of_ble_eq_true rfl) d_P_draftOf_97 (fun q_97 H hP hD hS => ?_)
    have hP : va_P (dC, dI) vwCl [(q_97, .inr (ciD, [.int (0), .int (0), .int (0), .null, .null, .int (0)]))] H := hP
    have hD : va_D A [(q_97, .inr (ciD, [.int (0), .int (0), .int (0), .null, .null, .int (0)]))] := hD
    refine W.widen (k := 1) (n := 6) (by omega) (by omega) ?_
    have hPa := pw_keep hPa0 hS hAn
    have hPb := pw_keep hPb0 hS hAn
    refine lv_dup hx hb d_P_draftOf_100 rfl ?_
    refine lv_iload_n hx hb d_P_draftOf_101 rfl (lv_at hl 0 rfl) ?_
    refine lv_aload_n hx hb d_P_draftOf_102 rfl (lv_at hl 1 rfl) ?_
    refine lv_aload_n hx hb d_P_draftOf_103 rfl (lv_at hl 2 rfl) ?_
    refine lv_iconst (v := nI 0) hx hb d_P_draftOf_104 (by decide) ?_
    refine lv_aload_n hx hb d_P_draftOf_105 rfl (lv_at hl 1 rfl) ?_
    refine va_get (D := (dC, dI)) (ci := ciW) (v := .int (nI (h))) (C := R_W) (T := F_W) (N := 7) hx hb hts (fun w h => List.mem_cons_of_mem _ (in_W w h)) hown hKa hPa 0 rfl rfl 0 (by decide) (hts (.fieldLink R_P 52 "PeriodWords$Word" "headLength" "I") (List.mem_cons_of_mem _ mb_80)) (fun _ h9 => h9) rfl d_P_draftOf_106 ?_
    refine lv_aload_n hx hb d_P_draftOf_109 rfl (lv_at hl 2 rfl) ?_
    refine va_get (D := (dC, dI)) (ci := ciW) (v := .int (nI (h2))) (C := R_W) (T := F_W) (N := 7) hx hb hts (fun w h => List.mem_cons_of_mem _ (in_W w h)) hown hKb hPb 0 rfl rfl 0 (by decide) (hts (.fieldLink R_P 52 "PeriodWords$Word" "headLength" "I") (List.mem_cons_of_mem _ mb_80)) (fun _ h9 => h9) rfl d_P_draftOf_110 ?_
    refine va_mmax hx hb (hml.trans hl.1.symm) hown (hts (.methodLink R_P 127 Lib.Math.max.name) (List.mem_cons_of_mem _ mb_149)) (hts (.static Lib.Math.max.name) (List.mem_cons_of_mem _ mb_65)) (hts (.initialized "java/lang/Math") (List.mem_cons_of_mem _ mb_25)) (hts (.code Lib.Math.max.name Lib.Math.max.code 2 (some .int)) (List.mem_cons_of_mem _ mb_66)) (Nat.le_of_ble_eq_true rfl) (Nat.le_of_ble_eq_true rfl) (Nat.le_of_ble_eq_true rfl) (Nat.le_of_ble_eq_true rfl) d_P_draftOf_113 ?_
    refine pq_top (y := .int (nI (max h h2))) (by rw [pq_max (by omega) (by omega)]) ?_
    refine lv_aload_n hx hb d_P_draftOf_116 rfl (lv_at hl 1 rfl) ?_
    refine va_get (D := (dC, dI)) (ci := ciW) (v := .int (nI (pp))) (C := R_W) (T := F_W) (N := 7) hx hb hts (fun w h => List.mem_cons_of_mem _ (in_W w h)) hown hKa hPa 0 rfl rfl 2 (by decide) (hts (.fieldLink R_P 55 "PeriodWords$Word" "ringLength" "I") (List.mem_cons_of_mem _ mb_84)) (fun _ h9 => h9) rfl d_P_draftOf_117 ?_
    refine lv_aload_n hx hb d_P_draftOf_120 rfl (lv_at hl 2 rfl) ?_
    refine va_get (D := (dC, dI)) (ci := ciW) (v := .int (nI (pp2))) (C := R_W) (T := F_W) (N := 7) hx hb hts (fun w h => List.mem_cons_of_mem _ (in_W w h)) hown hKb hPb 0 rfl rfl 2 (by decide) (hts (.fieldLink R_P 55 "PeriodWords$Word" "ringLength" "I") (List.mem_cons_of_mem _ mb_84)) (fun _ h9 => h9) rfl d_P_draftOf_121 ?_
    refine vp_callSi (W.runS (As := [.int (nI (pp)), .int (nI (pp2))]) (rest := [.int (nI (max h h2)), .int (nI (0)), .ref a2, .ref a, .int (nI (3)), .ref q_97, .ref q_97]) ⟨hx, hb, hml, hown, hts⟩ (c_P_cm l dC dI hp6 hp02 hp62) (va_cwS 2 hts (gd_S mb_160 mb_161 mb_22 mb_162) rfl rfl rfl (by decide +kernel) ⟨Nat.le_of_ble_eq_true rfl, Nat.le_of_ble_eq_true rfl⟩) (pw_R_S pw_P0 (hK.sub [] rfl)) rfl rfl hl.1 rfl (lv_room (Nat.le_of_ble_eq_true rfl)) d_P_draftOf_124 ⟨Nat.le_of_ble_eq_true rfl, Nat.le_of_ble_eq_true rfl⟩) (fun r_124 hr_124 => ?_)
    subst hr_124
    have hPc := hP.sub (ws' := [(q_97, .inr (ciD, [.int (0), .int (0), .int (0), .null, .null, .int (0)]))]) [0] rfl
    have hDc := hD.sub (ws' := [(q_97, .inr (ciD, [.int (0), .int (0), .int (0), .null, .null, .int (0)]))]) [0] (by decide) rfl
    have hKc := hK.sub (tys' := []) [] rfl
    have hFc := va_free (wc := [(q_97, .inr (ciD, [.int (0), .int (0), .int (0), .null, .null, .int (0)]))]) hD hS hA [0] rfl
    refine va_callv (va_runI (As := [.int (nI (3)), .ref a, .ref a2, .int (nI (0)), .int (nI (max h h2)), .int (nI (pp / Nat.gcd pp pp2 * pp2))]) (rest := [.ref q_97]) ⟨hx, hb, hml, hown, hts⟩ (c_D_init l dC dI (dd := q_97) (hd := max h h2) (rd := pp / Nat.gcd pp pp2 * pp2) (how := 3) (late := 0) (a := a) (a2 := a2)) (cwI 6 hts (gd_I mb_118) rfl rfl rfl (hts (.initialized R_D) (List.mem_cons_of_mem _ mb_27)) (hts (.methodLink R_P 124 y_D_init) (List.mem_cons_of_mem _ mb_116)) (hts (.instanceMethod y_D_init) (List.mem_cons_of_mem _ mb_117)) rfl (by decide +kernel) ⟨Nat.le_of_ble_eq_true rfl, Nat.le_of_ble_eq_true rfl⟩) ⟨md_blind, fun U hU hW => ⟨rfl, by rw [hU], by rw [hU]; exact hPc, va_K.moved hW.alike hKc, hDc.weaken (fun _ _ _ _ => trivial)⟩⟩ rfl rfl hl.1 rfl (lv_room (Nat.le_of_ble_eq_true rfl)) d_P_draftOf_127 ⟨Nat.le_of_ble_eq_true rfl, Nat.le_of_ble_eq_true rfl⟩) hS (fun q _ h => hFc q h) hFc (fun u_127 t_ H1 locs ht_ hvm_ hr_127 hB_ hz1_ hk1_ hS => ?_)
    obtain ⟨hP1_, hK1_, hD1_⟩ := hB_
    rw [ht_] at hP1_
    obtain ⟨hP, hD⟩ := va_join (wr := []) (w1 := [(q_97, .inr (ciD, [.int (nI (max h h2)), .int (nI (pp / Nat.gcd pp pp2 * pp2)), .int (nI (3)), .ref a, .ref a2, .int (nI (0))]))]) hP hD [0] [] rfl rfl (by decide) (by decide) hk1_ hFc hP1_ hD1_
    generalize H1 = H at hP hS ⊢
    have hP : va_P (dC, dI) vwCl [(q_97, .inr (ciD, [.int (nI (max h h2)), .int (nI (pp / Nat.gcd pp pp2 * pp2)), .int (nI (3)), .ref a, .ref a2, .int (nI (0))]))] H := hP
    have hD : va_D A [(q_97, .inr (ciD, [.int (nI (max h h2)), .int (nI (pp / Nat.gcd pp pp2 * pp2)), .int (nI (3)), .ref a, .ref a2, .int (nI (0))]))] := hD
    exact W.aret (v := .ref q_97) hx hb hr (Or.inl ⟨_, rfl⟩) (Or.inr ⟨_, rfl⟩) (fun t_ ht_ hW_ => ⟨⟨(max h h2, pp / Nat.gcd pp pp2 * pp2, 0), q_97, rfl, ⟨(show dr_ok 3 f f2 (max h h2) (pp / Nat.gcd pp pp2 * pp2) (0) from ⟨by omega, by omega, (pw_lcm hp0 hp02).1, by decide, pw_E_joinC (by omega) hE hp0 hE2 hp02⟩), fun q => absurd q (by omega)⟩, by rw [ht_]; exact hP, va_K.moved hW_.alike (hK.sub [] rfl), hD⟩, hS.F ht_⟩) hS.2.2 d_P_draftOf_130
  · refine lv_tableIn (tgt := 32) hx hb d_P_draftOf_1 (by decide) (by decide) rfl (by decide) ?_
    refine lv_aload_n hx hb d_P_draftOf_32 rfl (lv_at hl 1 rfl) ?_
    refine lv_aload_n hx hb d_P_draftOf_33 rfl (lv_at hl 2 rfl) ?_
    have hPc := hP.sub (ws' := []) [] rfl
    have hDc := hD.sub (ws' := []) [] (by decide) rfl
    have hKc := hK.sub (tys' := [(cA, .int), (cA2, .int)]) [0, 1] rfl
    have hFc := va_free (wc := []) hD hS hA [] rfl
    refine va_callr (va_runS (As := [.ref a, .ref a2]) (rest := []) ⟨hx, hb, hml, hown, hts⟩ (c_P_draftOn l dC dI hw hw2 hpl) (va_cwS 2 hts (gd_S mb_111 mb_112 mb_22 mb_113) rfl rfl rfl (by decide +kernel) ⟨Nat.le_of_ble_eq_true rfl, Nat.le_of_ble_eq_true rfl⟩) ⟨dr_blind, fun U hU hW => ⟨rfl, by rw [hU], by rw [hU]; exact (hPa.app hPb), va_K.moved hW.alike (hKa.app hKb)⟩⟩ rfl rfl hl.1 rfl (lv_room (Nat.le_of_ble_eq_true rfl)) d_P_draftOf_34 ⟨Nat.le_of_ble_eq_true rfl, Nat.le_of_ble_eq_true rfl⟩) hS (fun q _ h => hFc q h) hFc (fun u_34 r_34 t_ H1 locs ht_ hvm_ hr_34 hB_ hz1_ hk1_ hS => ?_)
    obtain ⟨hP1_, hK1_, hD1_⟩ := hB_
    rw [ht_] at hP1_
    exact W.aret (v := .ref r_34) hx hb hr (Or.inl ⟨_, rfl⟩) (Or.inr ⟨_, rfl⟩) (fun t_2 ht_2 hW_2 => ⟨⟨u_34, r_34, rfl, ⟨hr_34, fun q => absurd q (by omega)⟩, by rw [ht_2]; exact hP1_, va_K.moved hW_2.alike (hK.sub [] rfl), hD1_.weaken (fun k q _ h => hFc q.1 h)⟩, hS.F ht_2⟩) hS.2.2 d_P_draftOf_37
  · refine lv_tableIn (tgt := 38) hx hb d_P_draftOf_1 (by decide) (by decide) rfl (by decide) ?_
    refine lv_aload_n hx hb d_P_draftOf_38 rfl (lv_at hl 1 rfl) ?_
    refine lv_aload_n hx hb d_P_draftOf_39 rfl (lv_at hl 2 rfl) ?_
    have hPc := hP.sub (ws' := []) [] rfl
    have hDc := hD.sub (ws' := []) [] (by decide) rfl
    have hKc := hK.sub (tys' := [(cA, .int), (cA2, .int)]) [0, 1] rfl
    have hFc := va_free (wc := []) hD hS hA [] rfl
    refine va_callr (va_runS (As := [.ref a, .ref a2]) (rest := []) ⟨hx, hb, hml, hown, hts⟩ (c_P_draftBy l dC dI hw hw2 (hob rfl)) (va_cwS 2 hts (gd_S mb_153 mb_154 mb_22 mb_155) rfl rfl rfl (by decide +kernel) ⟨Nat.le_of_ble_eq_true rfl, Nat.le_of_ble_eq_true rfl⟩) ⟨dr_blind, fun U hU hW => ⟨rfl, by rw [hU], by rw [hU]; exact (hPa.app hPb), va_K.moved hW.alike (hKa.app hKb)⟩⟩ rfl rfl hl.1 rfl (lv_room (Nat.le_of_ble_eq_true rfl)) d_P_draftOf_40 ⟨Nat.le_of_ble_eq_true rfl, Nat.le_of_ble_eq_true rfl⟩) hS (fun q _ h => hFc q h) hFc (fun u_40 r_40 t_ H1 locs ht_ hvm_ hr_40 hB_ hz1_ hk1_ hS => ?_)
    obtain ⟨hP1_, hK1_, hD1_⟩ := hB_
    rw [ht_] at hP1_
    exact W.aret (v := .ref r_40) hx hb hr (Or.inl ⟨_, rfl⟩) (Or.inr ⟨_, rfl⟩) (fun t_2 ht_2 hW_2 => ⟨⟨u_40, r_40, rfl, ⟨hr_40, fun q => absurd q (by omega)⟩, by rw [ht_2]; exact hP1_, va_K.moved hW_2.alike (hK.sub [] rfl), hD1_.weaken (fun k q _ h => hFc q.1 h)⟩, hS.F ht_2⟩) hS.2.2 d_P_draftOf_43
  · refine lv_tableIn (tgt := 67) hx hb d_P_draftOf_1 (by decide) (by decide) rfl (by decide) ?_
    refine va_new (ci := ciD) (fs := [.int (0), .int (0), .int (0), .null, .null, .int (0)]) (C := R_D) (T := F_D) (N := 6) hx hb hts (fun w h => List.mem_cons_of_mem _ (in_D w h)) t_D t_D_ok hown (hts (.classLink R_P 122 R_D) (List.mem_cons_of_mem _ mb_114)) (hts (.instantiable R_D 6) (List.mem_cons_of_mem _ mb_115)) (hts (.initialized R_D) (List.mem_cons_of_mem _ mb_27)) hK hP hD hS hA rfl (fun j hj => by rcases (show j = 0 ∨ j = 1 ∨ j = 2 ∨ j = 3 ∨ j = 4 ∨ j = 5 by omega) with rfl | rfl | rfl | rfl | rfl | rfl <;> rfl) (Nat.le_of_ble_eq_true rfl) (Nat.le_of_ble_eq_true rfl) d_P_draftOf_67 (fun q_67 H hP hD hS => ?_)
    have hP : va_P (dC, dI) vwCl [(q_67, .inr (ciD, [.int (0), .int (0), .int (0), .null, .null, .int (0)]))] H := hP
    have hD : va_D A [(q_67, .inr (ciD, [.int (0), .int (0), .int (0), .null, .null, .int (0)]))] := hD
    refine W.widen (k := 1) (n := 6) (by omega) (by omega) ?_
    have hPa := pw_keep hPa0 hS hAn
    have hPb := pw_keep hPb0 hS hAn
    refine lv_dup hx hb d_P_draftOf_70 rfl ?_
    refine lv_bipush (v := nI 7) hx hb d_P_draftOf_71 (by decide) ?_
    refine lv_aload_n hx hb d_P_draftOf_73 rfl (lv_at hl 1 rfl) ?_
    refine lv_aload_n hx hb d_P_draftOf_74 rfl (lv_at hl 2 rfl) ?_
    refine lv_iconst (v := nI 0) hx hb d_P_draftOf_75 (by decide) ?_
    refine lv_aload_n hx hb d_P_draftOf_76 rfl (lv_at hl 1 rfl) ?_
    refine va_get (D := (dC, dI)) (ci := ciW) (v := .int (nI (h))) (C := R_W) (T := F_W) (N := 7) hx hb hts (fun w h => List.mem_cons_of_mem _ (in_W w h)) hown hKa hPa 0 rfl rfl 0 (by decide) (hts (.fieldLink R_P 52 "PeriodWords$Word" "headLength" "I") (List.mem_cons_of_mem _ mb_80)) (fun _ h9 => h9) rfl d_P_draftOf_77 ?_
    refine lv_aload_n hx hb d_P_draftOf_80 rfl (lv_at hl 1 rfl) ?_
    refine va_get (D := (dC, dI)) (ci := ciW) (v := .int (nI (pp))) (C := R_W) (T := F_W) (N := 7) hx hb hts (fun w h => List.mem_cons_of_mem _ (in_W w h)) hown hKa hPa 0 rfl rfl 2 (by decide) (hts (.fieldLink R_P 55 "PeriodWords$Word" "ringLength" "I") (List.mem_cons_of_mem _ mb_84)) (fun _ h9 => h9) rfl d_P_draftOf_81 ?_
    refine lv_iconst (v := nI 1) hx hb d_P_draftOf_84 (by decide) ?_
    refine lv_aload_n hx hb d_P_draftOf_85 rfl (lv_at hl 1 rfl) ?_
    refine va_get (D := (dC, dI)) (ci := ciW) (v := .int (nI (pw_o f h pp))) (C := R_W) (T := F_W) (N := 7) hx hb hts (fun w h => List.mem_cons_of_mem _ (in_W w h)) hown hKa hPa 0 rfl rfl 5 (by decide) (hts (.fieldLink R_P 42 "PeriodWords$Word" "ringOnes" "I") (List.mem_cons_of_mem _ mb_90)) (fun _ h9 => h9) rfl d_P_draftOf_86 ?_
    refine lv_iconst (v := nI 2) hx hb d_P_draftOf_89 (by decide) ?_
    refine pq_irem (a := (pw_o f h pp)) (b := 2) hx hb d_P_draftOf_90 (by omega) (by omega) (by omega) ?_
    refine pq_iadd (a := 1) (b := ((pw_o f h pp) % 2)) hx hb d_P_draftOf_91 ?_
    refine pq_imul (a := pp) (b := (1 + ((pw_o f h pp) % 2))) hx hb d_P_draftOf_92 ?_
    have hPc := hP.sub (ws' := [(q_67, .inr (ciD, [.int (0), .int (0), .int (0), .null, .null, .int (0)]))]) [0] rfl
    have hDc := hD.sub (ws' := [(q_67, .inr (ciD, [.int (0), .int (0), .int (0), .null, .null, .int (0)]))]) [0] (by decide) rfl
    have hKc := hK.sub (tys' := []) [] rfl
    have hFc := va_free (wc := [(q_67, .inr (ciD, [.int (0), .int (0), .int (0), .null, .null, .int (0)]))]) hD hS hA [0] rfl
    refine va_callv (va_runI (As := [.int (nI (7)), .ref a, .ref a2, .int (nI (0)), .int (nI (h)), .int (nI (pp * (1 + ((pw_o f h pp) % 2))))]) (rest := [.ref q_67]) ⟨hx, hb, hml, hown, hts⟩ (c_D_init l dC dI (dd := q_67) (hd := h) (rd := pp * (1 + pw_o f h pp % 2)) (how := 7) (late := 0) (a := a) (a2 := a2)) (cwI 6 hts (gd_I mb_118) rfl rfl rfl (hts (.initialized R_D) (List.mem_cons_of_mem _ mb_27)) (hts (.methodLink R_P 124 y_D_init) (List.mem_cons_of_mem _ mb_116)) (hts (.instanceMethod y_D_init) (List.mem_cons_of_mem _ mb_117)) rfl (by decide +kernel) ⟨Nat.le_of_ble_eq_true rfl, Nat.le_of_ble_eq_true rfl⟩) ⟨md_blind, fun U hU hW => ⟨rfl, by rw [hU], by rw [hU]; exact hPc, va_K.moved hW.alike hKc, hDc.weaken (fun _ _ _ _ => trivial)⟩⟩ rfl rfl hl.1 rfl (lv_room (Nat.le_of_ble_eq_true rfl)) d_P_draftOf_93 ⟨Nat.le_of_ble_eq_true rfl, Nat.le_of_ble_eq_true rfl⟩) hS (fun q _ h => hFc q h) hFc (fun u_93 t_ H1 locs ht_ hvm_ hr_93 hB_ hz1_ hk1_ hS => ?_)
    obtain ⟨hP1_, hK1_, hD1_⟩ := hB_
    rw [ht_] at hP1_
    obtain ⟨hP, hD⟩ := va_join (wr := []) (w1 := [(q_67, .inr (ciD, [.int (nI (h)), .int (nI (pp * (1 + pw_o f h pp % 2))), .int (nI (7)), .ref a, .ref a2, .int (nI (0))]))]) hP hD [0] [] rfl rfl (by decide) (by decide) hk1_ hFc hP1_ hD1_
    generalize H1 = H at hP hS ⊢
    have hP : va_P (dC, dI) vwCl [(q_67, .inr (ciD, [.int (nI (h)), .int (nI (pp * (1 + pw_o f h pp % 2))), .int (nI (7)), .ref a, .ref a2, .int (nI (0))]))] H := hP
    have hD : va_D A [(q_67, .inr (ciD, [.int (nI (h)), .int (nI (pp * (1 + pw_o f h pp % 2))), .int (nI (7)), .ref a, .ref a2, .int (nI (0))]))] := hD
    exact W.aret (v := .ref q_67) hx hb hr (Or.inl ⟨_, rfl⟩) (Or.inr ⟨_, rfl⟩) (fun t_ ht_ hW_ => ⟨⟨(h, pp * (1 + pw_o f h pp % 2), 0), q_67, rfl, ⟨(show dr_ok 7 f f2 (h) (pp * (1 + pw_o f h pp % 2)) (0) from ⟨by omega, by omega, Nat.mul_pos hp0 (by omega), by decide, pw_E_halfC hE hp0⟩), fun q => absurd q (by omega)⟩, by rw [ht_]; exact hP, va_K.moved hW_.alike (hK.sub [] rfl), hD⟩, hS.F ht_⟩) hS.2.2 d_P_draftOf_96
