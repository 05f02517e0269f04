set_option maxHeartbeats 4000000 in
set_option maxRecDepth 100000 in
theorem c_D_bitAt (l : Launch) (dC : Nat → ClassId) (dI : Nat → Nat → Nat) {a q h pp : Nat} {cA : ClassId} {f : Nat → Bool} {pl : Nat → Int32} (hw : wd_ok h pp f) {a2 q2 h2 pp2 : Nat} {cA2 : ClassId} {f2 : Nat → Bool} {pl2 : Nat → Int32} (hw2 : wd_ok h2 pp2 f2) (hpl2 : wd_pl h2 pp2 f2 pl2) {dd hd rd how late : Nat} (hhow : how < 8) (hlate : late < 100) (hby : how = 5 → 0 < pw_o f2 h2 pp2) {t : Nat} (ht : t < 1048576) : Met l y_D_bitAt ws_D_bitAt ({ frames := 2, cells := 0, slots := 0, locals := 44 } : Room) (pw_R [.ref dd, .int (nI (t))] dC dI [(cA, .int), (cA2, .int)] (dr dd a a2 hd rd how late ++ (wd a q cA h pp f pl ++ wd a2 q2 cA2 h2 pp2 f2 pl2))) (vp_Si (fun r => r = nI (pw_mk how f f2 late t).toNat)) 0 0 (fun _ => False) := by
  refine Met.ofW (cc := b_D_bitAt) (maxL := 2) (ret := (some .int)) (by decide) rfl ?_
  intro p e s m args below meth c s₁ B hml hv
  obtain ⟨rfl, hP, hK⟩ := hv
  have hx := B.exec
  have hb := B.bytes
  have hr := B.returns
  have hts := atoms_spec (ws := ws_D_bitAt) B.pre
  have hown : s.vm.findClass R_D = some m.cls := findClass_of_methodNamed B.named
  have hlocks := B.notSynchronized
  have hw0 := hw; obtain ⟨hh, hp0, hp6, hE⟩ := hw0
  have ho := pw_o_le f h pp
  have hc := pw_c_le f h
  have hw20 := hw2; obtain ⟨hh2, hp02, hp62, hE2⟩ := hw20
  have ho2 := pw_o_le f2 h2 pp2
  have hc2 := pw_c_le f2 h2
  have hPd := hP.sub (ws' := dr dd a a2 hd rd how late) [0] rfl
  have hKd := hK.sub (tys' := []) [] rfl
  have hPa := hP.sub (ws' := wd a q cA h pp f pl) [1, 2] rfl
  have hKa := hK.sub (tys' := [(cA, .int)]) [0] rfl
  have hPb := hP.sub (ws' := wd a2 q2 cA2 h2 pp2 f2 pl2) [3, 4] rfl
  have hKb := hK.sub (tys' := [(cA2, .int)]) [1] rfl
  have hl := lv_entry ([.ref dd, .int (nI (t))]) (n := 2) (Nat.le_of_ble_eq_true rfl)
  rw [lg_entry_eq]
  generalize (lg_sl ([.ref dd, .int (nI (t))]) ++ List.replicate (2 - (lg_sl ([.ref dd, .int (nI (t))])).length) Slot.unset).toArray = ls at hl ⊢
  have hl : lv_has ls 2 [(0, .ref dd), (1, .int (nI (t)))] := hl
  refine lv_aload_n hx hb d_D_bitAt_0 rfl (lv_at hl 0 rfl) ?_
  refine va_get (D := (dC, dI)) (ci := ciD) (v := .int (nI (how))) (C := R_D) (T := F_D) (N := 6) hx hb hts (fun w h => List.mem_cons_of_mem _ (in_D w h)) hown hKd hPd 0 rfl rfl 2 (by decide) (hts (.fieldLink R_D 9 "PeriodWords$Draft" "how" "I") (List.mem_cons_of_mem _ mb_124)) (fun _ h9 => h9) rfl d_D_bitAt_1 ?_
  rcases (show how = 0 ∨ how = 1 ∨ how = 2 ∨ how = 3 ∨ how = 4 ∨ how = 5 ∨ how = 6 ∨ how = 7 by omega) with rfl | rfl | rfl | rfl | rfl | rfl | rfl | rfl
  · refine lv_tableIn (tgt := 48) hx hb d_D_bitAt_4 (by decide) (by decide) rfl (by decide) ?_
    refine lv_aload_n hx hb d_D_bitAt_48 rfl (lv_at hl 0 rfl) ?_
    refine va_get (D := (dC, dI)) (ci := ciD) (v := .ref a) (C := R_D) (T := F_D) (N := 6) hx hb hts (fun w h => List.mem_cons_of_mem _ (in_D w h)) hown hKd hPd 0 rfl rfl 3 (by decide) (hts (.fieldLink R_D 15 "PeriodWords$Draft" "a" "LPeriodWords$Word;") (List.mem_cons_of_mem _ mb_125)) (fun _ h9 => h9) rfl d_D_bitAt_49 ?_
    refine lv_iload_n hx hb d_D_bitAt_52 rfl (lv_at hl 1 rfl) ?_
    refine vp_callSi (W.runV (As := [.int (nI (t))]) (rest := []) ⟨hx, hb, hml, hown, hts⟩ (c_W_bitAt l dC dI hw (t := t) (by omega)) (cwV 1 hts (gd_V mb_173 mb_174 mb_175 mb_24 mb_176) rfl rfl rfl (by decide +kernel) ⟨Nat.le_of_ble_eq_true rfl, Nat.le_of_ble_eq_true rfl⟩) (pw_R_V (va_recv hKa hPa (ci := ciW) (q0 := 0) rfl rfl) hPa hKa) rfl rfl hl.1 rfl (lv_room (Nat.le_of_ble_eq_true rfl)) d_D_bitAt_53 ⟨Nat.le_of_ble_eq_true rfl, Nat.le_of_ble_eq_true rfl⟩) (fun r_53 hr_53 => ?_)
    subst hr_53
    refine lv_aload_n hx hb d_D_bitAt_56 rfl (lv_at hl 0 rfl) ?_
    refine va_get (D := (dC, dI)) (ci := ciD) (v := .ref a2) (C := R_D) (T := F_D) (N := 6) hx hb hts (fun w h => List.mem_cons_of_mem _ (in_D w h)) hown hKd hPd 0 rfl rfl 4 (by decide) (hts (.fieldLink R_D 19 "PeriodWords$Draft" "b" "LPeriodWords$Word;") (List.mem_cons_of_mem _ mb_126)) (fun _ h9 => h9) rfl d_D_bitAt_57 ?_
    refine lv_iload_n hx hb d_D_bitAt_60 rfl (lv_at hl 1 rfl) ?_
    refine vp_callSi (W.runV (As := [.int (nI (t))]) (rest := [.int (nI ((f t).toNat))]) ⟨hx, hb, hml, hown, hts⟩ (c_W_bitAt l dC dI hw2 (t := t) (by omega)) (cwV 1 hts (gd_V mb_173 mb_174 mb_175 mb_24 mb_176) rfl rfl rfl (by decide +kernel) ⟨Nat.le_of_ble_eq_true rfl, Nat.le_of_ble_eq_true rfl⟩) (pw_R_V (va_recv hKb hPb (ci := ciW) (q0 := 0) rfl rfl) hPb hKb) rfl rfl hl.1 rfl (lv_room (Nat.le_of_ble_eq_true rfl)) d_D_bitAt_61 ⟨Nat.le_of_ble_eq_true rfl, Nat.le_of_ble_eq_true rfl⟩) (fun r_61 hr_61 => ?_)
    subst hr_61
    refine lv_iand hx hb d_D_bitAt_64 ?_
    refine lv_topi (fun x_1 ex_1 => ?_)
    refine pq_top (y := .int (nI ((f t && f2 t).toNat))) (by rw [ex_1, pw_band]) ?_
    exact W.iret (v := (nI ((f t && f2 t).toNat))) hx hb hr (fun t_ ht_ hW_ => ⟨_, rfl, rfl, ht_⟩) (fun q h => absurd h List.not_mem_nil) d_D_bitAt_65
  · refine lv_tableIn (tgt := 66) hx hb d_D_bitAt_4 (by decide) (by decide) rfl (by decide) ?_
    refine lv_aload_n hx hb d_D_bitAt_66 rfl (lv_at hl 0 rfl) ?_
    refine va_get (D := (dC, dI)) (ci := ciD) (v := .ref a) (C := R_D) (T := F_D) (N := 6) hx hb hts (fun w h => List.mem_cons_of_mem _ (in_D w h)) hown hKd hPd 0 rfl rfl 3 (by decide) (hts (.fieldLink R_D 15 "PeriodWords$Draft" "a" "LPeriodWords$Word;") (List.mem_cons_of_mem _ mb_125)) (fun _ h9 => h9) rfl d_D_bitAt_67 ?_
    refine lv_iload_n hx hb d_D_bitAt_70 rfl (lv_at hl 1 rfl) ?_
    refine vp_callSi (W.runV (As := [.int (nI (t))]) (rest := []) ⟨hx, hb, hml, hown, hts⟩ (c_W_bitAt l dC dI hw (t := t) (by omega)) (cwV 1 hts (gd_V mb_173 mb_174 mb_175 mb_24 mb_176) rfl rfl rfl (by decide +kernel) ⟨Nat.le_of_ble_eq_true rfl, Nat.le_of_ble_eq_true rfl⟩) (pw_R_V (va_recv hKa hPa (ci := ciW) (q0 := 0) rfl rfl) hPa hKa) rfl rfl hl.1 rfl (lv_room (Nat.le_of_ble_eq_true rfl)) d_D_bitAt_71 ⟨Nat.le_of_ble_eq_true rfl, Nat.le_of_ble_eq_true rfl⟩) (fun r_71 hr_71 => ?_)
    subst hr_71
    refine lv_aload_n hx hb d_D_bitAt_74 rfl (lv_at hl 0 rfl) ?_
    refine va_get (D := (dC, dI)) (ci := ciD) (v := .ref a2) (C := R_D) (T := F_D) (N := 6) hx hb hts (fun w h => List.mem_cons_of_mem _ (in_D w h)) hown hKd hPd 0 rfl rfl 4 (by decide) (hts (.fieldLink R_D 19 "PeriodWords$Draft" "b" "LPeriodWords$Word;") (List.mem_cons_of_mem _ mb_126)) (fun _ h9 => h9) rfl d_D_bitAt_75 ?_
    refine lv_iload_n hx hb d_D_bitAt_78 rfl (lv_at hl 1 rfl) ?_
    refine vp_callSi (W.runV (As := [.int (nI (t))]) (rest := [.int (nI ((f t).toNat))]) ⟨hx, hb, hml, hown, hts⟩ (c_W_bitAt l dC dI hw2 (t := t) (by omega)) (cwV 1 hts (gd_V mb_173 mb_174 mb_175 mb_24 mb_176) rfl rfl rfl (by decide +kernel) ⟨Nat.le_of_ble_eq_true rfl, Nat.le_of_ble_eq_true rfl⟩) (pw_R_V (va_recv hKb hPb (ci := ciW) (q0 := 0) rfl rfl) hPb hKb) rfl rfl hl.1 rfl (lv_room (Nat.le_of_ble_eq_true rfl)) d_D_bitAt_79 ⟨Nat.le_of_ble_eq_true rfl, Nat.le_of_ble_eq_true rfl⟩) (fun r_79 hr_79 => ?_)
    subst hr_79
    refine lv_ior hx hb d_D_bitAt_82 ?_
    refine lv_topi (fun x_2 ex_2 => ?_)
    refine pq_top (y := .int (nI ((f t || f2 t).toNat))) (by rw [ex_2, pw_bor]) ?_
    exact W.iret (v := (nI ((f t || f2 t).toNat))) hx hb hr (fun t_ ht_ hW_ => ⟨_, rfl, rfl, ht_⟩) (fun q h => absurd h List.not_mem_nil) d_D_bitAt_83
  · refine lv_tableIn (tgt := 84) hx hb d_D_bitAt_4 (by decide) (by decide) rfl (by decide) ?_
    refine lv_aload_n hx hb d_D_bitAt_84 rfl (lv_at hl 0 rfl) ?_
    refine va_get (D := (dC, dI)) (ci := ciD) (v := .ref a) (C := R_D) (T := F_D) (N := 6) hx hb hts (fun w h => List.mem_cons_of_mem _ (in_D w h)) hown hKd hPd 0 rfl rfl 3 (by decide) (hts (.fieldLink R_D 15 "PeriodWords$Draft" "a" "LPeriodWords$Word;") (List.mem_cons_of_mem _ mb_125)) (fun _ h9 => h9) rfl d_D_bitAt_85 ?_
    refine lv_iload_n hx hb d_D_bitAt_88 rfl (lv_at hl 1 rfl) ?_
    refine vp_callSi (W.runV (As := [.int (nI (t))]) (rest := []) ⟨hx, hb, hml, hown, hts⟩ (c_W_bitAt l dC dI hw (t := t) (by omega)) (cwV 1 hts (gd_V mb_173 mb_174 mb_175 mb_24 mb_176) rfl rfl rfl (by decide +kernel) ⟨Nat.le_of_ble_eq_true rfl, Nat.le_of_ble_eq_true rfl⟩) (pw_R_V (va_recv hKa hPa (ci := ciW) (q0 := 0) rfl rfl) hPa hKa) rfl rfl hl.1 rfl (lv_room (Nat.le_of_ble_eq_true rfl)) d_D_bitAt_89 ⟨Nat.le_of_ble_eq_true rfl, Nat.le_of_ble_eq_true rfl⟩) (fun r_89 hr_89 => ?_)
    subst hr_89
    refine lv_aload_n hx hb d_D_bitAt_92 rfl (lv_at hl 0 rfl) ?_
    refine va_get (D := (dC, dI)) (ci := ciD) (v := .ref a2) (C := R_D) (T := F_D) (N := 6) hx hb hts (fun w h => List.mem_cons_of_mem _ (in_D w h)) hown hKd hPd 0 rfl rfl 4 (by decide) (hts (.fieldLink R_D 19 "PeriodWords$Draft" "b" "LPeriodWords$Word;") (List.mem_cons_of_mem _ mb_126)) (fun _ h9 => h9) rfl d_D_bitAt_93 ?_
    refine lv_iload_n hx hb d_D_bitAt_96 rfl (lv_at hl 1 rfl) ?_
    refine vp_callSi (W.runV (As := [.int (nI (t))]) (rest := [.int (nI ((f t).toNat))]) ⟨hx, hb, hml, hown, hts⟩ (c_W_bitAt l dC dI hw2 (t := t) (by omega)) (cwV 1 hts (gd_V mb_173 mb_174 mb_175 mb_24 mb_176) rfl rfl rfl (by decide +kernel) ⟨Nat.le_of_ble_eq_true rfl, Nat.le_of_ble_eq_true rfl⟩) (pw_R_V (va_recv hKb hPb (ci := ciW) (q0 := 0) rfl rfl) hPb hKb) rfl rfl hl.1 rfl (lv_room (Nat.le_of_ble_eq_true rfl)) d_D_bitAt_97 ⟨Nat.le_of_ble_eq_true rfl, Nat.le_of_ble_eq_true rfl⟩) (fun r_97 hr_97 => ?_)
    subst hr_97
    refine lv_ixor hx hb d_D_bitAt_100 ?_
    refine lv_topi (fun x_3 ex_3 => ?_)
    refine pq_top (y := .int (nI ((f t ^^ f2 t).toNat))) (by rw [ex_3, pw_bxor]) ?_
    exact W.iret (v := (nI ((f t ^^ f2 t).toNat))) hx hb hr (fun t_ ht_ hW_ => ⟨_, rfl, rfl, ht_⟩) (fun q h => absurd h List.not_mem_nil) d_D_bitAt_101
  · refine lv_tableIn (tgt := 102) hx hb d_D_bitAt_4 (by decide) (by decide) rfl (by decide) ?_
    refine lv_iconst (v := nI 1) hx hb d_D_bitAt_102 (by decide) ?_
    refine lv_aload_n hx hb d_D_bitAt_103 rfl (lv_at hl 0 rfl) ?_
    refine va_get (D := (dC, dI)) (ci := ciD) (v := .ref a) (C := R_D) (T := F_D) (N := 6) hx hb hts (fun w h => List.mem_cons_of_mem _ (in_D w h)) hown hKd hPd 0 rfl rfl 3 (by decide) (hts (.fieldLink R_D 15 "PeriodWords$Draft" "a" "LPeriodWords$Word;") (List.mem_cons_of_mem _ mb_125)) (fun _ h9 => h9) rfl d_D_bitAt_104 ?_
    refine lv_iload_n hx hb d_D_bitAt_107 rfl (lv_at hl 1 rfl) ?_
    refine vp_callSi (W.runV (As := [.int (nI (t))]) (rest := [.int (nI (1))]) ⟨hx, hb, hml, hown, hts⟩ (c_W_bitAt l dC dI hw (t := t) (by omega)) (cwV 1 hts (gd_V mb_173 mb_174 mb_175 mb_24 mb_176) rfl rfl rfl (by decide +kernel) ⟨Nat.le_of_ble_eq_true rfl, Nat.le_of_ble_eq_true rfl⟩) (pw_R_V (va_recv hKa hPa (ci := ciW) (q0 := 0) rfl rfl) hPa hKa) rfl rfl hl.1 rfl (lv_room (Nat.le_of_ble_eq_true rfl)) d_D_bitAt_108 ⟨Nat.le_of_ble_eq_true rfl, Nat.le_of_ble_eq_true rfl⟩) (fun r_108 hr_108 => ?_)
    subst hr_108
    refine lv_isub hx hb d_D_bitAt_111 ?_
    refine lv_topi (fun x_4 ex_4 => ?_)
    refine pq_top (y := .int (nI ((!f t).toNat))) (by rw [ex_4, pw_bnot]) ?_
    exact W.iret (v := (nI ((!f t).toNat))) hx hb hr (fun t_ ht_ hW_ => ⟨_, rfl, rfl, ht_⟩) (fun q h => absurd h List.not_mem_nil) d_D_bitAt_112
  · refine lv_tableIn (tgt := 113) hx hb d_D_bitAt_4 (by decide) (by decide) rfl (by decide) ?_
    refine lv_aload_n hx hb d_D_bitAt_113 rfl (lv_at hl 0 rfl) ?_
    refine va_get (D := (dC, dI)) (ci := ciD) (v := .ref a) (C := R_D) (T := F_D) (N := 6) hx hb hts (fun w h => List.mem_cons_of_mem _ (in_D w h)) hown hKd hPd 0 rfl rfl 3 (by decide) (hts (.fieldLink R_D 15 "PeriodWords$Draft" "a" "LPeriodWords$Word;") (List.mem_cons_of_mem _ mb_125)) (fun _ h9 => h9) rfl d_D_bitAt_114 ?_
    refine lv_iload_n hx hb d_D_bitAt_117 rfl (lv_at hl 1 rfl) ?_
    refine vp_callSi (W.runV (As := [.int (nI (t))]) (rest := []) ⟨hx, hb, hml, hown, hts⟩ (c_W_bitAt l dC dI hw (t := t) (by omega)) (cwV 1 hts (gd_V mb_173 mb_174 mb_175 mb_24 mb_176) rfl rfl rfl (by decide +kernel) ⟨Nat.le_of_ble_eq_true rfl, Nat.le_of_ble_eq_true rfl⟩) (pw_R_V (va_recv hKa hPa (ci := ciW) (q0 := 0) rfl rfl) hPa hKa) rfl rfl hl.1 rfl (lv_room (Nat.le_of_ble_eq_true rfl)) d_D_bitAt_118 ⟨Nat.le_of_ble_eq_true rfl, Nat.le_of_ble_eq_true rfl⟩) (fun r_118 hr_118 => ?_)
    subst hr_118
    refine pq_if_ne (tgt := 128) (a := ((f t).toNat)) hx hb d_D_bitAt_121 (by decide) (by have := pw_lt2 (f t); omega) (fun c_121 => ?_) (fun c_121 => ?_)
    · have q1 := pw_c_le f t
      refine lv_aload_n hx hb d_D_bitAt_128 rfl (lv_at hl 0 rfl) ?_
      refine va_get (D := (dC, dI)) (ci := ciD) (v := .ref a2) (C := R_D) (T := F_D) (N := 6) hx hb hts (fun w h => List.mem_cons_of_mem _ (in_D w h)) hown hKd hPd 0 rfl rfl 4 (by decide) (hts (.fieldLink R_D 19 "PeriodWords$Draft" "b" "LPeriodWords$Word;") (List.mem_cons_of_mem _ mb_126)) (fun _ h9 => h9) rfl d_D_bitAt_129 ?_
      refine lv_aload_n hx hb d_D_bitAt_132 rfl (lv_at hl 0 rfl) ?_
      refine va_get (D := (dC, dI)) (ci := ciD) (v := .ref a) (C := R_D) (T := F_D) (N := 6) hx hb hts (fun w h => List.mem_cons_of_mem _ (in_D w h)) hown hKd hPd 0 rfl rfl 3 (by decide) (hts (.fieldLink R_D 15 "PeriodWords$Draft" "a" "LPeriodWords$Word;") (List.mem_cons_of_mem _ mb_125)) (fun _ h9 => h9) rfl d_D_bitAt_133 ?_
      refine lv_iload_n hx hb d_D_bitAt_136 rfl (lv_at hl 1 rfl) ?_
      refine vp_callSi (W.runV (As := [.int (nI (t))]) (rest := [.ref a2]) ⟨hx, hb, hml, hown, hts⟩ (c_W_onesBefore l dC dI hw (t := t) (by omega)) (cwV 1 hts (gd_V mb_177 mb_157 mb_158 mb_24 mb_159) rfl rfl rfl (by decide +kernel) ⟨Nat.le_of_ble_eq_true rfl, Nat.le_of_ble_eq_true rfl⟩) (pw_R_V (va_recv hKa hPa (ci := ciW) (q0 := 0) rfl rfl) hPa hKa) rfl rfl hl.1 rfl (lv_room (Nat.le_of_ble_eq_true rfl)) d_D_bitAt_137 ⟨Nat.le_of_ble_eq_true rfl, Nat.le_of_ble_eq_true rfl⟩) (fun r_137 hr_137 => ?_)
      subst hr_137
      refine vp_callSi (W.runV (As := [.int (nI (pw_c f t))]) (rest := []) ⟨hx, hb, hml, hown, hts⟩ (c_W_bitAt l dC dI hw2 (t := pw_c f t) (by omega)) (cwV 1 hts (gd_V mb_173 mb_174 mb_175 mb_24 mb_176) rfl rfl rfl (by decide +kernel) ⟨Nat.le_of_ble_eq_true rfl, Nat.le_of_ble_eq_true rfl⟩) (pw_R_V (va_recv hKb hPb (ci := ciW) (q0 := 0) rfl rfl) hPb hKb) rfl rfl hl.1 rfl (lv_room (Nat.le_of_ble_eq_true rfl)) d_D_bitAt_140 ⟨Nat.le_of_ble_eq_true rfl, Nat.le_of_ble_eq_true rfl⟩) (fun r_140 hr_140 => ?_)
      subst hr_140
      exact W.iret (v := (nI ((f2 (pw_c f t)).toNat))) hx hb hr (fun t_ ht_ hW_ => ⟨_, rfl, pw_on_1 c_121, ht_⟩) (fun q h => absurd h List.not_mem_nil) d_D_bitAt_143
    · refine lv_iconst (v := nI 0) hx hb d_D_bitAt_124 (by decide) ?_
      refine lv_goto (tgt := 143) hx hb d_D_bitAt_125 (by decide) ?_
      exact W.iret (v := (nI (0))) hx hb hr (fun t_ ht_ hW_ => ⟨_, rfl, pw_on_0 c_121, ht_⟩) (fun q h => absurd h List.not_mem_nil) d_D_bitAt_143
  · refine lv_tableIn (tgt := 144) hx hb d_D_bitAt_4 (by decide) (by decide) rfl (by decide) ?_
    have t2 := pw_tk_le hE2 hp02 (show 0 < t + 1 by omega) (Or.inl (hby rfl))
    have t4 : (t + 1) * pp2 ≤ 1048576 * 60 := Nat.mul_le_mul (by omega) hp62
    refine lv_aload_n hx hb d_D_bitAt_144 rfl (lv_at hl 0 rfl) ?_
    refine va_get (D := (dC, dI)) (ci := ciD) (v := .ref a) (C := R_D) (T := F_D) (N := 6) hx hb hts (fun w h => List.mem_cons_of_mem _ (in_D w h)) hown hKd hPd 0 rfl rfl 3 (by decide) (hts (.fieldLink R_D 15 "PeriodWords$Draft" "a" "LPeriodWords$Word;") (List.mem_cons_of_mem _ mb_125)) (fun _ h9 => h9) rfl d_D_bitAt_145 ?_
    refine lv_aload_n hx hb d_D_bitAt_148 rfl (lv_at hl 0 rfl) ?_
    refine va_get (D := (dC, dI)) (ci := ciD) (v := .ref a2) (C := R_D) (T := F_D) (N := 6) hx hb hts (fun w h => List.mem_cons_of_mem _ (in_D w h)) hown hKd hPd 0 rfl rfl 4 (by decide) (hts (.fieldLink R_D 19 "PeriodWords$Draft" "b" "LPeriodWords$Word;") (List.mem_cons_of_mem _ mb_126)) (fun _ h9 => h9) rfl d_D_bitAt_149 ?_
    refine lv_iload_n hx hb d_D_bitAt_152 rfl (lv_at hl 1 rfl) ?_
    refine lv_iconst (v := nI 1) hx hb d_D_bitAt_153 (by decide) ?_
    refine pq_iadd (a := t) (b := 1) hx hb d_D_bitAt_154 ?_
    refine vp_callSi (W.runV (As := [.int (nI (t + 1))]) (rest := [.ref a]) ⟨hx, hb, hml, hown, hts⟩ (c_W_tickOf l dC dI hw2 hpl2 (n := t + 1) (by omega) (by omega) (Or.inl (hby rfl))) (cwV 1 hts (gd_V mb_178 mb_142 mb_143 mb_24 mb_144) rfl rfl rfl (by decide +kernel) ⟨Nat.le_of_ble_eq_true rfl, Nat.le_of_ble_eq_true rfl⟩) (pw_R_V (va_recv hKb hPb (ci := ciW) (q0 := 0) rfl rfl) hPb hKb) rfl rfl hl.1 rfl (lv_room (Nat.le_of_ble_eq_true rfl)) d_D_bitAt_155 ⟨Nat.le_of_ble_eq_true rfl, Nat.le_of_ble_eq_true rfl⟩) (fun r_155 hr_155 => ?_)
    subst hr_155
    refine vp_callSi (W.runV (As := [.int (nI (pw_tk f2 (t + 1)))]) (rest := []) ⟨hx, hb, hml, hown, hts⟩ (c_W_bitAt l dC dI hw (t := pw_tk f2 (t + 1)) (by omega)) (cwV 1 hts (gd_V mb_173 mb_174 mb_175 mb_24 mb_176) rfl rfl rfl (by decide +kernel) ⟨Nat.le_of_ble_eq_true rfl, Nat.le_of_ble_eq_true rfl⟩) (pw_R_V (va_recv hKa hPa (ci := ciW) (q0 := 0) rfl rfl) hPa hKa) rfl rfl hl.1 rfl (lv_room (Nat.le_of_ble_eq_true rfl)) d_D_bitAt_158 ⟨Nat.le_of_ble_eq_true rfl, Nat.le_of_ble_eq_true rfl⟩) (fun r_158 hr_158 => ?_)
    subst hr_158
    exact W.iret (v := (nI ((f (pw_tk f2 (t + 1))).toNat))) hx hb hr (fun t_ ht_ hW_ => ⟨_, rfl, rfl, ht_⟩) (fun q h => absurd h List.not_mem_nil) d_D_bitAt_161
  · refine lv_tableIn (tgt := 162) hx hb d_D_bitAt_4 (by decide) (by decide) rfl (by decide) ?_
    refine lv_iload_n hx hb d_D_bitAt_162 rfl (lv_at hl 1 rfl) ?_
    refine lv_aload_n hx hb d_D_bitAt_163 rfl (lv_at hl 0 rfl) ?_
    refine va_get (D := (dC, dI)) (ci := ciD) (v := .int (nI (late))) (C := R_D) (T := F_D) (N := 6) hx hb hts (fun w h => List.mem_cons_of_mem _ (in_D w h)) hown hKd hPd 0 rfl rfl 5 (by decide) (hts (.fieldLink R_D 22 "PeriodWords$Draft" "late" "I") (List.mem_cons_of_mem _ mb_127)) (fun _ h9 => h9) rfl d_D_bitAt_164 ?_
    refine pq_icmp_ge (tgt := 174) (a := t) (b := late) hx hb d_D_bitAt_167 (by decide) (by omega) (by omega) (fun c_167 => ?_) (fun c_167 => ?_)
    · refine lv_aload_n hx hb d_D_bitAt_174 rfl (lv_at hl 0 rfl) ?_
      refine va_get (D := (dC, dI)) (ci := ciD) (v := .ref a) (C := R_D) (T := F_D) (N := 6) hx hb hts (fun w h => List.mem_cons_of_mem _ (in_D w h)) hown hKd hPd 0 rfl rfl 3 (by decide) (hts (.fieldLink R_D 15 "PeriodWords$Draft" "a" "LPeriodWords$Word;") (List.mem_cons_of_mem _ mb_125)) (fun _ h9 => h9) rfl d_D_bitAt_175 ?_
      refine lv_iload_n hx hb d_D_bitAt_178 rfl (lv_at hl 1 rfl) ?_
      refine lv_aload_n hx hb d_D_bitAt_179 rfl (lv_at hl 0 rfl) ?_
      refine va_get (D := (dC, dI)) (ci := ciD) (v := .int (nI (late))) (C := R_D) (T := F_D) (N := 6) hx hb hts (fun w h => List.mem_cons_of_mem _ (in_D w h)) hown hKd hPd 0 rfl rfl 5 (by decide) (hts (.fieldLink R_D 22 "PeriodWords$Draft" "late" "I") (List.mem_cons_of_mem _ mb_127)) (fun _ h9 => h9) rfl d_D_bitAt_180 ?_
      refine pq_isub (a := t) (b := late) hx hb d_D_bitAt_183 (by omega) ?_
      refine vp_callSi (W.runV (As := [.int (nI (t - late))]) (rest := []) ⟨hx, hb, hml, hown, hts⟩ (c_W_bitAt l dC dI hw (t := t - late) (by omega)) (cwV 1 hts (gd_V mb_173 mb_174 mb_175 mb_24 mb_176) rfl rfl rfl (by decide +kernel) ⟨Nat.le_of_ble_eq_true rfl, Nat.le_of_ble_eq_true rfl⟩) (pw_R_V (va_recv hKa hPa (ci := ciW) (q0 := 0) rfl rfl) hPa hKa) rfl rfl hl.1 rfl (lv_room (Nat.le_of_ble_eq_true rfl)) d_D_bitAt_184 ⟨Nat.le_of_ble_eq_true rfl, Nat.le_of_ble_eq_true rfl⟩) (fun r_184 hr_184 => ?_)
      subst hr_184
      exact W.iret (v := (nI ((f (t - late)).toNat))) hx hb hr (fun t_ ht_ hW_ => ⟨_, rfl, by (try dsimp only); show _ = nI (if t < late then false else f (t - late)).toNat; rw [if_neg (by omega)], ht_⟩) (fun q h => absurd h List.not_mem_nil) d_D_bitAt_187
    · refine lv_iconst (v := nI 0) hx hb d_D_bitAt_170 (by decide) ?_
      refine lv_goto (tgt := 187) hx hb d_D_bitAt_171 (by decide) ?_
      exact W.iret (v := (nI (0))) hx hb hr (fun t_ ht_ hW_ => ⟨_, rfl, by (try dsimp only); show _ = nI (if t < late then false else f (t - late)).toNat; rw [if_pos (by omega)]; rfl, ht_⟩) (fun q h => absurd h List.not_mem_nil) d_D_bitAt_187
  · refine lv_tableOut (tgt := 188) hx hb d_D_bitAt_4 (Or.inr (by decide)) (by decide) ?_
    refine lv_aload_n hx hb d_D_bitAt_188 rfl (lv_at hl 0 rfl) ?_
    refine va_get (D := (dC, dI)) (ci := ciD) (v := .ref a) (C := R_D) (T := F_D) (N := 6) hx hb hts (fun w h => List.mem_cons_of_mem _ (in_D w h)) hown hKd hPd 0 rfl rfl 3 (by decide) (hts (.fieldLink R_D 15 "PeriodWords$Draft" "a" "LPeriodWords$Word;") (List.mem_cons_of_mem _ mb_125)) (fun _ h9 => h9) rfl d_D_bitAt_189 ?_
    refine lv_iload_n hx hb d_D_bitAt_192 rfl (lv_at hl 1 rfl) ?_
    refine vp_callSi (W.runV (As := [.int (nI (t))]) (rest := []) ⟨hx, hb, hml, hown, hts⟩ (c_W_bitAt l dC dI hw (t := t) (by omega)) (cwV 1 hts (gd_V mb_173 mb_174 mb_175 mb_24 mb_176) rfl rfl rfl (by decide +kernel) ⟨Nat.le_of_ble_eq_true rfl, Nat.le_of_ble_eq_true rfl⟩) (pw_R_V (va_recv hKa hPa (ci := ciW) (q0 := 0) rfl rfl) hPa hKa) rfl rfl hl.1 rfl (lv_room (Nat.le_of_ble_eq_true rfl)) d_D_bitAt_193 ⟨Nat.le_of_ble_eq_true rfl, Nat.le_of_ble_eq_true rfl⟩) (fun r_193 hr_193 => ?_)
    subst hr_193
    refine lv_aload_n hx hb d_D_bitAt_196 rfl (lv_at hl 0 rfl) ?_
    refine va_get (D := (dC, dI)) (ci := ciD) (v := .ref a) (C := R_D) (T := F_D) (N := 6) hx hb hts (fun w h => List.mem_cons_of_mem _ (in_D w h)) hown hKd hPd 0 rfl rfl 3 (by decide) (hts (.fieldLink R_D 15 "PeriodWords$Draft" "a" "LPeriodWords$Word;") (List.mem_cons_of_mem _ mb_125)) (fun _ h9 => h9) rfl d_D_bitAt_197 ?_
    refine lv_iload_n hx hb d_D_bitAt_200 rfl (lv_at hl 1 rfl) ?_
    refine vp_callSi (W.runV (As := [.int (nI (t))]) (rest := [.int (nI ((f t).toNat))]) ⟨hx, hb, hml, hown, hts⟩ (c_W_onesBefore l dC dI hw (t := t) (by omega)) (cwV 1 hts (gd_V mb_177 mb_157 mb_158 mb_24 mb_159) rfl rfl rfl (by decide +kernel) ⟨Nat.le_of_ble_eq_true rfl, Nat.le_of_ble_eq_true rfl⟩) (pw_R_V (va_recv hKa hPa (ci := ciW) (q0 := 0) rfl rfl) hPa hKa) rfl rfl hl.1 rfl (lv_room (Nat.le_of_ble_eq_true rfl)) d_D_bitAt_201 ⟨Nat.le_of_ble_eq_true rfl, Nat.le_of_ble_eq_true rfl⟩) (fun r_201 hr_201 => ?_)
    subst hr_201
    refine lv_iconst (v := (-1)) hx hb d_D_bitAt_204 (by decide) ?_
    refine lv_ixor hx hb d_D_bitAt_205 ?_
    refine lv_topi (fun x_5 ex_5 => ?_)
    refine pq_top (y := .int (nI (pw_c f t) ^^^ (-1))) (by rw [ex_5]) ?_
    refine lv_iand hx hb d_D_bitAt_206 ?_
    refine lv_topi (fun x_6 ex_6 => ?_)
    refine pq_top (y := .int (nI ((f t && decide (pw_c f t % 2 = 0)).toNat))) (by rw [ex_6, pw_bhalf]) ?_
    exact W.iret (v := (nI ((f t && decide (pw_c f t % 2 = 0)).toNat))) hx hb hr (fun t_ ht_ hW_ => ⟨_, rfl, rfl, ht_⟩) (fun q h => absurd h List.not_mem_nil) d_D_bitAt_207
set_option maxHeartbeats 4000000 in
set_option maxRecDepth 100000 in
theorem c_D_bits (l : Launch) (dC : Nat → ClassId) (dI : Nat → Nat → Nat) {a q h pp : Nat} {cA : ClassId} {f : Nat → Bool} {pl : Nat → Int32} (hw : wd_ok h pp f) {a2 q2 h2 pp2 : Nat} {cA2 : ClassId} {f2 : Nat → Bool} {pl2 : Nat → Int32} (hw2 : wd_ok h2 pp2 f2) (hpl2 : wd_pl h2 pp2 f2 pl2) {dd hd rd how late : Nat} (hhow : how < 8) (hlate : late < 100) (hby : how = 5 → 0 < pw_o f2 h2 pp2) {u n : Nat} (hu : u < 1000000) (hn : n ≤ 60) : Met l y_D_bits ws_D_bits ({ frames := 3, cells := 0, slots := 0, locals := 65 } : Room) (pw_R [.ref dd, .int (nI (u)), .int (nI (n))] dC dI [(cA, .int), (cA2, .int)] (dr dd a a2 hd rd how late ++ (wd a q cA h pp f pl ++ wd a2 q2 cA2 h2 pp2 f2 pl2))) (vp_Sl (fun r => r = lN (pw_b (pw_mk how f f2 late) u n))) 0 0 (fun _ => False) := by
  refine Met.ofW (cc := b_D_bits) (maxL := 6) (ret := (some .long)) (by decide) rfl ?_
  intro p e s m args below meth c s₁ B hml hv
  obtain ⟨rfl, hP, hK⟩ := hv
  have hx := B.exec
  have hb := B.bytes
  have hr := B.returns
  have hts := atoms_spec (ws := ws_D_bits) B.pre
  have hown : s.vm.findClass R_D = some m.cls := findClass_of_methodNamed B.named
  have hlocks := B.notSynchronized
  have hw0 := hw; obtain ⟨hh, hp0, hp6, hE⟩ := hw0
  have ho := pw_o_le f h pp
  have hc := pw_c_le f h
  have hw20 := hw2; obtain ⟨hh2, hp02, hp62, hE2⟩ := hw20
  have ho2 := pw_o_le f2 h2 pp2
  have hc2 := pw_c_le f2 h2
  have hPd := hP.sub (ws' := dr dd a a2 hd rd how late) [0] rfl
  have hKd := hK.sub (tys' := []) [] rfl
  have hPa := hP.sub (ws' := wd a q cA h pp f pl) [1, 2] rfl
  have hKa := hK.sub (tys' := [(cA, .int)]) [0] rfl
  have hPb := hP.sub (ws' := wd a2 q2 cA2 h2 pp2 f2 pl2) [3, 4] rfl
  have hKb := hK.sub (tys' := [(cA2, .int)]) [1] rfl
  obtain ⟨F, hF⟩ : ∃ F, F = pw_mk how f f2 late := ⟨_, rfl⟩
  have hl := lv_entry ([.ref dd, .int (nI (u)), .int (nI (n))]) (n := 6) (Nat.le_of_ble_eq_true rfl)
  rw [lg_entry_eq]
  generalize (lg_sl ([.ref dd, .int (nI (u)), .int (nI (n))]) ++ List.replicate (6 - (lg_sl ([.ref dd, .int (nI (u)), .int (nI (n))])).length) Slot.unset).toArray = ls at hl ⊢
  have hl : lv_has ls 6 [(0, .ref dd), (1, .int (nI (u))), (2, .int (nI (n)))] := hl
  refine lv_lconst (v := lN 0) hx hb d_D_bits_0 (by decide) ?_
  refine lv_lstore_n (lv' := [(3, .long (lN (0))), (0, .ref dd), (1, .int (nI (u))), (2, .int (nI (n)))]) hx hb d_D_bits_1 rfl hl (by decide) rfl (fun ls hl => ?_)
  refine lv_iconst (v := nI 0) hx hb d_D_bits_2 (by decide) ?_
  refine lv_istore (lv' := [(5, .int (nI (0))), (3, .long (lN (0))), (0, .ref dd), (1, .int (nI (u))), (2, .int (nI (n)))]) hx hb d_D_bits_3 hl (by decide) rfl (fun ls hl => ?_)
  have B_5 : ∀ (k_ : Nat) (i : Nat) (ls : Array Slot), (n - i) < k_ → (i ≤ n) → lv_has ls 6 [(0, .ref dd), (1, .int (nI (u))), (2, .int (nI (n))), (3, .long (lN (pw_b (pw_mk how f f2 late) u i))), (5, .int (nI (i)))] → W p l e (headSpec ws_D_bits ({ frames := 3, cells := 0, slots := 0, locals := 65 } : Room)).room s m ([.ref dd, .int (nI (u)), .int (nI (n))]).toArray below meth c s.heap [] 0 0 (MQ below (vp_Sl (fun r => r = lN (pw_b (pw_mk how f f2 late) u n))) ([.ref dd, .int (nI (u)), .int (nI (n))]).toArray s 0 0 (fun _ => False)) (F0 m 5 ls []) := by
    intro k_
    induction k_ with
    | zero => intro i ls h_; omega
    | succ k_ ih_5 =>
      intro i ls hm_ hi hl
      refine lv_iload hx hb d_D_bits_5 (lv_at hl 4 rfl) ?_
      refine lv_iload_n hx hb d_D_bits_7 rfl (lv_at hl 2 rfl) ?_
      refine pq_icmp_ge (tgt := 32) (a := i) (b := n) hx hb d_D_bits_8 (by decide) (by omega) (by omega) (fun c_8 => ?_) (fun c_8 => ?_)
      · refine lv_lload_n hx hb d_D_bits_32 rfl (lv_at hl 3 rfl) ?_
        exact W.lret (v := (lN (pw_b (pw_mk how f f2 late) u i))) hx hb hr (fun t_ ht_ hW_ => ⟨_, rfl, by (try dsimp only); rw [show i = n by omega], ht_⟩) (fun q h => absurd h List.not_mem_nil) d_D_bits_33
      · refine lv_lload_n hx hb d_D_bits_11 rfl (lv_at hl 3 rfl) ?_
        refine lv_aload_n hx hb d_D_bits_12 rfl (lv_at hl 0 rfl) ?_
        refine lv_iload_n hx hb d_D_bits_13 rfl (lv_at hl 1 rfl) ?_
        refine lv_iload hx hb d_D_bits_14 (lv_at hl 4 rfl) ?_
        refine pq_iadd (a := u) (b := i) hx hb d_D_bits_16 ?_
        refine vp_callSi (W.runV (As := [.int (nI (u + i))]) (rest := [.long (lN (pw_b (pw_mk how f f2 late) u i))]) ⟨hx, hb, hml, hown, hts⟩ (c_D_bitAt l dC dI hw hw2 hpl2 (hd := hd) (rd := rd) hhow hlate hby (t := u + i) (by omega)) (cwV 1 hts (gd_V mb_189 mb_170 mb_171 mb_27 mb_172) rfl rfl rfl (by decide +kernel) ⟨Nat.le_of_ble_eq_true rfl, Nat.le_of_ble_eq_true rfl⟩) (pw_R_V (va_recv hKd hPd (ci := ciD) (q0 := 0) rfl rfl) hP hK) rfl rfl hl.1 rfl (lv_room (Nat.le_of_ble_eq_true rfl)) d_D_bits_17 ⟨Nat.le_of_ble_eq_true rfl, Nat.le_of_ble_eq_true rfl⟩) (fun r_17 hr_17 => ?_)
        subst hr_17
        refine lv_i2l hx hb d_D_bits_20 rfl ?_
        refine lv_topl (fun y_1 ey_1 => ?_)
        refine pq_top (y := .long (lN ((pw_mk how f f2 late (u + i)).toNat))) (by rw [ey_1, pw_toL]) ?_
        refine lv_iload hx hb d_D_bits_21 (lv_at hl 4 rfl) ?_
        refine lv_lshl hx hb d_D_bits_23 rfl ?_
        refine lv_topl (fun y_2 ey_2 => ?_)
        refine pq_top (y := .long (lN ((pw_mk how f f2 late (u + i)).toNat * 2 ^ i))) (by rw [ey_2, pq_lshl _ (show i < 64 by omega)]) ?_
        refine lv_lor hx hb d_D_bits_24 ?_
        refine lv_topl (fun y_3 ey_3 => ?_)
        refine pq_top (y := .long (lN (pw_b (pw_mk how f f2 late) u (i + 1)))) (by rw [ey_3, pw_bor64 (show i < 60 by omega)]; rfl) ?_
        refine lv_lstore_n (lv' := [(3, .long (lN (pw_b (pw_mk how f f2 late) u (i + 1)))), (0, .ref dd), (1, .int (nI (u))), (2, .int (nI (n))), (5, .int (nI (i)))]) hx hb d_D_bits_25 rfl hl (by decide) rfl (fun ls hl => ?_)
        refine lv_iinc (v := nI (i + 1)) (lv' := [(5, .int (nI (i + 1))), (3, .long (lN (pw_b (pw_mk how f f2 late) u (i + 1)))), (0, .ref dd), (1, .int (nI (u))), (2, .int (nI (n)))]) hx hb d_D_bits_26 hl (k := 4) rfl (pq_inc _) (by decide) rfl (fun ls hl => ?_)
        refine lv_goto (tgt := 5) hx hb d_D_bits_29 (by decide) ?_
        exact ih_5 (i + 1) ls (by omega) (by omega) (lv_sub hl [2, 3, 4, 1, 0] rfl)
  exact B_5 _ (0) ls (Nat.lt_succ_self _) (by omega) (lv_sub hl [2, 3, 4, 1, 0] rfl)
set_option maxHeartbeats 4000000 in
set_option maxRecDepth 100000 in
theorem c_P_shortestHead (l : Launch) (dC : Nat → ClassId) (dI : Nat → Nat → Nat) {a q h pp : Nat} {cA : ClassId} {f : Nat → Bool} {pl : Nat → Int32} (hw : wd_ok h pp f) {a2 q2 h2 pp2 : Nat} {cA2 : ClassId} {f2 : Nat → Bool} {pl2 : Nat → Int32} (hw2 : wd_ok h2 pp2 f2) (hpl2 : wd_pl h2 pp2 f2 pl2) {dd hd rd how late : Nat} (hhow : how < 8) (hlate : late < 100) (hby : how = 5 → 0 < pw_o f2 h2 pp2) {rg : Nat} (hrg : rg ≤ 60) (hhd : hd < 100000) (hEd : pw_E (pw_mk how f f2 late) hd rg) : Met l y_P_shortestHead ws_P_shortestHead ({ frames := 3, cells := 0, slots := 0, locals := 65 } : Room) (pw_R [.ref dd, .int (nI (rg))] dC dI [(cA, .int), (cA2, .int)] (dr dd a a2 hd rd how late ++ (wd a q cA h pp f pl ++ wd a2 q2 cA2 h2 pp2 f2 pl2))) (vp_Si (fun r => ∃ x, r = nI x ∧ x ≤ hd ∧ pw_E (pw_mk how f f2 late) x rg ∧ (x = 0 ∨ pw_mk how f f2 late (x - 1) ≠ pw_mk how f f2 late (x - 1 + rg)))) 0 0 (fun _ => False) := by
  refine Met.ofW (cc := b_P_shortestHead) (maxL := 3) (ret := (some .int)) (by decide) rfl ?_
  intro p e s m args below meth c s₁ B hml hv
  obtain ⟨rfl, hP, hK⟩ := hv
  have hx := B.exec
  have hb := B.bytes
  have hr := B.returns
  have hts := atoms_spec (ws := ws_P_shortestHead) B.pre
  have hown : s.vm.findClass R_P = some m.cls := findClass_of_methodNamed B.named
  have hlocks := B.notSynchronized
  have hw0 := hw; obtain ⟨hh, hp0, hp6, hE⟩ := hw0
  have ho := pw_o_le f h pp
  have hc := pw_c_le f h
  have hw20 := hw2; obtain ⟨hh2, hp02, hp62, hE2⟩ := hw20
  have ho2 := pw_o_le f2 h2 pp2
  have hc2 := pw_c_le f2 h2
  have hPd := hP.sub (ws' := dr dd a a2 hd rd how late) [0] rfl
  have hKd := hK.sub (tys' := []) [] rfl
  have hPa := hP.sub (ws' := wd a q cA h pp f pl) [1, 2] rfl
  have hKa := hK.sub (tys' := [(cA, .int)]) [0] rfl
  have hPb := hP.sub (ws' := wd a2 q2 cA2 h2 pp2 f2 pl2) [3, 4] rfl
  have hKb := hK.sub (tys' := [(cA2, .int)]) [1] rfl
  have hl := lv_entry ([.ref dd, .int (nI (rg))]) (n := 3) (Nat.le_of_ble_eq_true rfl)
  rw [lg_entry_eq]
  generalize (lg_sl ([.ref dd, .int (nI (rg))]) ++ List.replicate (3 - (lg_sl ([.ref dd, .int (nI (rg))])).length) Slot.unset).toArray = ls at hl ⊢
  have hl : lv_has ls 3 [(0, .ref dd), (1, .int (nI (rg)))] := hl
  refine lv_aload_n hx hb d_P_shortestHead_0 rfl (lv_at hl 0 rfl) ?_
  refine va_get (D := (dC, dI)) (ci := ciD) (v := .int (nI (hd))) (C := R_D) (T := F_D) (N := 6) hx hb hts (fun w h => List.mem_cons_of_mem _ (in_D w h)) hown hKd hPd 0 rfl rfl 0 (by decide) (hts (.fieldLink R_P 147 "PeriodWords$Draft" "headLength" "I") (List.mem_cons_of_mem _ mb_121)) (fun _ h9 => h9) rfl d_P_shortestHead_1 ?_
  refine lv_istore_n (lv' := [(2, .int (nI (hd))), (0, .ref dd), (1, .int (nI (rg)))]) hx hb d_P_shortestHead_4 rfl hl (by decide) rfl (fun ls hl => ?_)
  have B_5 : ∀ (k_ : Nat) (x : Nat) (ls : Array Slot), (x) < k_ → (x ≤ hd) → (pw_E (pw_mk how f f2 late) x rg) → lv_has ls 3 [(0, .ref dd), (1, .int (nI (rg))), (2, .int (nI (x)))] → W p l e (headSpec ws_P_shortestHead ({ frames := 3, cells := 0, slots := 0, locals := 65 } : Room)).room s m ([.ref dd, .int (nI (rg))]).toArray below meth c s.heap [] 0 0 (MQ below (vp_Si (fun r => ∃ x, r = nI x ∧ x ≤ hd ∧ pw_E (pw_mk how f f2 late) x rg ∧ (x = 0 ∨ pw_mk how f f2 late (x - 1) ≠ pw_mk how f f2 late (x - 1 + rg)))) ([.ref dd, .int (nI (rg))]).toArray s 0 0 (fun _ => False)) (F0 m 5 ls []) := by
    intro k_
    induction k_ with
    | zero => intro x ls h_; omega
    | succ k_ ih_5 =>
      intro x ls hm_ hx1 hxE hl
      refine lv_iload_n hx hb d_P_shortestHead_5 rfl (lv_at hl 2 rfl) ?_
      refine pq_if_le (tgt := 36) (a := x) hx hb d_P_shortestHead_6 (by decide) (by omega) (fun c_6 => ?_) (fun c_6 => ?_)
      · refine lv_iconst (v := nI 0) hx hb d_P_shortestHead_36 (by decide) ?_
        exact W.iret (v := (nI (0))) hx hb hr (fun t_ ht_ hW_ => ⟨_, rfl, ⟨0, rfl, Nat.zero_le _, by rw [← c_6]; exact hxE, Or.inl rfl⟩, ht_⟩) (fun q h => absurd h List.not_mem_nil) d_P_shortestHead_37
      · refine lv_aload_n hx hb d_P_shortestHead_9 rfl (lv_at hl 0 rfl) ?_
        refine lv_iload_n hx hb d_P_shortestHead_10 rfl (lv_at hl 2 rfl) ?_
        refine lv_iconst (v := nI 1) hx hb d_P_shortestHead_11 (by decide) ?_
        refine pq_isub (a := x) (b := 1) hx hb d_P_shortestHead_12 (by omega) ?_
        refine vp_callSi (W.runV (As := [.int (nI (x - 1))]) (rest := []) ⟨hx, hb, hml, hown, hts⟩ (c_D_bitAt l dC dI hw hw2 hpl2 (hd := hd) (rd := rd) hhow hlate hby (t := x - 1) (by omega)) (cwV 1 hts (gd_V mb_169 mb_170 mb_171 mb_27 mb_172) rfl rfl rfl (by decide +kernel) ⟨Nat.le_of_ble_eq_true rfl, Nat.le_of_ble_eq_true rfl⟩) (pw_R_V (va_recv hKd hPd (ci := ciD) (q0 := 0) rfl rfl) hP hK) rfl rfl hl.1 rfl (lv_room (Nat.le_of_ble_eq_true rfl)) d_P_shortestHead_13 ⟨Nat.le_of_ble_eq_true rfl, Nat.le_of_ble_eq_true rfl⟩) (fun r_13 hr_13 => ?_)
        subst hr_13
        refine lv_aload_n hx hb d_P_shortestHead_16 rfl (lv_at hl 0 rfl) ?_
        refine lv_iload_n hx hb d_P_shortestHead_17 rfl (lv_at hl 2 rfl) ?_
        refine lv_iconst (v := nI 1) hx hb d_P_shortestHead_18 (by decide) ?_
        refine pq_isub (a := x) (b := 1) hx hb d_P_shortestHead_19 (by omega) ?_
        refine lv_iload_n hx hb d_P_shortestHead_20 rfl (lv_at hl 1 rfl) ?_
        refine pq_iadd (a := (x - 1)) (b := rg) hx hb d_P_shortestHead_21 ?_
        refine vp_callSi (W.runV (As := [.int (nI ((x - 1) + rg))]) (rest := [.int (nI ((pw_mk how f f2 late (x - 1)).toNat))]) ⟨hx, hb, hml, hown, hts⟩ (c_D_bitAt l dC dI hw hw2 hpl2 (hd := hd) (rd := rd) hhow hlate hby (t := x - 1 + rg) (by omega)) (cwV 1 hts (gd_V mb_169 mb_170 mb_171 mb_27 mb_172) rfl rfl rfl (by decide +kernel) ⟨Nat.le_of_ble_eq_true rfl, Nat.le_of_ble_eq_true rfl⟩) (pw_R_V (va_recv hKd hPd (ci := ciD) (q0 := 0) rfl rfl) hP hK) rfl rfl hl.1 rfl (lv_room (Nat.le_of_ble_eq_true rfl)) d_P_shortestHead_22 ⟨Nat.le_of_ble_eq_true rfl, Nat.le_of_ble_eq_true rfl⟩) (fun r_22 hr_22 => ?_)
        subst hr_22
        refine pq_icmp_eq (tgt := 30) (a := ((pw_mk how f f2 late (x - 1)).toNat)) (b := ((pw_mk how f f2 late (x - 1 + rg)).toNat)) hx hb d_P_shortestHead_25 (by decide) (by have := pw_lt2 (pw_mk how f f2 late (x - 1)); omega) (by have := pw_lt2 (pw_mk how f f2 late (x - 1 + rg)); omega) (fun c_25 => ?_) (fun c_25 => ?_)
        · refine lv_iinc (v := nI (x - 1)) (lv' := [(2, .int (nI (x - 1))), (0, .ref dd), (1, .int (nI (rg)))]) hx hb d_P_shortestHead_30 hl (k := 2) rfl (pq_dec _ (by omega)) (by decide) rfl (fun ls hl => ?_)
          refine lv_goto (tgt := 5) hx hb d_P_shortestHead_33 (by decide) ?_
          exact ih_5 (x - 1) ls (by omega) (by omega) (pw_E_dn hxE c_25) (lv_sub hl [1, 2, 0] rfl)
        · refine lv_iload_n hx hb d_P_shortestHead_28 rfl (lv_at hl 2 rfl) ?_
          exact W.iret (v := (nI (x))) hx hb hr (fun t_ ht_ hW_ => ⟨_, rfl, ⟨x, rfl, hx1, hxE, Or.inr (fun z => c_25 (by rw [z]))⟩, ht_⟩) (fun q h => absurd h List.not_mem_nil) d_P_shortestHead_29
  exact B_5 _ (hd) ls (Nat.lt_succ_self _) (by omega) hEd (lv_sub hl [1, 2, 0] rfl)
set_option maxHeartbeats 4000000 in
set_option maxRecDepth 100000 in
theorem c_P_shortestRing (l : Launch) (dC : Nat → ClassId) (dI : Nat → Nat → Nat) {a q h pp : Nat} {cA : ClassId} {f : Nat → Bool} {pl : Nat → Int32} (hw : wd_ok h pp f) {a2 q2 h2 pp2 : Nat} {cA2 : ClassId} {f2 : Nat → Bool} {pl2 : Nat → Int32} (hw2 : wd_ok h2 pp2 f2) (hpl2 : wd_pl h2 pp2 f2 pl2) {dd hd rd how late : Nat} (hhow : how < 8) (hlate : late < 100) (hby : how = 5 → 0 < pw_o f2 h2 pp2) (hhd : hd < 100000) (hrd : rd < 100000) (hrd0 : 0 < rd) (hEd : pw_E (pw_mk how f f2 late) hd rd) : Met l y_P_shortestRing ws_P_shortestRing ({ frames := 3, cells := 0, slots := 0, locals := 65 } : Room) (pw_R [.ref dd] dC dI [(cA, .int), (cA2, .int)] (dr dd a a2 hd rd how late ++ (wd a q cA h pp f pl ++ wd a2 q2 cA2 h2 pp2 f2 pl2))) (vp_Si (fun r => (∃ x, r = nI x ∧ 0 < x ∧ x ≤ 60 ∧ pw_E (pw_mk how f f2 late) hd x ∧ ∀ q, 0 < q → q < x → ¬ pw_E (pw_mk how f f2 late) hd q) ∨ (r = -1 ∧ ∀ q, 0 < q → q ≤ 60 → ¬ pw_E (pw_mk how f f2 late) hd q))) 0 0 (fun _ => False) := by
  refine Met.ofW (cc := b_P_shortestRing) (maxL := 8) (ret := (some .int)) (by decide) rfl ?_
  intro p e s m args below meth c s₁ B hml hv
  obtain ⟨rfl, hP, hK⟩ := hv
  have hx := B.exec
  have hb := B.bytes
  have hr := B.returns
  have hts := atoms_spec (ws := ws_P_shortestRing) B.pre
  have hown : s.vm.findClass R_P = some m.cls := findClass_of_methodNamed B.named
  have hlocks := B.notSynchronized
  have hw0 := hw; obtain ⟨hh, hp0, hp6, hE⟩ := hw0
  have ho := pw_o_le f h pp
  have hc := pw_c_le f h
  have hw20 := hw2; obtain ⟨hh2, hp02, hp62, hE2⟩ := hw20
  have ho2 := pw_o_le f2 h2 pp2
  have hc2 := pw_c_le f2 h2
  have hPd := hP.sub (ws' := dr dd a a2 hd rd how late) [0] rfl
  have hKd := hK.sub (tys' := []) [] rfl
  have hPa := hP.sub (ws' := wd a q cA h pp f pl) [1, 2] rfl
  have hKa := hK.sub (tys' := [(cA, .int)]) [0] rfl
  have hPb := hP.sub (ws' := wd a2 q2 cA2 h2 pp2 f2 pl2) [3, 4] rfl
  have hKb := hK.sub (tys' := [(cA2, .int)]) [1] rfl
  have hl := lv_entry ([.ref dd]) (n := 8) (Nat.le_of_ble_eq_true rfl)
  rw [lg_entry_eq]
  generalize (lg_sl ([.ref dd]) ++ List.replicate (8 - (lg_sl ([.ref dd])).length) Slot.unset).toArray = ls at hl ⊢
  have hl : lv_has ls 8 [(0, .ref dd)] := hl
  refine lv_lconst (v := lN 0) hx hb d_P_shortestRing_0 (by decide) ?_
  refine lv_lstore_n (lv' := [(1, .long (lN (0))), (0, .ref dd)]) hx hb d_P_shortestRing_1 rfl hl (by decide) rfl (fun ls hl => ?_)
  refine lv_iconst (v := nI 0) hx hb d_P_shortestRing_2 (by decide) ?_
  refine lv_istore_n (lv' := [(3, .int (nI (0))), (1, .long (lN (0))), (0, .ref dd)]) hx hb d_P_shortestRing_3 rfl hl (by decide) rfl (fun ls hl => ?_)
  have B_4 : ∀ (k_ : Nat) (y : Nat) (i : Nat) (ls : Array Slot), (60 - i) < k_ → (i ≤ 60) → (y < 2 ^ 64 ∧ ∀ j, j < i → y.testBit j = pw_mk how f f2 late (hd + i - 1 - j)) → lv_has ls 8 [(0, .ref dd), (1, .long (lN (y))), (3, .int (nI (i)))] → W p l e (headSpec ws_P_shortestRing ({ frames := 3, cells := 0, slots := 0, locals := 65 } : Room)).room s m ([.ref dd]).toArray below meth c s.heap [] 0 0 (MQ below (vp_Si (fun r => (∃ x, r = nI x ∧ 0 < x ∧ x ≤ 60 ∧ pw_E (pw_mk how f f2 late) hd x ∧ ∀ q, 0 < q → q < x → ¬ pw_E (pw_mk how f f2 late) hd q) ∨ (r = -1 ∧ ∀ q, 0 < q → q ≤ 60 → ¬ pw_E (pw_mk how f f2 late) hd q))) ([.ref dd]).toArray s 0 0 (fun _ => False)) (F0 m 4 ls []) := by
    intro k_
    induction k_ with
    | zero => intro y i ls h_; omega
    | succ k_ ih_4 =>
      intro y i ls hm_ hi hyy hl
      refine lv_iload_n hx hb d_P_shortestRing_4 rfl (lv_at hl 2 rfl) ?_
      refine lv_bipush (v := nI 60) hx hb d_P_shortestRing_5 (by decide) ?_
      refine pq_icmp_ge (tgt := 32) (a := i) (b := 60) hx hb d_P_shortestRing_7 (by decide) (by omega) (by omega) (fun c_7 => ?_) (fun c_7 => ?_)
      · refine lv_aload_n hx hb d_P_shortestRing_32 rfl (lv_at hl 0 rfl) ?_
        refine va_get (D := (dC, dI)) (ci := ciD) (v := .int (nI (hd))) (C := R_D) (T := F_D) (N := 6) hx hb hts (fun w h => List.mem_cons_of_mem _ (in_D w h)) hown hKd hPd 0 rfl rfl 0 (by decide) (hts (.fieldLink R_P 147 "PeriodWords$Draft" "headLength" "I") (List.mem_cons_of_mem _ mb_121)) (fun _ h9 => h9) rfl d_P_shortestRing_33 ?_
        refine lv_bipush (v := nI 60) hx hb d_P_shortestRing_36 (by decide) ?_
        refine pq_iadd (a := hd) (b := 60) hx hb d_P_shortestRing_38 ?_
        refine lv_istore_n (lv' := [(3, .int (nI (hd + 60))), (0, .ref dd), (1, .long (lN (y)))]) hx hb d_P_shortestRing_39 rfl hl (by decide) rfl (fun ls hl => ?_)
        refine lv_ldc2 (v := (1152921504606846975)) hx hb hown (hts (.constantLong R_P 149 (1152921504606846975)) (List.mem_cons_of_mem _ mb_179)) d_P_shortestRing_40 ?_
        refine pq_top (y := .long (lN (2 ^ 60 - 1))) (by rw [show (1152921504606846975 : Int64) = lN (2 ^ 60 - 1) by decide +kernel]) ?_
        refine lv_lstore (lv' := [(4, .long (lN (2 ^ 60 - 1))), (3, .int (nI (hd + 60))), (0, .ref dd), (1, .long (lN (y)))]) hx hb d_P_shortestRing_43 hl (by decide) rfl (fun ls hl => ?_)
        refine lv_iconst (v := nI 0) hx hb d_P_shortestRing_45 (by decide) ?_
        refine lv_istore (lv' := [(6, .int (nI (0))), (4, .long (lN (2 ^ 60 - 1))), (3, .int (nI (hd + 60))), (0, .ref dd), (1, .long (lN (y)))]) hx hb d_P_shortestRing_46 hl (by decide) rfl (fun ls hl => ?_)
        have B_48 : ∀ (k_ : Nat) (y : Nat) (x : Nat) (i : Nat) (ls : Array Slot), (rd - i) < k_ → (i ≤ rd) → (pw_past (pw_mk how f f2 late) (hd + 60 + i) y) → (pw_len (pw_mk how f f2 late) hd i x) → lv_has ls 8 [(0, .ref dd), (1, .long (lN (y))), (3, .int (nI (hd + 60))), (4, .long (lN (x))), (6, .int (nI (i)))] → W p l e (headSpec ws_P_shortestRing ({ frames := 3, cells := 0, slots := 0, locals := 65 } : Room)).room s m ([.ref dd]).toArray below meth c s.heap [] 0 0 (MQ below (vp_Si (fun r => (∃ x, r = nI x ∧ 0 < x ∧ x ≤ 60 ∧ pw_E (pw_mk how f f2 late) hd x ∧ ∀ q, 0 < q → q < x → ¬ pw_E (pw_mk how f f2 late) hd q) ∨ (r = -1 ∧ ∀ q, 0 < q → q ≤ 60 → ¬ pw_E (pw_mk how f f2 late) hd q))) ([.ref dd]).toArray s 0 0 (fun _ => False)) (F0 m 48 ls []) := by
          intro k_
          induction k_ with
          | zero => intro y x i ls h_; omega
          | succ k_ ih_48 =>
            intro y x i ls hm_ hi hyy hxx hl
            refine lv_iload hx hb d_P_shortestRing_48 (lv_at hl 4 rfl) ?_
            refine lv_aload_n hx hb d_P_shortestRing_50 rfl (lv_at hl 0 rfl) ?_
            refine va_get (D := (dC, dI)) (ci := ciD) (v := .int (nI (rd))) (C := R_D) (T := F_D) (N := 6) hx hb hts (fun w h => List.mem_cons_of_mem _ (in_D w h)) hown hKd hPd 0 rfl rfl 1 (by decide) (hts (.fieldLink R_P 151 "PeriodWords$Draft" "ringLength" "I") (List.mem_cons_of_mem _ mb_123)) (fun _ h9 => h9) rfl d_P_shortestRing_51 ?_
            refine pq_icmp_ge (tgt := 108) (a := i) (b := rd) hx hb d_P_shortestRing_54 (by decide) (by omega) (by omega) (fun c_54 => ?_) (fun c_54 => ?_)
            · refine lv_lload hx hb d_P_shortestRing_108 (lv_at hl 3 rfl) ?_
              refine lv_lconst (v := lN 0) hx hb d_P_shortestRing_110 (by decide) ?_
              refine W.lcmp hx hb d_P_shortestRing_111 ?_
              refine lv_topi (fun x_1 ex_1 => ?_)
              refine lv_if_ne (tgt := 117) hx hb d_P_shortestRing_112 (by decide) (fun c_112 => ?_) (fun c_112 => ?_)
              · have c_112n : x ≠ 0 := fun z_ => c_112 (by rw [ex_1]; exact (pq_cmpN (Nat.lt_trans hxx.1 (by decide)) (by decide)).mpr z_)
                obtain ⟨k, hk60, hk1, hkl⟩ := pw_low_ex hxx.1 c_112n
                have hx64 : x < 2 ^ 64 := Nat.lt_trans hxx.1 (by decide)
                have hlow := pw_low hx64 hk1 hkl
                have hn64 : 2 ^ 64 - x < 2 ^ 64 := by omega
                have hfull := pw_len_full hi hxx c_112n (by first | exact Or.inl c_54 | exact Or.inr c_61n)
                refine lv_lload hx hb d_P_shortestRing_117 (lv_at hl 3 rfl) ?_
                refine lv_lload hx hb d_P_shortestRing_119 (lv_at hl 3 rfl) ?_
                refine lv_lneg hx hb d_P_shortestRing_121 ?_
                refine lv_topl (fun y_2 ey_2 => ?_)
                refine pq_top (y := .long (lN (2 ^ 64 - x))) (by rw [ey_2, pq_neg hx64]) ?_
                refine lv_land hx hb d_P_shortestRing_122 ?_
                refine lv_topl (fun y_3 ey_3 => ?_)
                refine pq_top (y := .long (lN (2 ^ k))) (by rw [ey_3, wb_and hx64 hn64, hlow]) ?_
                refine lv_lstore (lv' := [(6, .long (lN (2 ^ k))), (0, .ref dd), (1, .long (lN (y))), (3, .int (nI (hd + 60))), (4, .long (lN (x)))]) hx hb d_P_shortestRing_123 hl (by decide) rfl (fun ls hl => ?_)
                refine lv_lload hx hb d_P_shortestRing_125 (lv_at hl 0 rfl) ?_
                refine lv_lconst (v := lN 1) hx hb d_P_shortestRing_127 (by decide) ?_
                refine lv_lsub hx hb d_P_shortestRing_128 ?_
                refine lv_topl (fun y_4 ey_4 => ?_)
                refine pq_top (y := .long (lN (2 ^ k - 1))) (by rw [ey_4, lN_sub Nat.one_le_two_pow]) ?_
                refine vp_callSi (W.runS (As := [.long (lN (2 ^ k - 1))]) (rest := []) ⟨hx, hb, hml, hown, hts⟩ (c_bitCount l dC dI (x := 2 ^ k - 1) (by have := Nat.pow_lt_pow_right (show 1 < 2 by decide) (show k < 64 by omega); omega)) (va_cwS 1 hts (gd_S mb_181 mb_68 mb_26 mb_69) rfl rfl rfl (by decide +kernel) ⟨Nat.le_of_ble_eq_true rfl, Nat.le_of_ble_eq_true rfl⟩) (pw_R_S pw_P0 hKd) rfl rfl hl.1 rfl (lv_room (Nat.le_of_ble_eq_true rfl)) d_P_shortestRing_129 ⟨Nat.le_of_ble_eq_true rfl, Nat.le_of_ble_eq_true rfl⟩) (fun r_129 hr_129 => ?_)
                subst hr_129
                refine lv_iconst (v := nI 1) hx hb d_P_shortestRing_132 (by decide) ?_
                refine pq_iadd (a := (pw_p (2 ^ k - 1) 64)) (b := 1) hx hb d_P_shortestRing_133 ?_
                exact W.iret (v := (nI ((pw_p (2 ^ k - 1) 64) + 1))) hx hb hr (fun t_ ht_ hW_ => ⟨_, rfl, Or.inl ⟨k + 1, by rw [pw_ones k (by omega)], by omega, by omega, (pw_len_E hrd0 hEd hfull hk60).mp hk1, pw_len_min hrd0 hEd hfull hk60 hkl⟩, ht_⟩) (fun q h => absurd h List.not_mem_nil) d_P_shortestRing_134
              · have c_112n : x = 0 := (pq_cmpN (Nat.lt_trans hxx.1 (by decide)) (by decide)).mp (by rw [← ex_1]; exact c_112)
                refine lv_iconst (v := (-1)) hx hb d_P_shortestRing_115 (by decide) ?_
                exact W.iret (v := (-1)) hx hb hr (fun t_ ht_ hW_ => ⟨_, rfl, Or.inr ⟨rfl, pw_len_none hrd0 hi hEd hxx c_112n⟩, ht_⟩) (fun q h => absurd h List.not_mem_nil) d_P_shortestRing_116
            · refine lv_lload hx hb d_P_shortestRing_57 (lv_at hl 3 rfl) ?_
              refine lv_lconst (v := lN 0) hx hb d_P_shortestRing_59 (by decide) ?_
              refine W.lcmp hx hb d_P_shortestRing_60 ?_
              refine lv_topi (fun x_5 ex_5 => ?_)
              refine lv_if_eq (tgt := 108) hx hb d_P_shortestRing_61 (by decide) (fun c_61 => ?_) (fun c_61 => ?_)
              · have c_61n : x = 0 := (pq_cmpN (Nat.lt_trans hxx.1 (by decide)) (by decide)).mp (by rw [← ex_5]; exact c_61)
                refine lv_lload hx hb d_P_shortestRing_108 (lv_at hl 3 rfl) ?_
                refine lv_lconst (v := lN 0) hx hb d_P_shortestRing_110 (by decide) ?_
                refine W.lcmp hx hb d_P_shortestRing_111 ?_
                refine lv_topi (fun x_6 ex_6 => ?_)
                refine lv_if_ne (tgt := 117) hx hb d_P_shortestRing_112 (by decide) (fun c_112 => ?_) (fun c_112 => ?_)
                · have c_112n : x ≠ 0 := fun z_ => c_112 (by rw [ex_6]; exact (pq_cmpN (Nat.lt_trans hxx.1 (by decide)) (by decide)).mpr z_)
                  obtain ⟨k, hk60, hk1, hkl⟩ := pw_low_ex hxx.1 c_112n
                  have hx64 : x < 2 ^ 64 := Nat.lt_trans hxx.1 (by decide)
                  have hlow := pw_low hx64 hk1 hkl
                  have hn64 : 2 ^ 64 - x < 2 ^ 64 := by omega
                  have hfull := pw_len_full hi hxx c_112n (by first | exact Or.inl c_54 | exact Or.inr c_61n)
                  refine lv_lload hx hb d_P_shortestRing_117 (lv_at hl 3 rfl) ?_
                  refine lv_lload hx hb d_P_shortestRing_119 (lv_at hl 3 rfl) ?_
                  refine lv_lneg hx hb d_P_shortestRing_121 ?_
                  refine lv_topl (fun y_7 ey_7 => ?_)
                  refine pq_top (y := .long (lN (2 ^ 64 - x))) (by rw [ey_7, pq_neg hx64]) ?_
                  refine lv_land hx hb d_P_shortestRing_122 ?_
                  refine lv_topl (fun y_8 ey_8 => ?_)
                  refine pq_top (y := .long (lN (2 ^ k))) (by rw [ey_8, wb_and hx64 hn64, hlow]) ?_
                  refine lv_lstore (lv' := [(6, .long (lN (2 ^ k))), (0, .ref dd), (1, .long (lN (y))), (3, .int (nI (hd + 60))), (4, .long (lN (x)))]) hx hb d_P_shortestRing_123 hl (by decide) rfl (fun ls hl => ?_)
                  refine lv_lload hx hb d_P_shortestRing_125 (lv_at hl 0 rfl) ?_
                  refine lv_lconst (v := lN 1) hx hb d_P_shortestRing_127 (by decide) ?_
                  refine lv_lsub hx hb d_P_shortestRing_128 ?_
                  refine lv_topl (fun y_9 ey_9 => ?_)
                  refine pq_top (y := .long (lN (2 ^ k - 1))) (by rw [ey_9, lN_sub Nat.one_le_two_pow]) ?_
                  refine vp_callSi (W.runS (As := [.long (lN (2 ^ k - 1))]) (rest := []) ⟨hx, hb, hml, hown, hts⟩ (c_bitCount l dC dI (x := 2 ^ k - 1) (by have := Nat.pow_lt_pow_right (show 1 < 2 by decide) (show k < 64 by omega); omega)) (va_cwS 1 hts (gd_S mb_181 mb_68 mb_26 mb_69) rfl rfl rfl (by decide +kernel) ⟨Nat.le_of_ble_eq_true rfl, Nat.le_of_ble_eq_true rfl⟩) (pw_R_S pw_P0 hKd) rfl rfl hl.1 rfl (lv_room (Nat.le_of_ble_eq_true rfl)) d_P_shortestRing_129 ⟨Nat.le_of_ble_eq_true rfl, Nat.le_of_ble_eq_true rfl⟩) (fun r_129 hr_129 => ?_)
                  subst hr_129
                  refine lv_iconst (v := nI 1) hx hb d_P_shortestRing_132 (by decide) ?_
                  refine pq_iadd (a := (pw_p (2 ^ k - 1) 64)) (b := 1) hx hb d_P_shortestRing_133 ?_
                  exact W.iret (v := (nI ((pw_p (2 ^ k - 1) 64) + 1))) hx hb hr (fun t_ ht_ hW_ => ⟨_, rfl, Or.inl ⟨k + 1, by rw [pw_ones k (by omega)], by omega, by omega, (pw_len_E hrd0 hEd hfull hk60).mp hk1, pw_len_min hrd0 hEd hfull hk60 hkl⟩, ht_⟩) (fun q h => absurd h List.not_mem_nil) d_P_shortestRing_134
                · have c_112n : x = 0 := (pq_cmpN (Nat.lt_trans hxx.1 (by decide)) (by decide)).mp (by rw [← ex_6]; exact c_112)
                  refine lv_iconst (v := (-1)) hx hb d_P_shortestRing_115 (by decide) ?_
                  exact W.iret (v := (-1)) hx hb hr (fun t_ ht_ hW_ => ⟨_, rfl, Or.inr ⟨rfl, pw_len_none hrd0 hi hEd hxx c_112n⟩, ht_⟩) (fun q h => absurd h List.not_mem_nil) d_P_shortestRing_116
              · have c_61n : x ≠ 0 := fun z_ => c_61 (by rw [ex_5]; exact (pq_cmpN (Nat.lt_trans hxx.1 (by decide)) (by decide)).mpr z_)
                refine lv_aload_n hx hb d_P_shortestRing_64 rfl (lv_at hl 0 rfl) ?_
                refine lv_iload_n hx hb d_P_shortestRing_65 rfl (lv_at hl 2 rfl) ?_
                refine lv_iload hx hb d_P_shortestRing_66 (lv_at hl 4 rfl) ?_
                refine pq_iadd (a := (hd + 60)) (b := i) hx hb d_P_shortestRing_68 ?_
                refine vp_callSi (W.runV (As := [.int (nI ((hd + 60) + i))]) (rest := []) ⟨hx, hb, hml, hown, hts⟩ (c_D_bitAt l dC dI hw hw2 hpl2 (hd := hd) (rd := rd) hhow hlate hby (t := hd + 60 + i) (by omega)) (cwV 1 hts (gd_V mb_169 mb_170 mb_171 mb_27 mb_172) rfl rfl rfl (by decide +kernel) ⟨Nat.le_of_ble_eq_true rfl, Nat.le_of_ble_eq_true rfl⟩) (pw_R_V (va_recv hKd hPd (ci := ciD) (q0 := 0) rfl rfl) hP hK) rfl rfl hl.1 rfl (lv_room (Nat.le_of_ble_eq_true rfl)) d_P_shortestRing_69 ⟨Nat.le_of_ble_eq_true rfl, Nat.le_of_ble_eq_true rfl⟩) (fun r_69 hr_69 => ?_)
                subst hr_69
                refine lv_istore (lv' := [(7, .int (nI ((pw_mk how f f2 late (hd + 60 + i)).toNat))), (0, .ref dd), (1, .long (lN (y))), (3, .int (nI (hd + 60))), (4, .long (lN (x))), (6, .int (nI (i)))]) hx hb d_P_shortestRing_72 hl (by decide) rfl (fun ls hl => ?_)
                refine lv_lload hx hb d_P_shortestRing_74 (lv_at hl 4 rfl) ?_
                refine lv_iload hx hb d_P_shortestRing_76 (lv_at hl 0 rfl) ?_
                refine lv_iconst (v := nI 1) hx hb d_P_shortestRing_78 (by decide) ?_
                refine pq_icmp_ne (tgt := 86) (a := ((pw_mk how f f2 late (hd + 60 + i)).toNat)) (b := 1) hx hb d_P_shortestRing_79 (by decide) (by have := pw_lt2 (pw_mk how f f2 late (hd + 60 + i)); omega) (by omega) (fun c_79 => ?_) (fun c_79 => ?_)
                · refine lv_lload_n hx hb d_P_shortestRing_86 rfl (lv_at hl 2 rfl) ?_
                  refine lv_ldc2 (v := (-1)) hx hb hown (hts (.constantLong R_P 152 (-1)) (List.mem_cons_of_mem _ mb_180)) d_P_shortestRing_87 ?_
                  refine lv_lxor hx hb d_P_shortestRing_90 ?_
                  refine lv_topl (fun y_10 ey_10 => ?_)
                  refine pq_top (y := .long (lN (2 ^ 64 - (y + 1)))) (by rw [ey_10, pq_not hyy.1]) ?_
                  have B_91 : ∀ (mk_ : Nat) (ls : Array Slot), (mk_ = if pw_mk how f f2 late (hd + 60 + i) = true then y else 2 ^ 64 - (y + 1)) → lv_has ls 8 [(0, .ref dd), (1, .long (lN (y))), (3, .int (nI (hd + 60))), (4, .long (lN (x))), (6, .int (nI (i))), (7, .int (nI ((pw_mk how f f2 late (hd + 60 + i)).toNat)))] → W p l e (headSpec ws_P_shortestRing ({ frames := 3, cells := 0, slots := 0, locals := 65 } : Room)).room s m ([.ref dd]).toArray below meth c s.heap [] 0 0 (MQ below (vp_Si (fun r => (∃ x, r = nI x ∧ 0 < x ∧ x ≤ 60 ∧ pw_E (pw_mk how f f2 late) hd x ∧ ∀ q, 0 < q → q < x → ¬ pw_E (pw_mk how f f2 late) hd q) ∨ (r = -1 ∧ ∀ q, 0 < q → q ≤ 60 → ¬ pw_E (pw_mk how f f2 late) hd q))) ([.ref dd]).toArray s 0 0 (fun _ => False)) (F0 m 91 ls [.long (lN (mk_)), .long (lN (x))]) := by
                    intro mk_ ls hmm hl
                    obtain ⟨hm1, hm2, hm3⟩ := pw_len_s hxx hyy hmm
                    refine lv_land hx hb d_P_shortestRing_91 ?_
                    refine pq_top (y := .long (lN (x &&& mk_))) (by rw [hm2]) ?_
                    refine lv_lstore (lv' := [(4, .long (lN (x &&& mk_))), (0, .ref dd), (1, .long (lN (y))), (3, .int (nI (hd + 60))), (6, .int (nI (i))), (7, .int (nI ((pw_mk how f f2 late (hd + 60 + i)).toNat)))]) hx hb d_P_shortestRing_92 hl (by decide) rfl (fun ls hl => ?_)
                    refine lv_lload_n hx hb d_P_shortestRing_94 rfl (lv_at hl 2 rfl) ?_
                    refine lv_iconst (v := nI 1) hx hb d_P_shortestRing_95 (by decide) ?_
                    refine lv_lshl hx hb d_P_shortestRing_96 rfl ?_
                    refine lv_topl (fun y_11 ey_11 => ?_)
                    refine pq_top (y := .long (lN y <<< ((nI 1).toInt64 &&& 63))) (by rw [ey_11]) ?_
                    refine lv_iload hx hb d_P_shortestRing_97 (lv_at hl 5 rfl) ?_
                    refine lv_i2l hx hb d_P_shortestRing_99 rfl ?_
                    refine lv_topl (fun y_12 ey_12 => ?_)
                    refine pq_top (y := .long (lN ((pw_mk how f f2 late (hd + 60 + i)).toNat))) (by rw [ey_12, pw_toL]) ?_
                    obtain ⟨z_, hz1, hz2, hz3, hz4⟩ := pw_reg_put (y := y) (b := (pw_mk how f f2 late) (hd + 60 + i))
                    refine lv_lor hx hb d_P_shortestRing_100 ?_
                    refine pq_top (y := .long (lN z_)) (by rw [hz2]) ?_
                    refine lv_lstore_n (lv' := [(1, .long (lN (z_))), (4, .long (lN (x &&& mk_))), (0, .ref dd), (3, .int (nI (hd + 60))), (6, .int (nI (i))), (7, .int (nI ((pw_mk how f f2 late (hd + 60 + i)).toNat)))]) hx hb d_P_shortestRing_101 rfl hl (by decide) rfl (fun ls hl => ?_)
                    refine lv_iinc (v := nI (i + 1)) (lv' := [(6, .int (nI (i + 1))), (1, .long (lN (z_))), (4, .long (lN (x &&& mk_))), (0, .ref dd), (3, .int (nI (hd + 60))), (7, .int (nI ((pw_mk how f f2 late (hd + 60 + i)).toNat)))]) hx hb d_P_shortestRing_102 hl (k := 4) rfl (pq_inc _) (by decide) rfl (fun ls hl => ?_)
                    refine lv_goto (tgt := 48) hx hb d_P_shortestRing_105 (by decide) ?_
                    exact ih_48 (z_) (x &&& mk_) (i + 1) ls (by omega) (by omega) (pw_past_s hyy hz1 hz3 hz4) hm3 (lv_sub hl [3, 1, 4, 2, 0] rfl)
                  exact B_91 (2 ^ 64 - (y + 1)) ls (by rw [if_neg (pw_t0 c_79)]) (lv_sub hl [1, 2, 3, 4, 5, 0] rfl)
                · refine lv_lload_n hx hb d_P_shortestRing_82 rfl (lv_at hl 2 rfl) ?_
                  refine lv_goto (tgt := 91) hx hb d_P_shortestRing_83 (by decide) ?_
                  have B_91 : ∀ (mk_ : Nat) (ls : Array Slot), (mk_ = if pw_mk how f f2 late (hd + 60 + i) = true then y else 2 ^ 64 - (y + 1)) → lv_has ls 8 [(0, .ref dd), (1, .long (lN (y))), (3, .int (nI (hd + 60))), (4, .long (lN (x))), (6, .int (nI (i))), (7, .int (nI ((pw_mk how f f2 late (hd + 60 + i)).toNat)))] → W p l e (headSpec ws_P_shortestRing ({ frames := 3, cells := 0, slots := 0, locals := 65 } : Room)).room s m ([.ref dd]).toArray below meth c s.heap [] 0 0 (MQ below (vp_Si (fun r => (∃ x, r = nI x ∧ 0 < x ∧ x ≤ 60 ∧ pw_E (pw_mk how f f2 late) hd x ∧ ∀ q, 0 < q → q < x → ¬ pw_E (pw_mk how f f2 late) hd q) ∨ (r = -1 ∧ ∀ q, 0 < q → q ≤ 60 → ¬ pw_E (pw_mk how f f2 late) hd q))) ([.ref dd]).toArray s 0 0 (fun _ => False)) (F0 m 91 ls [.long (lN (mk_)), .long (lN (x))]) := by
                    intro mk_ ls hmm hl
                    obtain ⟨hm1, hm2, hm3⟩ := pw_len_s hxx hyy hmm
                    refine lv_land hx hb d_P_shortestRing_91 ?_
                    refine pq_top (y := .long (lN (x &&& mk_))) (by rw [hm2]) ?_
                    refine lv_lstore (lv' := [(4, .long (lN (x &&& mk_))), (0, .ref dd), (1, .long (lN (y))), (3, .int (nI (hd + 60))), (6, .int (nI (i))), (7, .int (nI ((pw_mk how f f2 late (hd + 60 + i)).toNat)))]) hx hb d_P_shortestRing_92 hl (by decide) rfl (fun ls hl => ?_)
                    refine lv_lload_n hx hb d_P_shortestRing_94 rfl (lv_at hl 2 rfl) ?_
                    refine lv_iconst (v := nI 1) hx hb d_P_shortestRing_95 (by decide) ?_
                    refine lv_lshl hx hb d_P_shortestRing_96 rfl ?_
                    refine lv_topl (fun y_13 ey_13 => ?_)
                    refine pq_top (y := .long (lN y <<< ((nI 1).toInt64 &&& 63))) (by rw [ey_13]) ?_
                    refine lv_iload hx hb d_P_shortestRing_97 (lv_at hl 5 rfl) ?_
                    refine lv_i2l hx hb d_P_shortestRing_99 rfl ?_
                    refine lv_topl (fun y_14 ey_14 => ?_)
                    refine pq_top (y := .long (lN ((pw_mk how f f2 late (hd + 60 + i)).toNat))) (by rw [ey_14, pw_toL]) ?_
                    obtain ⟨z_, hz1, hz2, hz3, hz4⟩ := pw_reg_put (y := y) (b := (pw_mk how f f2 late) (hd + 60 + i))
                    refine lv_lor hx hb d_P_shortestRing_100 ?_
                    refine pq_top (y := .long (lN z_)) (by rw [hz2]) ?_
                    refine lv_lstore_n (lv' := [(1, .long (lN (z_))), (4, .long (lN (x &&& mk_))), (0, .ref dd), (3, .int (nI (hd + 60))), (6, .int (nI (i))), (7, .int (nI ((pw_mk how f f2 late (hd + 60 + i)).toNat)))]) hx hb d_P_shortestRing_101 rfl hl (by decide) rfl (fun ls hl => ?_)
                    refine lv_iinc (v := nI (i + 1)) (lv' := [(6, .int (nI (i + 1))), (1, .long (lN (z_))), (4, .long (lN (x &&& mk_))), (0, .ref dd), (3, .int (nI (hd + 60))), (7, .int (nI ((pw_mk how f f2 late (hd + 60 + i)).toNat)))]) hx hb d_P_shortestRing_102 hl (k := 4) rfl (pq_inc _) (by decide) rfl (fun ls hl => ?_)
                    refine lv_goto (tgt := 48) hx hb d_P_shortestRing_105 (by decide) ?_
                    exact ih_48 (z_) (x &&& mk_) (i + 1) ls (by omega) (by omega) (pw_past_s hyy hz1 hz3 hz4) hm3 (lv_sub hl [3, 1, 4, 2, 0] rfl)
                  exact B_91 (y) ls (by rw [if_pos (pw_t1 c_79)]) (lv_sub hl [1, 2, 3, 4, 5, 0] rfl)
        exact B_48 _ (y) (2 ^ 60 - 1) (0) ls (Nat.lt_succ_self _) (by omega) (pw_reg2 (show i = 60 by omega) hyy) (pw_len_0 _ _) (lv_sub hl [3, 4, 2, 1, 0] rfl)
      · refine lv_lload_n hx hb d_P_shortestRing_10 rfl (lv_at hl 1 rfl) ?_
        refine lv_iconst (v := nI 1) hx hb d_P_shortestRing_11 (by decide) ?_
        refine lv_lshl hx hb d_P_shortestRing_12 rfl ?_
        refine lv_topl (fun y_15 ey_15 => ?_)
        refine pq_top (y := .long (lN y <<< ((nI 1).toInt64 &&& 63))) (by rw [ey_15]) ?_
        refine lv_aload_n hx hb d_P_shortestRing_13 rfl (lv_at hl 0 rfl) ?_
        refine lv_aload_n hx hb d_P_shortestRing_14 rfl (lv_at hl 0 rfl) ?_
        refine va_get (D := (dC, dI)) (ci := ciD) (v := .int (nI (hd))) (C := R_D) (T := F_D) (N := 6) hx hb hts (fun w h => List.mem_cons_of_mem _ (in_D w h)) hown hKd hPd 0 rfl rfl 0 (by decide) (hts (.fieldLink R_P 147 "PeriodWords$Draft" "headLength" "I") (List.mem_cons_of_mem _ mb_121)) (fun _ h9 => h9) rfl d_P_shortestRing_15 ?_
        refine lv_iload_n hx hb d_P_shortestRing_18 rfl (lv_at hl 2 rfl) ?_
        refine pq_iadd (a := hd) (b := i) hx hb d_P_shortestRing_19 ?_
        refine vp_callSi (W.runV (As := [.int (nI (hd + i))]) (rest := [.long (lN y <<< ((nI 1).toInt64 &&& 63))]) ⟨hx, hb, hml, hown, hts⟩ (c_D_bitAt l dC dI hw hw2 hpl2 (hd := hd) (rd := rd) hhow hlate hby (t := hd + i) (by omega)) (cwV 1 hts (gd_V mb_169 mb_170 mb_171 mb_27 mb_172) rfl rfl rfl (by decide +kernel) ⟨Nat.le_of_ble_eq_true rfl, Nat.le_of_ble_eq_true rfl⟩) (pw_R_V (va_recv hKd hPd (ci := ciD) (q0 := 0) rfl rfl) hP hK) rfl rfl hl.1 rfl (lv_room (Nat.le_of_ble_eq_true rfl)) d_P_shortestRing_20 ⟨Nat.le_of_ble_eq_true rfl, Nat.le_of_ble_eq_true rfl⟩) (fun r_20 hr_20 => ?_)
        subst hr_20
        refine lv_i2l hx hb d_P_shortestRing_23 rfl ?_
        refine lv_topl (fun y_16 ey_16 => ?_)
        refine pq_top (y := .long (lN ((pw_mk how f f2 late (hd + i)).toNat))) (by rw [ey_16, pw_toL]) ?_
        obtain ⟨z_, hz1, hz2, hz3, hz4⟩ := pw_reg_put (y := y) (b := (pw_mk how f f2 late) (hd + i))
        refine lv_lor hx hb d_P_shortestRing_24 ?_
        refine pq_top (y := .long (lN z_)) (by rw [hz2]) ?_
        refine lv_lstore_n (lv' := [(1, .long (lN (z_))), (0, .ref dd), (3, .int (nI (i)))]) hx hb d_P_shortestRing_25 rfl hl (by decide) rfl (fun ls hl => ?_)
        refine lv_iinc (v := nI (i + 1)) (lv' := [(3, .int (nI (i + 1))), (1, .long (lN (z_))), (0, .ref dd)]) hx hb d_P_shortestRing_26 hl (k := 2) rfl (pq_inc _) (by decide) rfl (fun ls hl => ?_)
        refine lv_goto (tgt := 4) hx hb d_P_shortestRing_29 (by decide) ?_
        exact ih_4 (z_) (i + 1) ls (by omega) (by omega) (pw_reg1 hi c_7 hyy hz1 hz3 hz4) (lv_sub hl [2, 1, 0] rfl)
  exact B_4 _ (0) (0) ls (Nat.lt_succ_self _) (by omega) ⟨by decide, fun j hj => absurd hj (Nat.not_lt_zero j)⟩ (lv_sub hl [2, 1, 0] rfl)
set_option maxHeartbeats 4000000 in
set_option maxRecDepth 100000 in
theorem c_P_find (l : Launch) (dC : Nat → ClassId) (dI : Nat → Nat → Nat) {o q n : Nat} {cW : ClassId} {wa : Nat → Option Nat} (hn : n ≤ 40) {x : Int32} : Met l y_P_find ws_P_find ({ frames := 0, cells := 0, slots := 0, locals := 0 } : Room) (pw_R [.ref o, .int (x)] dC dI [(cW, .object "PeriodWords$Word")] (pwc o q n cW wa)) (va_Sq (fun r => (∃ i, i < n ∧ x = nI i ∧ r = wa i) ∨ ((¬ ∃ i, i < n ∧ x = nI i) ∧ r = none))) 0 0 (fun _ => False) := by
  refine Met.ofW (cc := b_P_find) (maxL := 2) (ret := (some (.object "PeriodWords$Word"))) (by decide) rfl ?_
  intro p e s m args below meth c s₁ B hml hv
  obtain ⟨rfl, hP, hK⟩ := hv
  have hx := B.exec
  have hb := B.bytes
  have hr := B.returns
  have hts := atoms_spec (ws := ws_P_find) B.pre
  have hown : s.vm.findClass R_P = some m.cls := findClass_of_methodNamed B.named
  have hlocks := B.notSynchronized
  have hl := lv_entry ([.ref o, .int (x)]) (n := 2) (Nat.le_of_ble_eq_true rfl)
  rw [lg_entry_eq]
  generalize (lg_sl ([.ref o, .int (x)]) ++ List.replicate (2 - (lg_sl ([.ref o, .int (x)])).length) Slot.unset).toArray = ls at hl ⊢
  have hl : lv_has ls 2 [(0, .ref o), (1, .int (x))] := hl
  refine lv_iload_n hx hb d_P_find_0 rfl (lv_at hl 1 rfl) ?_
  refine lv_if_lt (tgt := 21) hx hb d_P_find_1 (by decide) (fun c_1 => ?_) (fun c_1 => ?_)
  · refine lv_null hx hb d_P_find_21 ?_
    exact W.aret (v := .null) hx hb hr (Or.inl ⟨_, rfl⟩) (Or.inl rfl) (fun t_ ht_ hW_ => ⟨none, rfl, Or.inr ⟨fun ⟨i, hi, e⟩ => (by subst e; first | exact nI_pos (by omega) c_1 | exact absurd ((nI_leI (by omega) (by omega)).mp c_9) (by omega)), rfl⟩, ht_⟩) (fun q h => absurd h List.not_mem_nil) d_P_find_22
  · refine lv_iload_n hx hb d_P_find_4 rfl (lv_at hl 1 rfl) ?_
    refine lv_aload_n hx hb d_P_find_5 rfl (lv_at hl 0 rfl) ?_
    refine va_get (D := (dC, dI)) (ci := ciP) (v := .int (nI (n))) (C := R_P) (T := F_P) (N := 2) hx hb hts (fun w h => List.mem_cons_of_mem _ (in_P w h)) hown hK hP 0 rfl rfl 1 (by decide) (hts (.fieldLink R_P 15 "PeriodWords" "count" "I") (List.mem_cons_of_mem _ mb_46)) (fun _ h9 => h9) rfl d_P_find_6 ?_
    refine lv_icmp_ge (tgt := 21) hx hb d_P_find_9 (by decide) (fun c_9 => ?_) (fun c_9 => ?_)
    · refine lv_null hx hb d_P_find_21 ?_
      exact W.aret (v := .null) hx hb hr (Or.inl ⟨_, rfl⟩) (Or.inl rfl) (fun t_ ht_ hW_ => ⟨none, rfl, Or.inr ⟨fun ⟨i, hi, e⟩ => (by subst e; first | exact nI_pos (by omega) c_1 | exact absurd ((nI_leI (by omega) (by omega)).mp c_9) (by omega)), rfl⟩, ht_⟩) (fun q h => absurd h List.not_mem_nil) d_P_find_22
    · obtain ⟨j, hj, rfl⟩ : ∃ j, j < n ∧ x = nI j := by
        rcases pk_ix x (n := n) (by omega) with z | z | z
        · exact absurd z c_1
        · exact absurd z c_9
        · exact z
      refine lv_iload_n hx hb d_P_find_12 rfl (lv_at hl 1 rfl) ?_
      refine lv_aload_n hx hb d_P_find_13 rfl (lv_at hl 0 rfl) ?_
      refine va_get (D := (dC, dI)) (ci := ciP) (v := .ref q) (C := R_P) (T := F_P) (N := 2) hx hb hts (fun w h => List.mem_cons_of_mem _ (in_P w h)) hown hK hP 0 rfl rfl 0 (by decide) (hts (.fieldLink R_P 11 "PeriodWords" "words" "[LPeriodWords$Word;") (List.mem_cons_of_mem _ mb_45)) (fun _ h9 => h9) rfl d_P_find_14 ?_
      refine va_alen hx hb hK hP 1 0 rfl rfl (v := nI (40)) rfl d_P_find_17 ?_
      refine pq_icmp_lt (tgt := 23) (a := j) (b := 40) hx hb d_P_find_18 (by decide) (by omega) (by omega) (fun c_18 => ?_) (fun c_18 => absurd c_18 (by omega))
      refine lv_aload_n hx hb d_P_find_23 rfl (lv_at hl 0 rfl) ?_
      refine va_get (D := (dC, dI)) (ci := ciP) (v := .ref q) (C := R_P) (T := F_P) (N := 2) hx hb hts (fun w h => List.mem_cons_of_mem _ (in_P w h)) hown hK hP 0 rfl rfl 0 (by decide) (hts (.fieldLink R_P 11 "PeriodWords" "words" "[LPeriodWords$Word;") (List.mem_cons_of_mem _ mb_45)) (fun _ h9 => h9) rfl d_P_find_24 ?_
      refine lv_iload_n hx hb d_P_find_27 rfl (lv_at hl 1 rfl) ?_
      refine va_aldq hx hb hK hP 1 0 rfl rfl (vp_in_nI (n := j) (by omega) (by omega)) d_P_find_28 ?_
      refine pq_top (y := va_rf (wa j)) (by rw [pq_cl (by omega)]) ?_
      exact W.aret (v := va_rf (wa j)) hx hb hr (Or.inl ⟨_, rfl⟩) (va_rf_or _) (fun t_ ht_ hW_ => ⟨(wa j), rfl, Or.inl ⟨j, hj, rfl, rfl⟩, ht_⟩) (fun q h => absurd h List.not_mem_nil) d_P_find_29
