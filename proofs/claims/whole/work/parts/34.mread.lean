set_option maxHeartbeats 4000000 in
set_option maxRecDepth 100000 in
theorem c_M_in (l : Launch) (dC : Nat → ClassId) (dI : Nat → Nat → Nat) {x lo hi : Int32} : Met l y_M_in ws_M_in ({ frames := 0, cells := 0, slots := 0, locals := 0 } : Room) (pw_R [.int (x), .int (lo), .int (hi)] dC dI [] []) (vp_Si (fun r => (r = nI 1 ∧ ¬ x < lo ∧ ¬ hi < x) ∨ (r = nI 0 ∧ ¬ (¬ x < lo ∧ ¬ hi < x)))) 0 0 (fun _ => False) := by
  refine Met.ofW (cc := b_M_in) (maxL := 3) (ret := (some .boolean)) (by decide) rfl ?_
  intro p e s m args below meth c s₁ B hml hv
  obtain ⟨rfl, hP, hK⟩ := hv
  have hx := B.exec
  have hb := B.bytes
  have hr := B.returns
  have hts := atoms_spec (ws := ws_M_in) B.pre
  have hown : s.vm.findClass R_M = some m.cls := findClass_of_methodNamed B.named
  have hlocks := B.notSynchronized
  have hl := lv_entry ([.int (x), .int (lo), .int (hi)]) (n := 3) (Nat.le_of_ble_eq_true rfl)
  rw [lg_entry_eq]
  generalize (lg_sl ([.int (x), .int (lo), .int (hi)]) ++ List.replicate (3 - (lg_sl ([.int (x), .int (lo), .int (hi)])).length) Slot.unset).toArray = ls at hl ⊢
  have hl : lv_has ls 3 [(0, .int (x)), (1, .int (lo)), (2, .int (hi))] := hl
  refine lv_iload_n hx hb d_M_in_0 rfl (lv_at hl 0 rfl) ?_
  refine lv_iload_n hx hb d_M_in_1 rfl (lv_at hl 1 rfl) ?_
  refine lv_icmp_lt (tgt := 14) hx hb d_M_in_2 (by decide) (fun c_2 => ?_) (fun c_2 => ?_)
  · refine lv_iconst (v := nI 0) hx hb d_M_in_14 (by decide) ?_
    exact W.zret (v := (nI (0))) hx hb hr (by decide) (fun t_ ht_ hW_ => ⟨_, rfl, Or.inr ⟨rfl, fun z => by first | exact z.1 c_2 | exact z.2 c_7⟩, ht_⟩) (fun q h => absurd h List.not_mem_nil) d_M_in_15
  · refine lv_iload_n hx hb d_M_in_5 rfl (lv_at hl 0 rfl) ?_
    refine lv_iload_n hx hb d_M_in_6 rfl (lv_at hl 2 rfl) ?_
    refine lv_icmp_gt (tgt := 14) hx hb d_M_in_7 (by decide) (fun c_7 => ?_) (fun c_7 => ?_)
    · refine lv_iconst (v := nI 0) hx hb d_M_in_14 (by decide) ?_
      exact W.zret (v := (nI (0))) hx hb hr (by decide) (fun t_ ht_ hW_ => ⟨_, rfl, Or.inr ⟨rfl, fun z => by first | exact z.1 c_2 | exact z.2 c_7⟩, ht_⟩) (fun q h => absurd h List.not_mem_nil) d_M_in_15
    · refine lv_iconst (v := nI 1) hx hb d_M_in_10 (by decide) ?_
      refine lv_goto (tgt := 15) hx hb d_M_in_11 (by decide) ?_
      exact W.zret (v := (nI (1))) hx hb hr (by decide) (fun t_ ht_ hW_ => ⟨_, rfl, Or.inl ⟨rfl, c_2, c_7⟩, ht_⟩) (fun q h => absurd h List.not_mem_nil) d_M_in_15
set_option maxHeartbeats 4000000 in
set_option maxRecDepth 100000 in
theorem c_M_isWord (l : Launch) (dC : Nat → ClassId) (dI : Nat → Nat → Nat) {o a1 a2 a3 a4 a5 : Nat} {c1 c2 c3 c4 c5 : ClassId} {th mo le : Int32} {n : Nat} {xh yr : Nat → Int32} {xb yb : Nat → Int64} {bs : Nat → Int32} (hn : n ≤ 40) {x : Int32} : Met l y_M_isWord ws_M_isWord ({ frames := 1, cells := 0, slots := 0, locals := 22 } : Room) (pw_R [.ref o, .int (x)] dC dI (mdT c1 c2 c3 c4 c5) (md o a1 a2 a3 a4 a5 c1 c2 c3 c4 c5 th n mo le xh yr xb yb bs)) (vp_Si (fun r => (r = nI 1 ∧ ∃ i, i < n ∧ x = nI i) ∨ (r = nI 0 ∧ ¬ ∃ i, i < n ∧ x = nI i))) 0 0 (fun _ => False) := by
  refine Met.ofW (cc := b_M_isWord) (maxL := 2) (ret := (some .boolean)) (by decide) rfl ?_
  intro p e s m args below meth c s₁ B hml hv
  obtain ⟨rfl, hP, hK⟩ := hv
  have hx := B.exec
  have hb := B.bytes
  have hr := B.returns
  have hts := atoms_spec (ws := ws_M_isWord) B.pre
  have hown : s.vm.findClass R_M = some m.cls := findClass_of_methodNamed B.named
  have hlocks := B.notSynchronized
  have hl := lv_entry ([.ref o, .int (x)]) (n := 2) (Nat.le_of_ble_eq_true rfl)
  rw [lg_entry_eq]
  generalize (lg_sl ([.ref o, .int (x)]) ++ List.replicate (2 - (lg_sl ([.ref o, .int (x)])).length) Slot.unset).toArray = ls at hl ⊢
  have hl : lv_has ls 2 [(0, .ref o), (1, .int (x))] := hl
  refine lv_iload_n hx hb d_M_isWord_0 rfl (lv_at hl 1 rfl) ?_
  refine lv_iconst (v := nI 0) hx hb d_M_isWord_1 (by decide) ?_
  refine lv_aload_n hx hb d_M_isWord_2 rfl (lv_at hl 0 rfl) ?_
  refine va_get (D := (dC, dI)) (ci := ciM) (v := .int (nI (n))) (C := R_M) (T := F_M) (N := 9) hx hb hts (fun w h => List.mem_cons_of_mem _ (in_M w h)) hown hK hP 0 rfl rfl 1 (by decide) (hts (.fieldLink R_M 31 "PeriodWordsModel" "words" "I") (List.mem_cons_of_mem _ mb_384)) (fun _ h9 => h9) rfl d_M_isWord_3 ?_
  refine lv_iconst (v := nI 1) hx hb d_M_isWord_6 (by decide) ?_
  refine lv_isub hx hb d_M_isWord_7 ?_
  refine lv_topi (fun x_1 ex_1 => ?_)
  refine pq_top (y := .int (nI n - nI 1)) (by rw [ex_1]) ?_
  refine vp_callSi (W.runS (As := [.int (x), .int (nI (0)), .int (nI n - nI 1)]) (rest := []) ⟨hx, hb, hml, hown, hts⟩ (c_M_in l dC dI (x := x) (lo := nI 0) (hi := nI n - nI 1)) (va_cwS 3 hts (gd_S mb_421 mb_422 mb_23 mb_423) rfl rfl rfl (by decide +kernel) ⟨Nat.le_of_ble_eq_true rfl, Nat.le_of_ble_eq_true rfl⟩) (pw_R_S pw_P0 (hK.sub [] rfl)) rfl rfl hl.1 rfl (lv_room (Nat.le_of_ble_eq_true rfl)) d_M_isWord_8 ⟨Nat.le_of_ble_eq_true rfl, Nat.le_of_ble_eq_true rfl⟩) (fun r_8 hr_8 => ?_)
  rw [pq_isw hn] at hr_8
  exact W.zret (v := (r_8)) hx hb hr (by rcases hr_8 with z | z <;> rw [z.1] <;> decide) (fun t_ ht_ hW_ => ⟨_, rfl, hr_8, ht_⟩) (fun q h => absurd h List.not_mem_nil) d_M_isWord_11
set_option maxHeartbeats 4000000 in
set_option maxRecDepth 100000 in
theorem c_M_has (l : Launch) (dC : Nat → ClassId) (dI : Nat → Nat → Nat) {o a1 a2 a3 a4 a5 : Nat} {c1 c2 c3 c4 c5 : ClassId} {th mo le : Int32} {n : Nat} {xh yr : Nat → Int32} {xb yb : Nat → Int64} {bs : Nat → Int32} {i h pp : Nat} {f : Nat → Bool} (hmd : md_at xh yr xb yb i h pp f) {t : Nat} (ht : t < 1073741824) : Met l y_M_has ws_M_has ({ frames := 0, cells := 0, slots := 0, locals := 0 } : Room) (pw_R [.ref o, .int (nI (i)), .int (nI (t))] dC dI (mdT c1 c2 c3 c4 c5) (md o a1 a2 a3 a4 a5 c1 c2 c3 c4 c5 th n mo le xh yr xb yb bs)) (vp_Si (fun r => r = nI (f t).toNat)) 0 0 (fun _ => False) := by
  refine Met.ofW (cc := b_M_has) (maxL := 3) (ret := (some .boolean)) (by decide) rfl ?_
  intro p e s m args below meth c s₁ B hml hv
  obtain ⟨rfl, hP, hK⟩ := hv
  have hx := B.exec
  have hb := B.bytes
  have hr := B.returns
  have hts := atoms_spec (ws := ws_M_has) B.pre
  have hown : s.vm.findClass R_M = some m.cls := findClass_of_methodNamed B.named
  have hlocks := B.notSynchronized
  have hmd_ := hmd; obtain ⟨hi, e1, e2, e3, e4, hok⟩ := hmd_; have hok_ := hok; obtain ⟨hh, hp0, hp6, hE⟩ := hok_
  have ho := pw_o_le f h pp
  have hc := pw_c_le f h
  have hb0 := pq_lt60 (pw_b_lt f 0 h) hh
  have hb1 := pq_lt60 (pw_b_lt f h pp) hp6
  have hl := lv_entry ([.ref o, .int (nI (i)), .int (nI (t))]) (n := 3) (Nat.le_of_ble_eq_true rfl)
  rw [lg_entry_eq]
  generalize (lg_sl ([.ref o, .int (nI (i)), .int (nI (t))]) ++ List.replicate (3 - (lg_sl ([.ref o, .int (nI (i)), .int (nI (t))])).length) Slot.unset).toArray = ls at hl ⊢
  have hl : lv_has ls 3 [(0, .ref o), (1, .int (nI (i))), (2, .int (nI (t)))] := hl
  refine lv_iload_n hx hb d_M_has_0 rfl (lv_at hl 2 rfl) ?_
  refine lv_aload_n hx hb d_M_has_1 rfl (lv_at hl 0 rfl) ?_
  refine va_get (D := (dC, dI)) (ci := ciM) (v := .ref a1) (C := R_M) (T := F_M) (N := 9) hx hb hts (fun w h => List.mem_cons_of_mem _ (in_M w h)) hown hK hP 0 rfl rfl 2 (by decide) (hts (.fieldLink R_M 7 "PeriodWordsModel" "head" "[I") (List.mem_cons_of_mem _ mb_385)) (fun _ h9 => h9) rfl d_M_has_2 ?_
  refine lv_iload_n hx hb d_M_has_5 rfl (lv_at hl 1 rfl) ?_
  refine va_iald hx hb hK hP 1 0 rfl rfl (vp_in_nI (n := i) (by omega) (by omega)) d_M_has_6 ?_
  refine pq_top (y := .int (xh i)) (by rw [pq_cl (by omega)]) ?_
  refine pq_top (y := .int (nI (h))) (by rw [e1]) ?_
  refine pq_icmp_ge (tgt := 23) (a := t) (b := h) hx hb d_M_has_7 (by decide) (by omega) (by omega) (fun c_7 => ?_) (fun c_7 => ?_)
  · have q2 : pw_b f h pp < 2 ^ 62 := Nat.lt_trans hb1 (by decide)
    have hm := Nat.mod_lt (t - h) hp0
    refine lv_aload_n hx hb d_M_has_23 rfl (lv_at hl 0 rfl) ?_
    refine va_get (D := (dC, dI)) (ci := ciM) (v := .ref a4) (C := R_M) (T := F_M) (N := 9) hx hb hts (fun w h => List.mem_cons_of_mem _ (in_M w h)) hown hK hP 0 rfl rfl 5 (by decide) (hts (.fieldLink R_M 20 "PeriodWordsModel" "ringBits" "[J") (List.mem_cons_of_mem _ mb_388)) (fun _ h9 => h9) rfl d_M_has_24 ?_
    refine lv_iload_n hx hb d_M_has_27 rfl (lv_at hl 1 rfl) ?_
    refine va_lald hx hb hK hP 4 3 rfl rfl (vp_in_nI (n := i) (by omega) (by omega)) d_M_has_28 ?_
    refine pq_top (y := .long (yb i)) (by rw [pq_cl (by omega)]) ?_
    refine pq_top (y := .long (lN (pw_b f h pp))) (by rw [e4]) ?_
    refine lv_iload_n hx hb d_M_has_29 rfl (lv_at hl 2 rfl) ?_
    refine lv_aload_n hx hb d_M_has_30 rfl (lv_at hl 0 rfl) ?_
    refine va_get (D := (dC, dI)) (ci := ciM) (v := .ref a1) (C := R_M) (T := F_M) (N := 9) hx hb hts (fun w h => List.mem_cons_of_mem _ (in_M w h)) hown hK hP 0 rfl rfl 2 (by decide) (hts (.fieldLink R_M 7 "PeriodWordsModel" "head" "[I") (List.mem_cons_of_mem _ mb_385)) (fun _ h9 => h9) rfl d_M_has_31 ?_
    refine lv_iload_n hx hb d_M_has_34 rfl (lv_at hl 1 rfl) ?_
    refine va_iald hx hb hK hP 1 0 rfl rfl (vp_in_nI (n := i) (by omega) (by omega)) d_M_has_35 ?_
    refine pq_top (y := .int (xh i)) (by rw [pq_cl (by omega)]) ?_
    refine pq_top (y := .int (nI (h))) (by rw [e1]) ?_
    refine pq_isub (a := t) (b := h) hx hb d_M_has_36 (by omega) ?_
    refine lv_aload_n hx hb d_M_has_37 rfl (lv_at hl 0 rfl) ?_
    refine va_get (D := (dC, dI)) (ci := ciM) (v := .ref a2) (C := R_M) (T := F_M) (N := 9) hx hb hts (fun w h => List.mem_cons_of_mem _ (in_M w h)) hown hK hP 0 rfl rfl 3 (by decide) (hts (.fieldLink R_M 13 "PeriodWordsModel" "ring" "[I") (List.mem_cons_of_mem _ mb_386)) (fun _ h9 => h9) rfl d_M_has_38 ?_
    refine lv_iload_n hx hb d_M_has_41 rfl (lv_at hl 1 rfl) ?_
    refine va_iald hx hb hK hP 2 1 rfl rfl (vp_in_nI (n := i) (by omega) (by omega)) d_M_has_42 ?_
    refine pq_top (y := .int (yr i)) (by rw [pq_cl (by omega)]) ?_
    refine pq_top (y := .int (nI (pp))) (by rw [e2]) ?_
    refine pq_irem (a := (t - h)) (b := pp) hx hb d_M_has_43 (by omega) (by omega) (by omega) ?_
    refine lv_lshr hx hb d_M_has_44 rfl ?_
    refine lv_topl (fun y_1 ey_1 => ?_)
    refine pq_top (y := .long (lN (pw_b f h pp / 2 ^ ((t - h) % pp)))) (by rw [ey_1, pq_lshr q2 (by omega)]) ?_
    refine lv_lconst (v := lN 1) hx hb d_M_has_45 (by decide) ?_
    refine lv_land hx hb d_M_has_46 ?_
    refine lv_topl (fun y_2 ey_2 => ?_)
    refine pq_top (y := .long (lN ((f t).toNat))) (by rw [ey_2, pq_land1 (Nat.lt_of_le_of_lt (Nat.div_le_self _ _) (Nat.lt_trans hb1 (by decide))), pq_bitN, pw_b_t f h pp _ hm, pw_at hE c_7]) ?_
    have B_47 : ∀ (z : Nat) (ls : Array Slot), (z = (f t).toNat) → lv_has ls 3 [] → W p l e (headSpec ws_M_has ({ frames := 0, cells := 0, slots := 0, locals := 0 } : Room)).room s m ([.ref o, .int (nI (i)), .int (nI (t))]).toArray below meth c s.heap [] 0 0 (MQ below (vp_Si (fun r => r = nI (f t).toNat)) ([.ref o, .int (nI (i)), .int (nI (t))]).toArray s 0 0 (fun _ => False)) (F0 m 47 ls [.long (lN (z))]) := by
      intro z ls hzz hl
      refine lv_lconst (v := lN 1) hx hb d_M_has_47 (by decide) ?_
      refine W.lcmp hx hb d_M_has_48 ?_
      refine lv_topi (fun x_3 ex_3 => ?_)
      refine lv_if_ne (tgt := 56) hx hb d_M_has_49 (by decide) (fun c_49 => ?_) (fun c_49 => ?_)
      · have c_49n : z ≠ 1 := fun z_ => c_49 (by rw [ex_3]; exact (pq_cmpN (by have := pw_lt2 (f t); omega) (by decide)).mpr z_)
        refine lv_iconst (v := nI 0) hx hb d_M_has_56 (by decide) ?_
        exact W.zret (v := (nI (0))) hx hb hr (by decide) (fun t_ ht_ hW_ => ⟨_, rfl, by (try dsimp only); rw [← hzz, show z = 0 by have := pw_lt2 (f t); omega], ht_⟩) (fun q h => absurd h List.not_mem_nil) d_M_has_57
      · have c_49n : z = 1 := (pq_cmpN (by have := pw_lt2 (f t); omega) (by decide)).mp (by rw [← ex_3]; exact c_49)
        refine lv_iconst (v := nI 1) hx hb d_M_has_52 (by decide) ?_
        refine lv_goto (tgt := 57) hx hb d_M_has_53 (by decide) ?_
        exact W.zret (v := (nI (1))) hx hb hr (by decide) (fun t_ ht_ hW_ => ⟨_, rfl, by (try dsimp only); rw [← hzz, c_49n], ht_⟩) (fun q h => absurd h List.not_mem_nil) d_M_has_57
    exact B_47 ((f t).toNat) ls rfl (lv_sub hl [] rfl)
  · have q2 : pw_b f 0 h < 2 ^ 62 := Nat.lt_trans hb0 (by decide)
    refine lv_aload_n hx hb d_M_has_10 rfl (lv_at hl 0 rfl) ?_
    refine va_get (D := (dC, dI)) (ci := ciM) (v := .ref a3) (C := R_M) (T := F_M) (N := 9) hx hb hts (fun w h => List.mem_cons_of_mem _ (in_M w h)) hown hK hP 0 rfl rfl 4 (by decide) (hts (.fieldLink R_M 16 "PeriodWordsModel" "headBits" "[J") (List.mem_cons_of_mem _ mb_387)) (fun _ h9 => h9) rfl d_M_has_11 ?_
    refine lv_iload_n hx hb d_M_has_14 rfl (lv_at hl 1 rfl) ?_
    refine va_lald hx hb hK hP 3 2 rfl rfl (vp_in_nI (n := i) (by omega) (by omega)) d_M_has_15 ?_
    refine pq_top (y := .long (xb i)) (by rw [pq_cl (by omega)]) ?_
    refine pq_top (y := .long (lN (pw_b f 0 h))) (by rw [e3]) ?_
    refine lv_iload_n hx hb d_M_has_16 rfl (lv_at hl 2 rfl) ?_
    refine lv_lshr hx hb d_M_has_17 rfl ?_
    refine lv_topl (fun y_4 ey_4 => ?_)
    refine pq_top (y := .long (lN (pw_b f 0 h / 2 ^ t))) (by rw [ey_4, pq_lshr q2 (by omega)]) ?_
    refine lv_lconst (v := lN 1) hx hb d_M_has_18 (by decide) ?_
    refine lv_land hx hb d_M_has_19 ?_
    refine lv_topl (fun y_5 ey_5 => ?_)
    refine pq_top (y := .long (lN ((f t).toNat))) (by rw [ey_5, pq_land1 (Nat.lt_of_le_of_lt (Nat.div_le_self _ _) (Nat.lt_trans hb0 (by decide))), pq_bitN, pw_b_t f 0 h t c_7, Nat.zero_add]) ?_
    refine lv_goto (tgt := 47) hx hb d_M_has_20 (by decide) ?_
    have B_47 : ∀ (z : Nat) (ls : Array Slot), (z = (f t).toNat) → lv_has ls 3 [] → W p l e (headSpec ws_M_has ({ frames := 0, cells := 0, slots := 0, locals := 0 } : Room)).room s m ([.ref o, .int (nI (i)), .int (nI (t))]).toArray below meth c s.heap [] 0 0 (MQ below (vp_Si (fun r => r = nI (f t).toNat)) ([.ref o, .int (nI (i)), .int (nI (t))]).toArray s 0 0 (fun _ => False)) (F0 m 47 ls [.long (lN (z))]) := by
      intro z ls hzz hl
      refine lv_lconst (v := lN 1) hx hb d_M_has_47 (by decide) ?_
      refine W.lcmp hx hb d_M_has_48 ?_
      refine lv_topi (fun x_6 ex_6 => ?_)
      refine lv_if_ne (tgt := 56) hx hb d_M_has_49 (by decide) (fun c_49 => ?_) (fun c_49 => ?_)
      · have c_49n : z ≠ 1 := fun z_ => c_49 (by rw [ex_6]; exact (pq_cmpN (by have := pw_lt2 (f t); omega) (by decide)).mpr z_)
        refine lv_iconst (v := nI 0) hx hb d_M_has_56 (by decide) ?_
        exact W.zret (v := (nI (0))) hx hb hr (by decide) (fun t_ ht_ hW_ => ⟨_, rfl, by (try dsimp only); rw [← hzz, show z = 0 by have := pw_lt2 (f t); omega], ht_⟩) (fun q h => absurd h List.not_mem_nil) d_M_has_57
      · have c_49n : z = 1 := (pq_cmpN (by have := pw_lt2 (f t); omega) (by decide)).mp (by rw [← ex_6]; exact c_49)
        refine lv_iconst (v := nI 1) hx hb d_M_has_52 (by decide) ?_
        refine lv_goto (tgt := 57) hx hb d_M_has_53 (by decide) ?_
        exact W.zret (v := (nI (1))) hx hb hr (by decide) (fun t_ ht_ hW_ => ⟨_, rfl, by (try dsimp only); rw [← hzz, c_49n], ht_⟩) (fun q h => absurd h List.not_mem_nil) d_M_has_57
    exact B_47 ((f t).toNat) ls rfl (lv_sub hl [] rfl)
set_option maxHeartbeats 4000000 in
set_option maxRecDepth 100000 in
theorem c_M_onesOf (l : Launch) (dC : Nat → ClassId) (dI : Nat → Nat → Nat) {x k : Nat} (hx1 : x < 2 ^ 60) (hk : k ≤ 60) : Met l y_M_onesOf ws_M_onesOf ({ frames := 0, cells := 0, slots := 0, locals := 0 } : Room) (pw_R [.long (lN (x)), .int (nI (k))] dC dI [] []) (vp_Si (fun r => r = nI (pw_p x k))) 0 0 (fun _ => False) := by
  refine Met.ofW (cc := b_M_onesOf) (maxL := 5) (ret := (some .int)) (by decide) rfl ?_
  intro p e s m args below meth c s₁ B hml hv
  obtain ⟨rfl, hP, hK⟩ := hv
  have hx := B.exec
  have hb := B.bytes
  have hr := B.returns
  have hts := atoms_spec (ws := ws_M_onesOf) B.pre
  have hown : s.vm.findClass R_M = some m.cls := findClass_of_methodNamed B.named
  have hlocks := B.notSynchronized
  have q2 : x < 2 ^ 62 := Nat.lt_trans hx1 (by decide)
  have hl := lv_entry ([.long (lN (x)), .int (nI (k))]) (n := 5) (Nat.le_of_ble_eq_true rfl)
  rw [lg_entry_eq]
  generalize (lg_sl ([.long (lN (x)), .int (nI (k))]) ++ List.replicate (5 - (lg_sl ([.long (lN (x)), .int (nI (k))])).length) Slot.unset).toArray = ls at hl ⊢
  have hl : lv_has ls 5 [(0, .long (lN (x))), (2, .int (nI (k)))] := hl
  refine lv_iconst (v := nI 0) hx hb d_M_onesOf_0 (by decide) ?_
  refine lv_istore_n (lv' := [(3, .int (nI (0))), (0, .long (lN (x))), (2, .int (nI (k)))]) hx hb d_M_onesOf_1 rfl hl (by decide) rfl (fun ls hl => ?_)
  refine lv_iconst (v := nI 0) hx hb d_M_onesOf_2 (by decide) ?_
  refine lv_istore (lv' := [(4, .int (nI (0))), (3, .int (nI (0))), (0, .long (lN (x))), (2, .int (nI (k)))]) hx hb d_M_onesOf_3 hl (by decide) rfl (fun ls hl => ?_)
  have B_5 : ∀ (k_ : Nat) (u : Nat) (i : Nat) (ls : Array Slot), (k - i) < k_ → (i ≤ k) → (u = pw_p x i) → lv_has ls 5 [(0, .long (lN (x))), (2, .int (nI (k))), (3, .int (nI (u))), (4, .int (nI (i)))] → W p l e (headSpec ws_M_onesOf ({ frames := 0, cells := 0, slots := 0, locals := 0 } : Room)).room s m ([.long (lN (x)), .int (nI (k))]).toArray below meth c s.heap [] 0 0 (MQ below (vp_Si (fun r => r = nI (pw_p x k))) ([.long (lN (x)), .int (nI (k))]).toArray s 0 0 (fun _ => False)) (F0 m 5 ls []) := by
    intro k_
    induction k_ with
    | zero => intro u i ls h_; omega
    | succ k_ ih_5 =>
      intro u i ls hm_ hi hu hl
      refine lv_iload hx hb d_M_onesOf_5 (lv_at hl 3 rfl) ?_
      refine lv_iload_n hx hb d_M_onesOf_7 rfl (lv_at hl 1 rfl) ?_
      refine pq_icmp_ge (tgt := 27) (a := i) (b := k) hx hb d_M_onesOf_8 (by decide) (by omega) (by omega) (fun c_8 => ?_) (fun c_8 => ?_)
      · refine lv_iload_n hx hb d_M_onesOf_27 rfl (lv_at hl 2 rfl) ?_
        exact W.iret (v := (nI (u))) hx hb hr (fun t_ ht_ hW_ => ⟨_, rfl, by (try dsimp only); rw [hu, show i = k by omega], ht_⟩) (fun q h => absurd h List.not_mem_nil) d_M_onesOf_28
      · refine lv_iload_n hx hb d_M_onesOf_11 rfl (lv_at hl 2 rfl) ?_
        refine lv_lload_n hx hb d_M_onesOf_12 rfl (lv_at hl 0 rfl) ?_
        refine lv_iload hx hb d_M_onesOf_13 (lv_at hl 3 rfl) ?_
        refine lv_lshr hx hb d_M_onesOf_15 rfl ?_
        refine lv_topl (fun y_1 ey_1 => ?_)
        refine pq_top (y := .long (lN (x / 2 ^ i))) (by rw [ey_1, pq_lshr q2 (by omega)]) ?_
        refine lv_lconst (v := lN 1) hx hb d_M_onesOf_16 (by decide) ?_
        refine lv_land hx hb d_M_onesOf_17 ?_
        refine lv_topl (fun y_2 ey_2 => ?_)
        refine pq_top (y := .long (lN (x / 2 ^ i % 2))) (by rw [ey_2, pq_land1 (Nat.lt_of_le_of_lt (Nat.div_le_self _ _) (Nat.lt_trans hx1 (by decide)))]) ?_
        refine lv_l2i hx hb d_M_onesOf_18 rfl ?_
        refine lv_topi (fun x_3 ex_3 => ?_)
        refine pq_top (y := .int (nI (x / 2 ^ i % 2))) (by rw [ex_3, lN_i]) ?_
        refine pq_iadd (a := u) (b := (x / 2 ^ i % 2)) hx hb d_M_onesOf_19 ?_
        refine lv_istore_n (lv' := [(3, .int (nI (u + (x / 2 ^ i % 2)))), (0, .long (lN (x))), (2, .int (nI (k))), (4, .int (nI (i)))]) hx hb d_M_onesOf_20 rfl hl (by decide) rfl (fun ls hl => ?_)
        refine lv_iinc (v := nI (i + 1)) (lv' := [(4, .int (nI (i + 1))), (3, .int (nI (u + (x / 2 ^ i % 2)))), (0, .long (lN (x))), (2, .int (nI (k)))]) hx hb d_M_onesOf_21 hl (k := 3) rfl (pq_inc _) (by decide) rfl (fun ls hl => ?_)
        refine lv_goto (tgt := 5) hx hb d_M_onesOf_24 (by decide) ?_
        exact ih_5 (u + (x / 2 ^ i % 2)) (i + 1) ls (by omega) (by omega) (by rw [hu, pw_p_s]) (lv_sub hl [2, 3, 1, 0] rfl)
  exact B_5 _ (0) (0) ls (Nat.lt_succ_self _) (by omega) rfl (lv_sub hl [2, 3, 1, 0] rfl)
set_option maxHeartbeats 4000000 in
set_option maxRecDepth 100000 in
theorem c_M_inRing (l : Launch) (dC : Nat → ClassId) (dI : Nat → Nat → Nat) {o a1 a2 a3 a4 a5 : Nat} {c1 c2 c3 c4 c5 : ClassId} {th mo le : Int32} {n : Nat} {xh yr : Nat → Int32} {xb yb : Nat → Int64} {bs : Nat → Int32} {i h pp : Nat} {f : Nat → Bool} (hmd : md_at xh yr xb yb i h pp f) : Met l y_M_inRing ws_M_inRing ({ frames := 1, cells := 0, slots := 0, locals := 24 } : Room) (pw_R [.ref o, .int (nI (i))] dC dI (mdT c1 c2 c3 c4 c5) (md o a1 a2 a3 a4 a5 c1 c2 c3 c4 c5 th n mo le xh yr xb yb bs)) (vp_Si (fun r => r = nI (pw_o f h pp))) 0 0 (fun _ => False) := by
  refine Met.ofW (cc := b_M_inRing) (maxL := 2) (ret := (some .int)) (by decide) rfl ?_
  intro p e s m args below meth c s₁ B hml hv
  obtain ⟨rfl, hP, hK⟩ := hv
  have hx := B.exec
  have hb := B.bytes
  have hr := B.returns
  have hts := atoms_spec (ws := ws_M_inRing) B.pre
  have hown : s.vm.findClass R_M = some m.cls := findClass_of_methodNamed B.named
  have hlocks := B.notSynchronized
  have hmd_ := hmd; obtain ⟨hi, e1, e2, e3, e4, hok⟩ := hmd_; have hok_ := hok; obtain ⟨hh, hp0, hp6, hE⟩ := hok_
  have ho := pw_o_le f h pp
  have hc := pw_c_le f h
  have hb0 := pq_lt60 (pw_b_lt f 0 h) hh
  have hb1 := pq_lt60 (pw_b_lt f h pp) hp6
  have hl := lv_entry ([.ref o, .int (nI (i))]) (n := 2) (Nat.le_of_ble_eq_true rfl)
  rw [lg_entry_eq]
  generalize (lg_sl ([.ref o, .int (nI (i))]) ++ List.replicate (2 - (lg_sl ([.ref o, .int (nI (i))])).length) Slot.unset).toArray = ls at hl ⊢
  have hl : lv_has ls 2 [(0, .ref o), (1, .int (nI (i)))] := hl
  refine lv_aload_n hx hb d_M_inRing_0 rfl (lv_at hl 0 rfl) ?_
  refine va_get (D := (dC, dI)) (ci := ciM) (v := .ref a4) (C := R_M) (T := F_M) (N := 9) hx hb hts (fun w h => List.mem_cons_of_mem _ (in_M w h)) hown hK hP 0 rfl rfl 5 (by decide) (hts (.fieldLink R_M 20 "PeriodWordsModel" "ringBits" "[J") (List.mem_cons_of_mem _ mb_388)) (fun _ h9 => h9) rfl d_M_inRing_1 ?_
  refine lv_iload_n hx hb d_M_inRing_4 rfl (lv_at hl 1 rfl) ?_
  refine va_lald hx hb hK hP 4 3 rfl rfl (vp_in_nI (n := i) (by omega) (by omega)) d_M_inRing_5 ?_
  refine pq_top (y := .long (yb i)) (by rw [pq_cl (by omega)]) ?_
  refine pq_top (y := .long (lN (pw_b f h pp))) (by rw [e4]) ?_
  refine lv_aload_n hx hb d_M_inRing_6 rfl (lv_at hl 0 rfl) ?_
  refine va_get (D := (dC, dI)) (ci := ciM) (v := .ref a2) (C := R_M) (T := F_M) (N := 9) hx hb hts (fun w h => List.mem_cons_of_mem _ (in_M w h)) hown hK hP 0 rfl rfl 3 (by decide) (hts (.fieldLink R_M 13 "PeriodWordsModel" "ring" "[I") (List.mem_cons_of_mem _ mb_386)) (fun _ h9 => h9) rfl d_M_inRing_7 ?_
  refine lv_iload_n hx hb d_M_inRing_10 rfl (lv_at hl 1 rfl) ?_
  refine va_iald hx hb hK hP 2 1 rfl rfl (vp_in_nI (n := i) (by omega) (by omega)) d_M_inRing_11 ?_
  refine pq_top (y := .int (yr i)) (by rw [pq_cl (by omega)]) ?_
  refine pq_top (y := .int (nI (pp))) (by rw [e2]) ?_
  refine vp_callSi (W.runS (As := [.long (lN (pw_b f h pp)), .int (nI (pp))]) (rest := []) ⟨hx, hb, hml, hown, hts⟩ (c_M_onesOf l dC dI (x := pw_b f h pp) (k := pp) hb1 hp6) (va_cwS 2 hts (gd_S mb_444 mb_445 mb_23 mb_446) rfl rfl rfl (by decide +kernel) ⟨Nat.le_of_ble_eq_true rfl, Nat.le_of_ble_eq_true rfl⟩) (pw_R_S pw_P0 (hK.sub [] rfl)) rfl rfl hl.1 rfl (lv_room (Nat.le_of_ble_eq_true rfl)) d_M_inRing_12 ⟨Nat.le_of_ble_eq_true rfl, Nat.le_of_ble_eq_true rfl⟩) (fun r_12 hr_12 => ?_)
  subst hr_12
  refine pq_top (y := .int (nI (pw_o f h pp))) (by rw [pw_p_o]) ?_
  exact W.iret (v := (nI (pw_o f h pp))) hx hb hr (fun t_ ht_ hW_ => ⟨_, rfl, rfl, ht_⟩) (fun q h => absurd h List.not_mem_nil) d_M_inRing_15
set_option maxHeartbeats 4000000 in
set_option maxRecDepth 100000 in
theorem c_M_greater (l : Launch) (dC : Nat → ClassId) (dI : Nat → Nat → Nat) {x y : Nat} (hx1 : x < 2147483648) (hy1 : y < 2147483648) : Met l y_M_greater ws_M_greater ({ frames := 0, cells := 0, slots := 0, locals := 0 } : Room) (pw_R [.int (nI (x)), .int (nI (y))] dC dI [] []) (vp_Si (fun r => r = nI (max x y))) 0 0 (fun _ => False) := by
  refine Met.ofW (cc := b_M_greater) (maxL := 2) (ret := (some .int)) (by decide) rfl ?_
  intro p e s m args below meth c s₁ B hml hv
  obtain ⟨rfl, hP, hK⟩ := hv
  have hx := B.exec
  have hb := B.bytes
  have hr := B.returns
  have hts := atoms_spec (ws := ws_M_greater) B.pre
  have hown : s.vm.findClass R_M = some m.cls := findClass_of_methodNamed B.named
  have hlocks := B.notSynchronized
  have hl := lv_entry ([.int (nI (x)), .int (nI (y))]) (n := 2) (Nat.le_of_ble_eq_true rfl)
  rw [lg_entry_eq]
  generalize (lg_sl ([.int (nI (x)), .int (nI (y))]) ++ List.replicate (2 - (lg_sl ([.int (nI (x)), .int (nI (y))])).length) Slot.unset).toArray = ls at hl ⊢
  have hl : lv_has ls 2 [(0, .int (nI (x))), (1, .int (nI (y)))] := hl
  refine lv_iload_n hx hb d_M_greater_0 rfl (lv_at hl 0 rfl) ?_
  refine lv_iload_n hx hb d_M_greater_1 rfl (lv_at hl 1 rfl) ?_
  refine pq_icmp_le (tgt := 9) (a := x) (b := y) hx hb d_M_greater_2 (by decide) (by omega) (by omega) (fun c_2 => ?_) (fun c_2 => ?_)
  · refine lv_iload_n hx hb d_M_greater_9 rfl (lv_at hl 1 rfl) ?_
    exact W.iret (v := (nI (y))) hx hb hr (fun t_ ht_ hW_ => ⟨_, rfl, by (try dsimp only); congr 1; omega, ht_⟩) (fun q h => absurd h List.not_mem_nil) d_M_greater_10
  · refine lv_iload_n hx hb d_M_greater_5 rfl (lv_at hl 0 rfl) ?_
    refine lv_goto (tgt := 10) hx hb d_M_greater_6 (by decide) ?_
    exact W.iret (v := (nI (x))) hx hb hr (fun t_ ht_ hW_ => ⟨_, rfl, by (try dsimp only); congr 1; omega, ht_⟩) (fun q h => absurd h List.not_mem_nil) d_M_greater_10
set_option maxHeartbeats 4000000 in
set_option maxRecDepth 100000 in
theorem c_M_greaterS (l : Launch) (dC : Nat → ClassId) (dI : Nat → Nat → Nat) {x a b : Nat} (hx1 : x < 1073741824) (ha1 : a < 1073741824) (hb1 : b < 1073741824) : Met l y_M_greater ws_M_greater ({ frames := 0, cells := 0, slots := 0, locals := 0 } : Room) (pw_R [.int (nI (x)), .int (nI a - nI b)] dC dI [] []) (vp_Si (fun r => r = nI (max x (a - b)))) 0 0 (fun _ => False) := by
  refine Met.ofW (cc := b_M_greater) (maxL := 2) (ret := (some .int)) (by decide) rfl ?_
  intro p e s m args below meth c s₁ B hml hv
  obtain ⟨rfl, hP, hK⟩ := hv
  have hx := B.exec
  have hb := B.bytes
  have hr := B.returns
  have hts := atoms_spec (ws := ws_M_greater) B.pre
  have hown : s.vm.findClass R_M = some m.cls := findClass_of_methodNamed B.named
  have hlocks := B.notSynchronized
  have hl := lv_entry ([.int (nI (x)), .int (nI a - nI b)]) (n := 2) (Nat.le_of_ble_eq_true rfl)
  rw [lg_entry_eq]
  generalize (lg_sl ([.int (nI (x)), .int (nI a - nI b)]) ++ List.replicate (2 - (lg_sl ([.int (nI (x)), .int (nI a - nI b)])).length) Slot.unset).toArray = ls at hl ⊢
  have hl : lv_has ls 2 [(0, .int (nI (x))), (1, .int (nI a - nI b))] := hl
  refine lv_iload_n hx hb d_M_greater_0 rfl (lv_at hl 0 rfl) ?_
  refine lv_iload_n hx hb d_M_greater_1 rfl (lv_at hl 1 rfl) ?_
  refine lv_icmp_le (tgt := 9) hx hb d_M_greater_2 (by decide) (fun c_2 => ?_) (fun c_2 => ?_)
  · refine lv_iload_n hx hb d_M_greater_9 rfl (lv_at hl 1 rfl) ?_
    exact W.iret (v := (nI a - nI b)) hx hb hr (fun t_ ht_ hW_ => ⟨_, rfl, by (try dsimp only); rw [pq_gs hx1 ha1 hb1 c_2], ht_⟩) (fun q h => absurd h List.not_mem_nil) d_M_greater_10
  · refine lv_iload_n hx hb d_M_greater_5 rfl (lv_at hl 0 rfl) ?_
    refine lv_goto (tgt := 10) hx hb d_M_greater_6 (by decide) ?_
    exact W.iret (v := (nI (x))) hx hb hr (fun t_ ht_ hW_ => ⟨_, rfl, by (try dsimp only); rw [← pq_maxs hx1 ha1 hb1, if_neg (by intro z; rw [Int32.lt_iff_toInt_lt] at z; rw [Int32.le_iff_toInt_le] at c_2; omega)], ht_⟩) (fun q h => absurd h List.not_mem_nil) d_M_greater_10
set_option maxHeartbeats 4000000 in
set_option maxRecDepth 100000 in
theorem c_M_divisor (l : Launch) (dC : Nat → ClassId) (dI : Nat → Nat → Nat) {x y : Nat} (hx1 : x ≤ 60) (hy : y ≤ 60) : Met l y_M_divisor ws_M_divisor ({ frames := 0, cells := 0, slots := 0, locals := 0 } : Room) (pw_R [.int (nI (x)), .int (nI (y))] dC dI [] []) (vp_Si (fun r => r = nI (Nat.gcd x y))) 0 0 (fun _ => False) := by
  refine Met.ofW (cc := b_M_divisor) (maxL := 5) (ret := (some .int)) (by decide) rfl ?_
  intro p e s m args below meth c s₁ B hml hv
  obtain ⟨rfl, hP, hK⟩ := hv
  have hx := B.exec
  have hb := B.bytes
  have hr := B.returns
  have hts := atoms_spec (ws := ws_M_divisor) B.pre
  have hown : s.vm.findClass R_M = some m.cls := findClass_of_methodNamed B.named
  have hlocks := B.notSynchronized
  have hl := lv_entry ([.int (nI (x)), .int (nI (y))]) (n := 5) (Nat.le_of_ble_eq_true rfl)
  rw [lg_entry_eq]
  generalize (lg_sl ([.int (nI (x)), .int (nI (y))]) ++ List.replicate (5 - (lg_sl ([.int (nI (x)), .int (nI (y))])).length) Slot.unset).toArray = ls at hl ⊢
  have hl : lv_has ls 5 [(0, .int (nI (x))), (1, .int (nI (y)))] := hl
  refine lv_iload_n hx hb d_M_divisor_0 rfl (lv_at hl 0 rfl) ?_
  refine lv_istore_n (lv' := [(2, .int (nI (x))), (0, .int (nI (x))), (1, .int (nI (y)))]) hx hb d_M_divisor_1 rfl hl (by decide) rfl (fun ls hl => ?_)
  refine lv_iload_n hx hb d_M_divisor_2 rfl (lv_at hl 2 rfl) ?_
  refine lv_istore_n (lv' := [(3, .int (nI (y))), (2, .int (nI (x))), (0, .int (nI (x))), (1, .int (nI (y)))]) hx hb d_M_divisor_3 rfl hl (by decide) rfl (fun ls hl => ?_)
  have B_4 : ∀ (k_ : Nat) (u : Nat) (z : Nat) (ls : Array Slot), (z) < k_ → (z ≤ 60) → (u ≤ 60) → (Nat.gcd u z = Nat.gcd x y) → lv_has ls 5 [(2, .int (nI (u))), (3, .int (nI (z)))] → W p l e (headSpec ws_M_divisor ({ frames := 0, cells := 0, slots := 0, locals := 0 } : Room)).room s m ([.int (nI (x)), .int (nI (y))]).toArray below meth c s.heap [] 0 0 (MQ below (vp_Si (fun r => r = nI (Nat.gcd x y))) ([.int (nI (x)), .int (nI (y))]).toArray s 0 0 (fun _ => False)) (F0 m 4 ls []) := by
    intro k_
    induction k_ with
    | zero => intro u z ls h_; omega
    | succ k_ ih_4 =>
      intro u z ls hm_ hz hu hg hl
      refine lv_iload_n hx hb d_M_divisor_4 rfl (lv_at hl 1 rfl) ?_
      refine pq_if_eq (tgt := 21) (a := z) hx hb d_M_divisor_5 (by decide) (by omega) (fun c_5 => ?_) (fun c_5 => ?_)
      · refine lv_iload_n hx hb d_M_divisor_21 rfl (lv_at hl 0 rfl) ?_
        exact W.iret (v := (nI (u))) hx hb hr (fun t_ ht_ hW_ => ⟨_, rfl, by (try dsimp only); rw [← hg, c_5, Nat.gcd_zero_right], ht_⟩) (fun q h => absurd h List.not_mem_nil) d_M_divisor_22
      · refine lv_iload_n hx hb d_M_divisor_8 rfl (lv_at hl 0 rfl) ?_
        refine lv_iload_n hx hb d_M_divisor_9 rfl (lv_at hl 1 rfl) ?_
        refine pq_irem (a := u) (b := z) hx hb d_M_divisor_10 (by omega) (by omega) (by omega) ?_
        refine lv_istore (lv' := [(4, .int (nI (u % z))), (2, .int (nI (u))), (3, .int (nI (z)))]) hx hb d_M_divisor_11 hl (by decide) rfl (fun ls hl => ?_)
        refine lv_iload_n hx hb d_M_divisor_13 rfl (lv_at hl 2 rfl) ?_
        refine lv_istore_n (lv' := [(2, .int (nI (z))), (4, .int (nI (u % z))), (3, .int (nI (z)))]) hx hb d_M_divisor_14 rfl hl (by decide) rfl (fun ls hl => ?_)
        refine lv_iload hx hb d_M_divisor_15 (lv_at hl 1 rfl) ?_
        refine lv_istore_n (lv' := [(3, .int (nI (u % z))), (2, .int (nI (z))), (4, .int (nI (u % z)))]) hx hb d_M_divisor_17 rfl hl (by decide) rfl (fun ls hl => ?_)
        have hlt := Nat.mod_lt u c_5
        refine lv_goto (tgt := 4) hx hb d_M_divisor_18 (by decide) ?_
        exact ih_4 (z) (u % z) ls (by omega) (by omega) (by omega) (by rw [Nat.gcd_comm, ← Nat.gcd_rec, Nat.gcd_comm]; exact hg) (lv_sub hl [1, 0] rfl)
  exact B_4 _ (x) (y) ls (Nat.lt_succ_self _) (by omega) (by omega) rfl (lv_sub hl [1, 0] rfl)
set_option maxHeartbeats 4000000 in
set_option maxRecDepth 100000 in
theorem c_M_onesAhead (l : Launch) (dC : Nat → ClassId) (dI : Nat → Nat → Nat) {o a1 a2 a3 a4 a5 : Nat} {c1 c2 c3 c4 c5 : ClassId} {th mo le : Int32} {n : Nat} {xh yr : Nat → Int32} {xb yb : Nat → Int64} {bs : Nat → Int32} {i h pp : Nat} {f : Nat → Bool} (hmd : md_at xh yr xb yb i h pp f) {t : Nat} (ht : t < 1073741824) : Met l y_M_onesAhead ws_M_onesAhead ({ frames := 2, cells := 0, slots := 0, locals := 45 } : Room) (pw_R [.ref o, .int (nI (i)), .int (nI (t))] dC dI (mdT c1 c2 c3 c4 c5) (md o a1 a2 a3 a4 a5 c1 c2 c3 c4 c5 th n mo le xh yr xb yb bs)) (vp_Si (fun r => r = nI (pw_c f t))) 0 0 (fun _ => False) := by
  refine Met.ofW (cc := b_M_onesAhead) (maxL := 4) (ret := (some .int)) (by decide) rfl ?_
  intro p e s m args below meth c s₁ B hml hv
  obtain ⟨rfl, hP, hK⟩ := hv
  have hx := B.exec
  have hb := B.bytes
  have hr := B.returns
  have hts := atoms_spec (ws := ws_M_onesAhead) B.pre
  have hown : s.vm.findClass R_M = some m.cls := findClass_of_methodNamed B.named
  have hlocks := B.notSynchronized
  have hmd_ := hmd; obtain ⟨hi, e1, e2, e3, e4, hok⟩ := hmd_; have hok_ := hok; obtain ⟨hh, hp0, hp6, hE⟩ := hok_
  have ho := pw_o_le f h pp
  have hc := pw_c_le f h
  have hb0 := pq_lt60 (pw_b_lt f 0 h) hh
  have hb1 := pq_lt60 (pw_b_lt f h pp) hp6
  have hl := lv_entry ([.ref o, .int (nI (i)), .int (nI (t))]) (n := 4) (Nat.le_of_ble_eq_true rfl)
  rw [lg_entry_eq]
  generalize (lg_sl ([.ref o, .int (nI (i)), .int (nI (t))]) ++ List.replicate (4 - (lg_sl ([.ref o, .int (nI (i)), .int (nI (t))])).length) Slot.unset).toArray = ls at hl ⊢
  have hl : lv_has ls 4 [(0, .ref o), (1, .int (nI (i))), (2, .int (nI (t)))] := hl
  refine lv_iload_n hx hb d_M_onesAhead_0 rfl (lv_at hl 2 rfl) ?_
  refine lv_aload_n hx hb d_M_onesAhead_1 rfl (lv_at hl 0 rfl) ?_
  refine va_get (D := (dC, dI)) (ci := ciM) (v := .ref a1) (C := R_M) (T := F_M) (N := 9) hx hb hts (fun w h => List.mem_cons_of_mem _ (in_M w h)) hown hK hP 0 rfl rfl 2 (by decide) (hts (.fieldLink R_M 7 "PeriodWordsModel" "head" "[I") (List.mem_cons_of_mem _ mb_385)) (fun _ h9 => h9) rfl d_M_onesAhead_2 ?_
  refine lv_iload_n hx hb d_M_onesAhead_5 rfl (lv_at hl 1 rfl) ?_
  refine va_iald hx hb hK hP 1 0 rfl rfl (vp_in_nI (n := i) (by omega) (by omega)) d_M_onesAhead_6 ?_
  refine pq_top (y := .int (xh i)) (by rw [pq_cl (by omega)]) ?_
  refine pq_top (y := .int (nI (h))) (by rw [e1]) ?_
  refine pq_icmp_gt (tgt := 21) (a := t) (b := h) hx hb d_M_onesAhead_7 (by decide) (by omega) (by omega) (fun c_7 => ?_) (fun c_7 => ?_)
  · have hm := Nat.mod_lt (t - h) hp0
    refine lv_iload_n hx hb d_M_onesAhead_21 rfl (lv_at hl 2 rfl) ?_
    refine lv_aload_n hx hb d_M_onesAhead_22 rfl (lv_at hl 0 rfl) ?_
    refine va_get (D := (dC, dI)) (ci := ciM) (v := .ref a1) (C := R_M) (T := F_M) (N := 9) hx hb hts (fun w h => List.mem_cons_of_mem _ (in_M w h)) hown hK hP 0 rfl rfl 2 (by decide) (hts (.fieldLink R_M 7 "PeriodWordsModel" "head" "[I") (List.mem_cons_of_mem _ mb_385)) (fun _ h9 => h9) rfl d_M_onesAhead_23 ?_
    refine lv_iload_n hx hb d_M_onesAhead_26 rfl (lv_at hl 1 rfl) ?_
    refine va_iald hx hb hK hP 1 0 rfl rfl (vp_in_nI (n := i) (by omega) (by omega)) d_M_onesAhead_27 ?_
    refine pq_top (y := .int (xh i)) (by rw [pq_cl (by omega)]) ?_
    refine pq_top (y := .int (nI (h))) (by rw [e1]) ?_
    refine pq_isub (a := t) (b := h) hx hb d_M_onesAhead_28 (by omega) ?_
    refine lv_istore_n (lv' := [(3, .int (nI (t - h))), (0, .ref o), (1, .int (nI (i))), (2, .int (nI (t)))]) hx hb d_M_onesAhead_29 rfl hl (by decide) rfl (fun ls hl => ?_)
    refine lv_aload_n hx hb d_M_onesAhead_30 rfl (lv_at hl 1 rfl) ?_
    refine va_get (D := (dC, dI)) (ci := ciM) (v := .ref a3) (C := R_M) (T := F_M) (N := 9) hx hb hts (fun w h => List.mem_cons_of_mem _ (in_M w h)) hown hK hP 0 rfl rfl 4 (by decide) (hts (.fieldLink R_M 16 "PeriodWordsModel" "headBits" "[J") (List.mem_cons_of_mem _ mb_387)) (fun _ h9 => h9) rfl d_M_onesAhead_31 ?_
    refine lv_iload_n hx hb d_M_onesAhead_34 rfl (lv_at hl 2 rfl) ?_
    refine va_lald hx hb hK hP 3 2 rfl rfl (vp_in_nI (n := i) (by omega) (by omega)) d_M_onesAhead_35 ?_
    refine pq_top (y := .long (xb i)) (by rw [pq_cl (by omega)]) ?_
    refine pq_top (y := .long (lN (pw_b f 0 h))) (by rw [e3]) ?_
    refine lv_aload_n hx hb d_M_onesAhead_36 rfl (lv_at hl 1 rfl) ?_
    refine va_get (D := (dC, dI)) (ci := ciM) (v := .ref a1) (C := R_M) (T := F_M) (N := 9) hx hb hts (fun w h => List.mem_cons_of_mem _ (in_M w h)) hown hK hP 0 rfl rfl 2 (by decide) (hts (.fieldLink R_M 7 "PeriodWordsModel" "head" "[I") (List.mem_cons_of_mem _ mb_385)) (fun _ h9 => h9) rfl d_M_onesAhead_37 ?_
    refine lv_iload_n hx hb d_M_onesAhead_40 rfl (lv_at hl 2 rfl) ?_
    refine va_iald hx hb hK hP 1 0 rfl rfl (vp_in_nI (n := i) (by omega) (by omega)) d_M_onesAhead_41 ?_
    refine pq_top (y := .int (xh i)) (by rw [pq_cl (by omega)]) ?_
    refine pq_top (y := .int (nI (h))) (by rw [e1]) ?_
    refine vp_callSi (W.runS (As := [.long (lN (pw_b f 0 h)), .int (nI (h))]) (rest := []) ⟨hx, hb, hml, hown, hts⟩ (c_M_onesOf l dC dI (x := pw_b f 0 h) (k := h) hb0 (by omega)) (va_cwS 2 hts (gd_S mb_444 mb_445 mb_23 mb_446) rfl rfl rfl (by decide +kernel) ⟨Nat.le_of_ble_eq_true rfl, Nat.le_of_ble_eq_true rfl⟩) (pw_R_S pw_P0 (hK.sub [] rfl)) rfl rfl hl.1 rfl (lv_room (Nat.le_of_ble_eq_true rfl)) d_M_onesAhead_42 ⟨Nat.le_of_ble_eq_true rfl, Nat.le_of_ble_eq_true rfl⟩) (fun r_42 hr_42 => ?_)
    subst hr_42
    refine pq_top (y := .int (nI (pw_c f h))) (by rw [pw_p_c f h h (Nat.le_refl h)]) ?_
    refine lv_iload_n hx hb d_M_onesAhead_45 rfl (lv_at hl 0 rfl) ?_
    refine lv_aload_n hx hb d_M_onesAhead_46 rfl (lv_at hl 1 rfl) ?_
    refine va_get (D := (dC, dI)) (ci := ciM) (v := .ref a2) (C := R_M) (T := F_M) (N := 9) hx hb hts (fun w h => List.mem_cons_of_mem _ (in_M w h)) hown hK hP 0 rfl rfl 3 (by decide) (hts (.fieldLink R_M 13 "PeriodWordsModel" "ring" "[I") (List.mem_cons_of_mem _ mb_386)) (fun _ h9 => h9) rfl d_M_onesAhead_47 ?_
    refine lv_iload_n hx hb d_M_onesAhead_50 rfl (lv_at hl 2 rfl) ?_
    refine va_iald hx hb hK hP 2 1 rfl rfl (vp_in_nI (n := i) (by omega) (by omega)) d_M_onesAhead_51 ?_
    refine pq_top (y := .int (yr i)) (by rw [pq_cl (by omega)]) ?_
    refine pq_top (y := .int (nI (pp))) (by rw [e2]) ?_
    refine pq_idiv (a := (t - h)) (b := pp) hx hb d_M_onesAhead_52 (by omega) (by omega) (by omega) ?_
    refine lv_aload_n hx hb d_M_onesAhead_53 rfl (lv_at hl 1 rfl) ?_
    refine lv_iload_n hx hb d_M_onesAhead_54 rfl (lv_at hl 2 rfl) ?_
    refine vp_callSi (W.runV (As := [.int (nI (i))]) (rest := [.int (nI ((t - h) / pp)), .int (nI (pw_c f h))]) ⟨hx, hb, hml, hown, hts⟩ (c_M_inRing l dC dI hmd) (cwV 1 hts (gd_V mb_440 mb_442 mb_6 mb_23 mb_443) rfl rfl rfl (by decide +kernel) ⟨Nat.le_of_ble_eq_true rfl, Nat.le_of_ble_eq_true rfl⟩) (pw_R_V (va_recv hK hP (ci := ciM) (q0 := 0) rfl rfl) hP hK) rfl rfl hl.1 rfl (lv_room (Nat.le_of_ble_eq_true rfl)) d_M_onesAhead_55 ⟨Nat.le_of_ble_eq_true rfl, Nat.le_of_ble_eq_true rfl⟩) (fun r_55 hr_55 => ?_)
    subst hr_55
    refine pq_imul (a := ((t - h) / pp)) (b := (pw_o f h pp)) hx hb d_M_onesAhead_58 ?_
    refine pq_iadd (a := (pw_c f h)) (b := (((t - h) / pp) * (pw_o f h pp))) hx hb d_M_onesAhead_59 ?_
    refine lv_aload_n hx hb d_M_onesAhead_60 rfl (lv_at hl 1 rfl) ?_
    refine va_get (D := (dC, dI)) (ci := ciM) (v := .ref a4) (C := R_M) (T := F_M) (N := 9) hx hb hts (fun w h => List.mem_cons_of_mem _ (in_M w h)) hown hK hP 0 rfl rfl 5 (by decide) (hts (.fieldLink R_M 20 "PeriodWordsModel" "ringBits" "[J") (List.mem_cons_of_mem _ mb_388)) (fun _ h9 => h9) rfl d_M_onesAhead_61 ?_
    refine lv_iload_n hx hb d_M_onesAhead_64 rfl (lv_at hl 2 rfl) ?_
    refine va_lald hx hb hK hP 4 3 rfl rfl (vp_in_nI (n := i) (by omega) (by omega)) d_M_onesAhead_65 ?_
    refine pq_top (y := .long (yb i)) (by rw [pq_cl (by omega)]) ?_
    refine pq_top (y := .long (lN (pw_b f h pp))) (by rw [e4]) ?_
    refine lv_iload_n hx hb d_M_onesAhead_66 rfl (lv_at hl 0 rfl) ?_
    refine lv_aload_n hx hb d_M_onesAhead_67 rfl (lv_at hl 1 rfl) ?_
    refine va_get (D := (dC, dI)) (ci := ciM) (v := .ref a2) (C := R_M) (T := F_M) (N := 9) hx hb hts (fun w h => List.mem_cons_of_mem _ (in_M w h)) hown hK hP 0 rfl rfl 3 (by decide) (hts (.fieldLink R_M 13 "PeriodWordsModel" "ring" "[I") (List.mem_cons_of_mem _ mb_386)) (fun _ h9 => h9) rfl d_M_onesAhead_68 ?_
    refine lv_iload_n hx hb d_M_onesAhead_71 rfl (lv_at hl 2 rfl) ?_
    refine va_iald hx hb hK hP 2 1 rfl rfl (vp_in_nI (n := i) (by omega) (by omega)) d_M_onesAhead_72 ?_
    refine pq_top (y := .int (yr i)) (by rw [pq_cl (by omega)]) ?_
    refine pq_top (y := .int (nI (pp))) (by rw [e2]) ?_
    refine pq_irem (a := (t - h)) (b := pp) hx hb d_M_onesAhead_73 (by omega) (by omega) (by omega) ?_
    refine vp_callSi (W.runS (As := [.long (lN (pw_b f h pp)), .int (nI ((t - h) % pp))]) (rest := [.int (nI ((pw_c f h) + (((t - h) / pp) * (pw_o f h pp))))]) ⟨hx, hb, hml, hown, hts⟩ (c_M_onesOf l dC dI (x := pw_b f h pp) (k := (t - h) % pp) hb1 (by omega)) (va_cwS 2 hts (gd_S mb_444 mb_445 mb_23 mb_446) rfl rfl rfl (by decide +kernel) ⟨Nat.le_of_ble_eq_true rfl, Nat.le_of_ble_eq_true rfl⟩) (pw_R_S pw_P0 (hK.sub [] rfl)) rfl rfl hl.1 rfl (lv_room (Nat.le_of_ble_eq_true rfl)) d_M_onesAhead_74 ⟨Nat.le_of_ble_eq_true rfl, Nat.le_of_ble_eq_true rfl⟩) (fun r_74 hr_74 => ?_)
    subst hr_74
    refine pq_top (y := .int (nI (pw_c (fun i => f (h + i)) ((t - h) % pp)))) (by rw [pw_p_b f h pp _ (by omega)]) ?_
    refine pq_iadd (a := ((pw_c f h) + (((t - h) / pp) * (pw_o f h pp)))) (b := (pw_c (fun i => f (h + i)) ((t - h) % pp))) hx hb d_M_onesAhead_77 ?_
    exact W.iret (v := (nI (((pw_c f h) + (((t - h) / pp) * (pw_o f h pp))) + (pw_c (fun i => f (h + i)) ((t - h) % pp))))) hx hb hr (fun t_ ht_ hW_ => ⟨_, rfl, by (try dsimp only); rw [pw_c_far hE (show h ≤ t by omega), Nat.add_assoc], ht_⟩) (fun q h => absurd h List.not_mem_nil) d_M_onesAhead_78
  · refine lv_aload_n hx hb d_M_onesAhead_10 rfl (lv_at hl 0 rfl) ?_
    refine va_get (D := (dC, dI)) (ci := ciM) (v := .ref a3) (C := R_M) (T := F_M) (N := 9) hx hb hts (fun w h => List.mem_cons_of_mem _ (in_M w h)) hown hK hP 0 rfl rfl 4 (by decide) (hts (.fieldLink R_M 16 "PeriodWordsModel" "headBits" "[J") (List.mem_cons_of_mem _ mb_387)) (fun _ h9 => h9) rfl d_M_onesAhead_11 ?_
    refine lv_iload_n hx hb d_M_onesAhead_14 rfl (lv_at hl 1 rfl) ?_
    refine va_lald hx hb hK hP 3 2 rfl rfl (vp_in_nI (n := i) (by omega) (by omega)) d_M_onesAhead_15 ?_
    refine pq_top (y := .long (xb i)) (by rw [pq_cl (by omega)]) ?_
    refine pq_top (y := .long (lN (pw_b f 0 h))) (by rw [e3]) ?_
    refine lv_iload_n hx hb d_M_onesAhead_16 rfl (lv_at hl 2 rfl) ?_
    refine vp_callSi (W.runS (As := [.long (lN (pw_b f 0 h)), .int (nI (t))]) (rest := []) ⟨hx, hb, hml, hown, hts⟩ (c_M_onesOf l dC dI (x := pw_b f 0 h) (k := t) hb0 (by omega)) (va_cwS 2 hts (gd_S mb_444 mb_445 mb_23 mb_446) rfl rfl rfl (by decide +kernel) ⟨Nat.le_of_ble_eq_true rfl, Nat.le_of_ble_eq_true rfl⟩) (pw_R_S pw_P0 (hK.sub [] rfl)) rfl rfl hl.1 rfl (lv_room (Nat.le_of_ble_eq_true rfl)) d_M_onesAhead_17 ⟨Nat.le_of_ble_eq_true rfl, Nat.le_of_ble_eq_true rfl⟩) (fun r_17 hr_17 => ?_)
    subst hr_17
    refine pq_top (y := .int (nI (pw_c f t))) (by rw [pw_p_c f h t c_7]) ?_
    exact W.iret (v := (nI (pw_c f t))) hx hb hr (fun t_ ht_ hW_ => ⟨_, rfl, rfl, ht_⟩) (fun q h => absurd h List.not_mem_nil) d_M_onesAhead_20
set_option maxHeartbeats 4000000 in
set_option maxRecDepth 100000 in
theorem c_M_rates (l : Launch) (dC : Nat → ClassId) (dI : Nat → Nat → Nat) {o a1 a2 a3 a4 a5 : Nat} {c1 c2 c3 c4 c5 : ClassId} {th mo le : Int32} {n : Nat} {xh yr : Nat → Int32} {xb yb : Nat → Int64} {bs : Nat → Int32} {i h pp : Nat} {f : Nat → Bool} (hmd : md_at xh yr xb yb i h pp f) {i2 h2 pp2 : Nat} {f2 : Nat → Bool} (hmd2 : md_at xh yr xb yb i2 h2 pp2 f2) : Met l y_M_rates ws_M_rates ({ frames := 2, cells := 0, slots := 0, locals := 45 } : Room) (pw_R [.ref o, .int (nI (i)), .int (nI (i2))] dC dI (mdT c1 c2 c3 c4 c5) (md o a1 a2 a3 a4 a5 c1 c2 c3 c4 c5 th n mo le xh yr xb yb bs)) (vp_Si (fun r => r = nI (pw_o f h pp * pp2) - nI (pw_o f2 h2 pp2 * pp))) 0 0 (fun _ => False) := by
  refine Met.ofW (cc := b_M_rates) (maxL := 3) (ret := (some .int)) (by decide) rfl ?_
  intro p e s m args below meth c s₁ B hml hv
  obtain ⟨rfl, hP, hK⟩ := hv
  have hx := B.exec
  have hb := B.bytes
  have hr := B.returns
  have hts := atoms_spec (ws := ws_M_rates) B.pre
  have hown : s.vm.findClass R_M = some m.cls := findClass_of_methodNamed B.named
  have hlocks := B.notSynchronized
  have hmd_ := hmd; obtain ⟨hi, e1, e2, e3, e4, hok⟩ := hmd_; have hok_ := hok; obtain ⟨hh, hp0, hp6, hE⟩ := hok_
  have ho := pw_o_le f h pp
  have hc := pw_c_le f h
  have hb0 := pq_lt60 (pw_b_lt f 0 h) hh
  have hb1 := pq_lt60 (pw_b_lt f h pp) hp6
  have hmd2_ := hmd2; obtain ⟨hi2, e12, e22, e32, e42, hok2⟩ := hmd2_; have hok2_ := hok2; obtain ⟨hh2, hp02, hp62, hE2⟩ := hok2_
  have ho2 := pw_o_le f2 h2 pp2
  have hc2 := pw_c_le f2 h2
  have hb02 := pq_lt60 (pw_b_lt f2 0 h2) hh2
  have hb12 := pq_lt60 (pw_b_lt f2 h2 pp2) hp62
  have hl := lv_entry ([.ref o, .int (nI (i)), .int (nI (i2))]) (n := 3) (Nat.le_of_ble_eq_true rfl)
  rw [lg_entry_eq]
  generalize (lg_sl ([.ref o, .int (nI (i)), .int (nI (i2))]) ++ List.replicate (3 - (lg_sl ([.ref o, .int (nI (i)), .int (nI (i2))])).length) Slot.unset).toArray = ls at hl ⊢
  have hl : lv_has ls 3 [(0, .ref o), (1, .int (nI (i))), (2, .int (nI (i2)))] := hl
  refine lv_aload_n hx hb d_M_rates_0 rfl (lv_at hl 0 rfl) ?_
  refine lv_iload_n hx hb d_M_rates_1 rfl (lv_at hl 1 rfl) ?_
  refine vp_callSi (W.runV (As := [.int (nI (i))]) (rest := []) ⟨hx, hb, hml, hown, hts⟩ (c_M_inRing l dC dI hmd) (cwV 1 hts (gd_V mb_440 mb_442 mb_6 mb_23 mb_443) rfl rfl rfl (by decide +kernel) ⟨Nat.le_of_ble_eq_true rfl, Nat.le_of_ble_eq_true rfl⟩) (pw_R_V (va_recv hK hP (ci := ciM) (q0 := 0) rfl rfl) hP hK) rfl rfl hl.1 rfl (lv_room (Nat.le_of_ble_eq_true rfl)) d_M_rates_2 ⟨Nat.le_of_ble_eq_true rfl, Nat.le_of_ble_eq_true rfl⟩) (fun r_2 hr_2 => ?_)
  subst hr_2
  refine lv_aload_n hx hb d_M_rates_5 rfl (lv_at hl 0 rfl) ?_
  refine va_get (D := (dC, dI)) (ci := ciM) (v := .ref a2) (C := R_M) (T := F_M) (N := 9) hx hb hts (fun w h => List.mem_cons_of_mem _ (in_M w h)) hown hK hP 0 rfl rfl 3 (by decide) (hts (.fieldLink R_M 13 "PeriodWordsModel" "ring" "[I") (List.mem_cons_of_mem _ mb_386)) (fun _ h9 => h9) rfl d_M_rates_6 ?_
  refine lv_iload_n hx hb d_M_rates_9 rfl (lv_at hl 2 rfl) ?_
  refine va_iald hx hb hK hP 2 1 rfl rfl (vp_in_nI (n := i2) (by omega) (by omega)) d_M_rates_10 ?_
  refine pq_top (y := .int (yr i2)) (by rw [pq_cl (by omega)]) ?_
  refine pq_top (y := .int (nI (pp2))) (by rw [e22]) ?_
  refine pq_imul (a := (pw_o f h pp)) (b := pp2) hx hb d_M_rates_11 ?_
  refine lv_aload_n hx hb d_M_rates_12 rfl (lv_at hl 0 rfl) ?_
  refine lv_iload_n hx hb d_M_rates_13 rfl (lv_at hl 2 rfl) ?_
  refine vp_callSi (W.runV (As := [.int (nI (i2))]) (rest := [.int (nI ((pw_o f h pp) * pp2))]) ⟨hx, hb, hml, hown, hts⟩ (c_M_inRing l dC dI hmd2) (cwV 1 hts (gd_V mb_440 mb_442 mb_6 mb_23 mb_443) rfl rfl rfl (by decide +kernel) ⟨Nat.le_of_ble_eq_true rfl, Nat.le_of_ble_eq_true rfl⟩) (pw_R_V (va_recv hK hP (ci := ciM) (q0 := 0) rfl rfl) hP hK) rfl rfl hl.1 rfl (lv_room (Nat.le_of_ble_eq_true rfl)) d_M_rates_14 ⟨Nat.le_of_ble_eq_true rfl, Nat.le_of_ble_eq_true rfl⟩) (fun r_14 hr_14 => ?_)
  subst hr_14
  refine lv_aload_n hx hb d_M_rates_17 rfl (lv_at hl 0 rfl) ?_
  refine va_get (D := (dC, dI)) (ci := ciM) (v := .ref a2) (C := R_M) (T := F_M) (N := 9) hx hb hts (fun w h => List.mem_cons_of_mem _ (in_M w h)) hown hK hP 0 rfl rfl 3 (by decide) (hts (.fieldLink R_M 13 "PeriodWordsModel" "ring" "[I") (List.mem_cons_of_mem _ mb_386)) (fun _ h9 => h9) rfl d_M_rates_18 ?_
  refine lv_iload_n hx hb d_M_rates_21 rfl (lv_at hl 1 rfl) ?_
  refine va_iald hx hb hK hP 2 1 rfl rfl (vp_in_nI (n := i) (by omega) (by omega)) d_M_rates_22 ?_
  refine pq_top (y := .int (yr i)) (by rw [pq_cl (by omega)]) ?_
  refine pq_top (y := .int (nI (pp))) (by rw [e2]) ?_
  refine pq_imul (a := (pw_o f2 h2 pp2)) (b := pp) hx hb d_M_rates_23 ?_
  refine lv_isub hx hb d_M_rates_24 ?_
  refine lv_topi (fun x_1 ex_1 => ?_)
  refine pq_top (y := .int (nI (pw_o f h pp * pp2) - nI (pw_o f2 h2 pp2 * pp))) (by rw [ex_1]) ?_
  exact W.iret (v := (nI (pw_o f h pp * pp2) - nI (pw_o f2 h2 pp2 * pp))) hx hb hr (fun t_ ht_ hW_ => ⟨_, rfl, rfl, ht_⟩) (fun q h => absurd h List.not_mem_nil) d_M_rates_25
set_option maxHeartbeats 4000000 in
set_option maxRecDepth 100000 in
theorem c_M_till (l : Launch) (dC : Nat → ClassId) (dI : Nat → Nat → Nat) {o a1 a2 a3 a4 a5 : Nat} {c1 c2 c3 c4 c5 : ClassId} {th mo le : Int32} {n : Nat} {xh yr : Nat → Int32} {xb yb : Nat → Int64} {bs : Nat → Int32} {i h pp : Nat} {f : Nat → Bool} (hmd : md_at xh yr xb yb i h pp f) {i2 h2 pp2 : Nat} {f2 : Nat → Bool} (hmd2 : md_at xh yr xb yb i2 h2 pp2 f2) : Met l y_M_till ws_M_till ({ frames := 1, cells := 0, slots := 0, locals := 21 } : Room) (pw_R [.ref o, .int (nI (i)), .int (nI (i2))] dC dI (mdT c1 c2 c3 c4 c5) (md o a1 a2 a3 a4 a5 c1 c2 c3 c4 c5 th n mo le xh yr xb yb bs)) (vp_Si (fun r => r = nI (max h h2 + pp * pp2))) 0 0 (fun _ => False) := by
  refine Met.ofW (cc := b_M_till) (maxL := 3) (ret := (some .int)) (by decide) rfl ?_
  intro p e s m args below meth c s₁ B hml hv
  obtain ⟨rfl, hP, hK⟩ := hv
  have hx := B.exec
  have hb := B.bytes
  have hr := B.returns
  have hts := atoms_spec (ws := ws_M_till) B.pre
  have hown : s.vm.findClass R_M = some m.cls := findClass_of_methodNamed B.named
  have hlocks := B.notSynchronized
  have hmd_ := hmd; obtain ⟨hi, e1, e2, e3, e4, hok⟩ := hmd_; have hok_ := hok; obtain ⟨hh, hp0, hp6, hE⟩ := hok_
  have ho := pw_o_le f h pp
  have hc := pw_c_le f h
  have hb0 := pq_lt60 (pw_b_lt f 0 h) hh
  have hb1 := pq_lt60 (pw_b_lt f h pp) hp6
  have hmd2_ := hmd2; obtain ⟨hi2, e12, e22, e32, e42, hok2⟩ := hmd2_; have hok2_ := hok2; obtain ⟨hh2, hp02, hp62, hE2⟩ := hok2_
  have ho2 := pw_o_le f2 h2 pp2
  have hc2 := pw_c_le f2 h2
  have hb02 := pq_lt60 (pw_b_lt f2 0 h2) hh2
  have hb12 := pq_lt60 (pw_b_lt f2 h2 pp2) hp62
  have hl := lv_entry ([.ref o, .int (nI (i)), .int (nI (i2))]) (n := 3) (Nat.le_of_ble_eq_true rfl)
  rw [lg_entry_eq]
  generalize (lg_sl ([.ref o, .int (nI (i)), .int (nI (i2))]) ++ List.replicate (3 - (lg_sl ([.ref o, .int (nI (i)), .int (nI (i2))])).length) Slot.unset).toArray = ls at hl ⊢
  have hl : lv_has ls 3 [(0, .ref o), (1, .int (nI (i))), (2, .int (nI (i2)))] := hl
  refine lv_aload_n hx hb d_M_till_0 rfl (lv_at hl 0 rfl) ?_
  refine va_get (D := (dC, dI)) (ci := ciM) (v := .ref a1) (C := R_M) (T := F_M) (N := 9) hx hb hts (fun w h => List.mem_cons_of_mem _ (in_M w h)) hown hK hP 0 rfl rfl 2 (by decide) (hts (.fieldLink R_M 7 "PeriodWordsModel" "head" "[I") (List.mem_cons_of_mem _ mb_385)) (fun _ h9 => h9) rfl d_M_till_1 ?_
  refine lv_iload_n hx hb d_M_till_4 rfl (lv_at hl 1 rfl) ?_
  refine va_iald hx hb hK hP 1 0 rfl rfl (vp_in_nI (n := i) (by omega) (by omega)) d_M_till_5 ?_
  refine pq_top (y := .int (xh i)) (by rw [pq_cl (by omega)]) ?_
  refine pq_top (y := .int (nI (h))) (by rw [e1]) ?_
  refine lv_aload_n hx hb d_M_till_6 rfl (lv_at hl 0 rfl) ?_
  refine va_get (D := (dC, dI)) (ci := ciM) (v := .ref a1) (C := R_M) (T := F_M) (N := 9) hx hb hts (fun w h => List.mem_cons_of_mem _ (in_M w h)) hown hK hP 0 rfl rfl 2 (by decide) (hts (.fieldLink R_M 7 "PeriodWordsModel" "head" "[I") (List.mem_cons_of_mem _ mb_385)) (fun _ h9 => h9) rfl d_M_till_7 ?_
  refine lv_iload_n hx hb d_M_till_10 rfl (lv_at hl 2 rfl) ?_
  refine va_iald hx hb hK hP 1 0 rfl rfl (vp_in_nI (n := i2) (by omega) (by omega)) d_M_till_11 ?_
  refine pq_top (y := .int (xh i2)) (by rw [pq_cl (by omega)]) ?_
  refine pq_top (y := .int (nI (h2))) (by rw [e12]) ?_
  refine vp_callSi (W.runS (As := [.int (nI (h)), .int (nI (h2))]) (rest := []) ⟨hx, hb, hml, hown, hts⟩ (c_M_greater l dC dI (x := h) (y := h2) (by omega) (by omega)) (va_cwS 2 hts (gd_S mb_467 mb_468 mb_23 mb_469) rfl rfl rfl (by decide +kernel) ⟨Nat.le_of_ble_eq_true rfl, Nat.le_of_ble_eq_true rfl⟩) (pw_R_S pw_P0 (hK.sub [] rfl)) rfl rfl hl.1 rfl (lv_room (Nat.le_of_ble_eq_true rfl)) d_M_till_12 ⟨Nat.le_of_ble_eq_true rfl, Nat.le_of_ble_eq_true rfl⟩) (fun r_12 hr_12 => ?_)
  subst hr_12
  refine lv_aload_n hx hb d_M_till_15 rfl (lv_at hl 0 rfl) ?_
  refine va_get (D := (dC, dI)) (ci := ciM) (v := .ref a2) (C := R_M) (T := F_M) (N := 9) hx hb hts (fun w h => List.mem_cons_of_mem _ (in_M w h)) hown hK hP 0 rfl rfl 3 (by decide) (hts (.fieldLink R_M 13 "PeriodWordsModel" "ring" "[I") (List.mem_cons_of_mem _ mb_386)) (fun _ h9 => h9) rfl d_M_till_16 ?_
  refine lv_iload_n hx hb d_M_till_19 rfl (lv_at hl 1 rfl) ?_
  refine va_iald hx hb hK hP 2 1 rfl rfl (vp_in_nI (n := i) (by omega) (by omega)) d_M_till_20 ?_
  refine pq_top (y := .int (yr i)) (by rw [pq_cl (by omega)]) ?_
  refine pq_top (y := .int (nI (pp))) (by rw [e2]) ?_
  refine lv_aload_n hx hb d_M_till_21 rfl (lv_at hl 0 rfl) ?_
  refine va_get (D := (dC, dI)) (ci := ciM) (v := .ref a2) (C := R_M) (T := F_M) (N := 9) hx hb hts (fun w h => List.mem_cons_of_mem _ (in_M w h)) hown hK hP 0 rfl rfl 3 (by decide) (hts (.fieldLink R_M 13 "PeriodWordsModel" "ring" "[I") (List.mem_cons_of_mem _ mb_386)) (fun _ h9 => h9) rfl d_M_till_22 ?_
  refine lv_iload_n hx hb d_M_till_25 rfl (lv_at hl 2 rfl) ?_
  refine va_iald hx hb hK hP 2 1 rfl rfl (vp_in_nI (n := i2) (by omega) (by omega)) d_M_till_26 ?_
  refine pq_top (y := .int (yr i2)) (by rw [pq_cl (by omega)]) ?_
  refine pq_top (y := .int (nI (pp2))) (by rw [e22]) ?_
  refine pq_imul (a := pp) (b := pp2) hx hb d_M_till_27 ?_
  refine pq_iadd (a := (max h h2)) (b := (pp * pp2)) hx hb d_M_till_28 ?_
  exact W.iret (v := (nI ((max h h2) + (pp * pp2)))) hx hb hr (fun t_ ht_ hW_ => ⟨_, rfl, rfl, ht_⟩) (fun q h => absurd h List.not_mem_nil) d_M_till_29
set_option maxHeartbeats 4000000 in
set_option maxRecDepth 100000 in
theorem c_M_place (l : Launch) (dC : Nat → ClassId) (dI : Nat → Nat → Nat) {o a1 a2 a3 a4 a5 : Nat} {c1 c2 c3 c4 c5 : ClassId} {th mo le : Int32} {n : Nat} {xh yr : Nat → Int32} {xb yb : Nat → Int64} {bs : Nat → Int32} {i h pp : Nat} {f : Nat → Bool} (hmd : md_at xh yr xb yb i h pp f) {k : Nat} (hk0 : 0 < k) (hk : k < 16777216) : Met l y_M_place ws_M_place ({ frames := 2, cells := 0, slots := 0, locals := 45 } : Room) (pw_R [.ref o, .int (nI (i)), .int (nI (k))] dC dI (mdT c1 c2 c3 c4 c5) (md o a1 a2 a3 a4 a5 c1 c2 c3 c4 c5 th n mo le xh yr xb yb bs)) (vp_Si (fun r => ((0 < pw_o f h pp ∨ k ≤ pw_c f h) → r = nI (pw_tk f k)) ∧ (¬ (0 < pw_o f h pp ∨ k ≤ pw_c f h) → r = -1))) 0 0 (fun _ => False) := by
  refine Met.ofW (cc := b_M_place) (maxL := 8) (ret := (some .int)) (by decide) rfl ?_
  intro p e s m args below meth c s₁ B hml hv
  obtain ⟨rfl, hP, hK⟩ := hv
  have hx := B.exec
  have hb := B.bytes
  have hr := B.returns
  have hts := atoms_spec (ws := ws_M_place) B.pre
  have hown : s.vm.findClass R_M = some m.cls := findClass_of_methodNamed B.named
  have hlocks := B.notSynchronized
  have hmd_ := hmd; obtain ⟨hi, e1, e2, e3, e4, hok⟩ := hmd_; have hok_ := hok; obtain ⟨hh, hp0, hp6, hE⟩ := hok_
  have ho := pw_o_le f h pp
  have hc := pw_c_le f h
  have hb0 := pq_lt60 (pw_b_lt f 0 h) hh
  have hb1 := pq_lt60 (pw_b_lt f h pp) hp6
  have hl := lv_entry ([.ref o, .int (nI (i)), .int (nI (k))]) (n := 8) (Nat.le_of_ble_eq_true rfl)
  rw [lg_entry_eq]
  generalize (lg_sl ([.ref o, .int (nI (i)), .int (nI (k))]) ++ List.replicate (8 - (lg_sl ([.ref o, .int (nI (i)), .int (nI (k))])).length) Slot.unset).toArray = ls at hl ⊢
  have hl : lv_has ls 8 [(0, .ref o), (1, .int (nI (i))), (2, .int (nI (k)))] := hl
  refine lv_iconst (v := nI 0) hx hb d_M_place_0 (by decide) ?_
  refine lv_istore_n (lv' := [(3, .int (nI (0))), (0, .ref o), (1, .int (nI (i))), (2, .int (nI (k)))]) hx hb d_M_place_1 rfl hl (by decide) rfl (fun ls hl => ?_)
  refine lv_iload_n hx hb d_M_place_2 rfl (lv_at hl 3 rfl) ?_
  refine lv_istore (lv' := [(4, .int (nI (k))), (3, .int (nI (0))), (0, .ref o), (1, .int (nI (i))), (2, .int (nI (k)))]) hx hb d_M_place_3 hl (by decide) rfl (fun ls hl => ?_)
  refine lv_aload_n hx hb d_M_place_5 rfl (lv_at hl 2 rfl) ?_
  refine va_get (D := (dC, dI)) (ci := ciM) (v := .ref a3) (C := R_M) (T := F_M) (N := 9) hx hb hts (fun w h => List.mem_cons_of_mem _ (in_M w h)) hown hK hP 0 rfl rfl 4 (by decide) (hts (.fieldLink R_M 16 "PeriodWordsModel" "headBits" "[J") (List.mem_cons_of_mem _ mb_387)) (fun _ h9 => h9) rfl d_M_place_6 ?_
  refine lv_iload_n hx hb d_M_place_9 rfl (lv_at hl 3 rfl) ?_
  refine va_lald hx hb hK hP 3 2 rfl rfl (vp_in_nI (n := i) (by omega) (by omega)) d_M_place_10 ?_
  refine pq_top (y := .long (xb i)) (by rw [pq_cl (by omega)]) ?_
  refine pq_top (y := .long (lN (pw_b f 0 h))) (by rw [e3]) ?_
  refine lv_aload_n hx hb d_M_place_11 rfl (lv_at hl 2 rfl) ?_
  refine va_get (D := (dC, dI)) (ci := ciM) (v := .ref a1) (C := R_M) (T := F_M) (N := 9) hx hb hts (fun w h => List.mem_cons_of_mem _ (in_M w h)) hown hK hP 0 rfl rfl 2 (by decide) (hts (.fieldLink R_M 7 "PeriodWordsModel" "head" "[I") (List.mem_cons_of_mem _ mb_385)) (fun _ h9 => h9) rfl d_M_place_12 ?_
  refine lv_iload_n hx hb d_M_place_15 rfl (lv_at hl 3 rfl) ?_
  refine va_iald hx hb hK hP 1 0 rfl rfl (vp_in_nI (n := i) (by omega) (by omega)) d_M_place_16 ?_
  refine pq_top (y := .int (xh i)) (by rw [pq_cl (by omega)]) ?_
  refine pq_top (y := .int (nI (h))) (by rw [e1]) ?_
  refine vp_callSi (W.runS (As := [.long (lN (pw_b f 0 h)), .int (nI (h))]) (rest := []) ⟨hx, hb, hml, hown, hts⟩ (c_M_onesOf l dC dI (x := pw_b f 0 h) (k := h) hb0 (by omega)) (va_cwS 2 hts (gd_S mb_444 mb_445 mb_23 mb_446) rfl rfl rfl (by decide +kernel) ⟨Nat.le_of_ble_eq_true rfl, Nat.le_of_ble_eq_true rfl⟩) (pw_R_S pw_P0 (hK.sub [] rfl)) rfl rfl hl.1 rfl (lv_room (Nat.le_of_ble_eq_true rfl)) d_M_place_17 ⟨Nat.le_of_ble_eq_true rfl, Nat.le_of_ble_eq_true rfl⟩) (fun r_17 hr_17 => ?_)
  subst hr_17
  refine pq_top (y := .int (nI (pw_c f h))) (by rw [pw_p_c f h h (Nat.le_refl h)]) ?_
  refine lv_istore (lv' := [(5, .int (nI (pw_c f h))), (4, .int (nI (k))), (3, .int (nI (0))), (0, .ref o), (1, .int (nI (i))), (2, .int (nI (k)))]) hx hb d_M_place_20 hl (by decide) rfl (fun ls hl => ?_)
  refine lv_iload hx hb d_M_place_22 (lv_at hl 1 rfl) ?_
  refine lv_iload hx hb d_M_place_24 (lv_at hl 0 rfl) ?_
  refine pq_icmp_le (tgt := 85) (a := k) (b := (pw_c f h)) hx hb d_M_place_26 (by decide) (by omega) (by omega) (fun c_26 => ?_) (fun c_26 => ?_)
  · have B_85 : ∀ (k_ : Nat) (t : Nat) (left : Nat) (ls : Array Slot), (pw_tk f k - t) < k_ → (t ≤ pw_tk f k) → (pw_c f t + left = k) → (0 < left) → (pw_N f k (pw_tk f k)) → (pw_tk f k < 1073741824) → lv_has ls 8 [(0, .ref o), (1, .int (nI (i))), (3, .int (nI (t))), (4, .int (nI (left)))] → W p l e (headSpec ws_M_place ({ frames := 2, cells := 0, slots := 0, locals := 45 } : Room)).room s m ([.ref o, .int (nI (i)), .int (nI (k))]).toArray below meth c s.heap [] 0 0 (MQ below (vp_Si (fun r => ((0 < pw_o f h pp ∨ k ≤ pw_c f h) → r = nI (pw_tk f k)) ∧ (¬ (0 < pw_o f h pp ∨ k ≤ pw_c f h) → r = -1))) ([.ref o, .int (nI (i)), .int (nI (k))]).toArray s 0 0 (fun _ => False)) (F0 m 85 ls []) := by
      intro k_
      induction k_ with
      | zero => intro t left ls h_; omega
      | succ k_ ih_85 =>
        intro t left ls hm_ hT hcl hl0 hN hTb hl
        refine lv_iload hx hb d_M_place_85 (lv_at hl 3 rfl) ?_
        refine lv_aload_n hx hb d_M_place_87 rfl (lv_at hl 0 rfl) ?_
        refine lv_iload_n hx hb d_M_place_88 rfl (lv_at hl 1 rfl) ?_
        refine lv_iload_n hx hb d_M_place_89 rfl (lv_at hl 2 rfl) ?_
        refine vp_callSi (W.runV (As := [.int (nI (i)), .int (nI (t))]) (rest := [.int (nI (left))]) ⟨hx, hb, hml, hown, hts⟩ (c_M_has l dC dI hmd (t := t) (by omega)) (cwV 2 hts (gd_V mb_455 mb_457 mb_9 mb_23 mb_458) rfl rfl rfl (by decide +kernel) ⟨Nat.le_of_ble_eq_true rfl, Nat.le_of_ble_eq_true rfl⟩) (pw_R_V (va_recv hK hP (ci := ciM) (q0 := 0) rfl rfl) hP hK) rfl rfl hl.1 rfl (lv_room (Nat.le_of_ble_eq_true rfl)) d_M_place_90 ⟨Nat.le_of_ble_eq_true rfl, Nat.le_of_ble_eq_true rfl⟩) (fun r_90 hr_90 => ?_)
        subst hr_90
        refine pq_if_eq (tgt := 100) (a := ((f t).toNat)) hx hb d_M_place_93 (by decide) (by have := pw_lt2 (f t); omega) (fun c_93 => ?_) (fun c_93 => ?_)
        · refine lv_iconst (v := nI 0) hx hb d_M_place_100 (by decide) ?_
          refine pq_isub (a := left) (b := 0) hx hb d_M_place_101 (by omega) ?_
          refine lv_istore (lv' := [(4, .int (nI (left - 0))), (0, .ref o), (1, .int (nI (i))), (3, .int (nI (t)))]) hx hb d_M_place_102 hl (by decide) rfl (fun ls hl => ?_)
          refine lv_iload hx hb d_M_place_104 (lv_at hl 0 rfl) ?_
          refine pq_if_ne (tgt := 111) (a := (left - 0)) hx hb d_M_place_106 (by decide) (by omega) (fun c_106 => ?_) (fun c_106 => ?_)
          · have hq1 : pw_c f (t + 1) = pw_c f t + (f t).toNat := rfl
            have hq2 := pw_lt2 (f t)
            have hq3 : t + 1 ≤ pw_tk f k := pw_N_far hN (by omega)
            refine lv_iinc (v := nI (t + 1)) (lv' := [(3, .int (nI (t + 1))), (4, .int (nI (left - 0))), (0, .ref o), (1, .int (nI (i)))]) hx hb d_M_place_111 hl (k := 3) rfl (pq_inc _) (by decide) rfl (fun ls hl => ?_)
            refine lv_goto (tgt := 85) hx hb d_M_place_114 (by decide) ?_
            exact ih_85 (t + 1) (left - 0) ls (by omega) hq3 (by omega) (by omega) hN hTb (lv_sub hl [2, 3, 0, 1] rfl)
          · refine lv_iload_n hx hb d_M_place_109 rfl (lv_at hl 3 rfl) ?_
            exact W.iret (v := (nI (t))) hx hb hr (fun t_ ht_ hW_ => ⟨_, rfl, absurd c_106 (by omega), ht_⟩) (fun q h => absurd h List.not_mem_nil) d_M_place_110
        · refine lv_iconst (v := nI 1) hx hb d_M_place_96 (by decide) ?_
          refine lv_goto (tgt := 101) hx hb d_M_place_97 (by decide) ?_
          refine pq_isub (a := left) (b := 1) hx hb d_M_place_101 (by omega) ?_
          refine lv_istore (lv' := [(4, .int (nI (left - 1))), (0, .ref o), (1, .int (nI (i))), (3, .int (nI (t)))]) hx hb d_M_place_102 hl (by decide) rfl (fun ls hl => ?_)
          refine lv_iload hx hb d_M_place_104 (lv_at hl 0 rfl) ?_
          refine pq_if_ne (tgt := 111) (a := (left - 1)) hx hb d_M_place_106 (by decide) (by omega) (fun c_106 => ?_) (fun c_106 => ?_)
          · have hq1 : pw_c f (t + 1) = pw_c f t + (f t).toNat := rfl
            have hq2 := pw_lt2 (f t)
            have hq3 : t + 1 ≤ pw_tk f k := pw_N_far hN (by omega)
            refine lv_iinc (v := nI (t + 1)) (lv' := [(3, .int (nI (t + 1))), (4, .int (nI (left - 1))), (0, .ref o), (1, .int (nI (i)))]) hx hb d_M_place_111 hl (k := 3) rfl (pq_inc _) (by decide) rfl (fun ls hl => ?_)
            refine lv_goto (tgt := 85) hx hb d_M_place_114 (by decide) ?_
            exact ih_85 (t + 1) (left - 1) ls (by omega) hq3 (by omega) (by omega) hN hTb (lv_sub hl [2, 3, 0, 1] rfl)
          · refine lv_iload_n hx hb d_M_place_109 rfl (lv_at hl 3 rfl) ?_
            exact W.iret (v := (nI (t))) hx hb hr (fun t_ ht_ hW_ => ⟨_, rfl, ⟨fun _ => by rw [pw_tk_of (pw_plc c_93 hcl hl0 c_106)], fun z => absurd ((pw_has hE hp0 hk0).mp ⟨_, hN⟩) z⟩, ht_⟩) (fun q h => absurd h List.not_mem_nil) d_M_place_110
    exact B_85 _ (0) (k) ls (Nat.lt_succ_self _) (Nat.zero_le _) (Nat.zero_add k) hk0 (pw_tk_N ((pw_has hE hp0 hk0).mpr (Or.inr c_26))) (by have := pw_tk_le hE hp0 hk0 (Or.inr c_26); have : k * pp ≤ 16777216 * 60 := Nat.mul_le_mul (by omega) hp6; omega) (lv_sub hl [3, 4, 2, 1] rfl)
  · refine lv_aload_n hx hb d_M_place_29 rfl (lv_at hl 3 rfl) ?_
    refine lv_iload_n hx hb d_M_place_30 rfl (lv_at hl 4 rfl) ?_
    refine vp_callSi (W.runV (As := [.int (nI (i))]) (rest := []) ⟨hx, hb, hml, hown, hts⟩ (c_M_inRing l dC dI hmd) (cwV 1 hts (gd_V mb_440 mb_442 mb_6 mb_23 mb_443) rfl rfl rfl (by decide +kernel) ⟨Nat.le_of_ble_eq_true rfl, Nat.le_of_ble_eq_true rfl⟩) (pw_R_V (va_recv hK hP (ci := ciM) (q0 := 0) rfl rfl) hP hK) rfl rfl hl.1 rfl (lv_room (Nat.le_of_ble_eq_true rfl)) d_M_place_31 ⟨Nat.le_of_ble_eq_true rfl, Nat.le_of_ble_eq_true rfl⟩) (fun r_31 hr_31 => ?_)
    subst hr_31
    refine lv_istore (lv' := [(6, .int (nI (pw_o f h pp))), (5, .int (nI (pw_c f h))), (4, .int (nI (k))), (3, .int (nI (0))), (0, .ref o), (1, .int (nI (i))), (2, .int (nI (k)))]) hx hb d_M_place_34 hl (by decide) rfl (fun ls hl => ?_)
    refine lv_iload hx hb d_M_place_36 (lv_at hl 0 rfl) ?_
    refine pq_if_ne (tgt := 43) (a := (pw_o f h pp)) hx hb d_M_place_38 (by decide) (by omega) (fun c_38 => ?_) (fun c_38 => ?_)
    · have hq := Nat.div_mul_le_self (k - pw_c f h - 1) (pw_o f h pp)
      have hper := pw_c_per hE hp0 ((k - pw_c f h - 1) / pw_o f h pp) (Nat.le_refl h)
      have hN0 := pw_tk_N ((pw_has hE hp0 hk0).mpr (Or.inl c_38))
      have hT1 := pw_tk_le hE hp0 hk0 (Or.inl c_38)
      have hT2 : k * pp ≤ 16777216 * 60 := Nat.mul_le_mul (by omega) hp6
      refine lv_iload hx hb d_M_place_43 (lv_at hl 2 rfl) ?_
      refine lv_iload hx hb d_M_place_45 (lv_at hl 1 rfl) ?_
      refine pq_isub (a := k) (b := (pw_c f h)) hx hb d_M_place_47 (by omega) ?_
      refine lv_iconst (v := nI 1) hx hb d_M_place_48 (by decide) ?_
      refine pq_isub (a := (k - (pw_c f h))) (b := 1) hx hb d_M_place_49 (by omega) ?_
      refine lv_iload hx hb d_M_place_50 (lv_at hl 0 rfl) ?_
      refine pq_idiv (a := ((k - (pw_c f h)) - 1)) (b := (pw_o f h pp)) hx hb d_M_place_52 (by omega) (by omega) (by omega) ?_
      refine lv_istore (lv' := [(7, .int (nI (((k - (pw_c f h)) - 1) / (pw_o f h pp)))), (6, .int (nI (pw_o f h pp))), (5, .int (nI (pw_c f h))), (4, .int (nI (k))), (3, .int (nI (0))), (0, .ref o), (1, .int (nI (i))), (2, .int (nI (k)))]) hx hb d_M_place_53 hl (by decide) rfl (fun ls hl => ?_)
      refine lv_iload hx hb d_M_place_55 (lv_at hl 3 rfl) ?_
      refine lv_iload hx hb d_M_place_57 (lv_at hl 2 rfl) ?_
      refine lv_iload hx hb d_M_place_59 (lv_at hl 0 rfl) ?_
      refine lv_iload hx hb d_M_place_61 (lv_at hl 1 rfl) ?_
      refine pq_imul (a := (((k - (pw_c f h)) - 1) / (pw_o f h pp))) (b := (pw_o f h pp)) hx hb d_M_place_63 ?_
      refine pq_iadd (a := (pw_c f h)) (b := ((((k - (pw_c f h)) - 1) / (pw_o f h pp)) * (pw_o f h pp))) hx hb d_M_place_64 ?_
      refine pq_isub (a := k) (b := ((pw_c f h) + ((((k - (pw_c f h)) - 1) / (pw_o f h pp)) * (pw_o f h pp)))) hx hb d_M_place_65 (by omega) ?_
      refine lv_istore (lv' := [(4, .int (nI (k - ((pw_c f h) + ((((k - (pw_c f h)) - 1) / (pw_o f h pp)) * (pw_o f h pp)))))), (7, .int (nI (((k - (pw_c f h)) - 1) / (pw_o f h pp)))), (6, .int (nI (pw_o f h pp))), (5, .int (nI (pw_c f h))), (3, .int (nI (0))), (0, .ref o), (1, .int (nI (i))), (2, .int (nI (k)))]) hx hb d_M_place_66 hl (by decide) rfl (fun ls hl => ?_)
      refine lv_aload_n hx hb d_M_place_68 rfl (lv_at hl 5 rfl) ?_
      refine va_get (D := (dC, dI)) (ci := ciM) (v := .ref a1) (C := R_M) (T := F_M) (N := 9) hx hb hts (fun w h => List.mem_cons_of_mem _ (in_M w h)) hown hK hP 0 rfl rfl 2 (by decide) (hts (.fieldLink R_M 7 "PeriodWordsModel" "head" "[I") (List.mem_cons_of_mem _ mb_385)) (fun _ h9 => h9) rfl d_M_place_69 ?_
      refine lv_iload_n hx hb d_M_place_72 rfl (lv_at hl 6 rfl) ?_
      refine va_iald hx hb hK hP 1 0 rfl rfl (vp_in_nI (n := i) (by omega) (by omega)) d_M_place_73 ?_
      refine pq_top (y := .int (xh i)) (by rw [pq_cl (by omega)]) ?_
      refine pq_top (y := .int (nI (h))) (by rw [e1]) ?_
      refine lv_iload hx hb d_M_place_74 (lv_at hl 1 rfl) ?_
      refine lv_aload_n hx hb d_M_place_76 rfl (lv_at hl 5 rfl) ?_
      refine va_get (D := (dC, dI)) (ci := ciM) (v := .ref a2) (C := R_M) (T := F_M) (N := 9) hx hb hts (fun w h => List.mem_cons_of_mem _ (in_M w h)) hown hK hP 0 rfl rfl 3 (by decide) (hts (.fieldLink R_M 13 "PeriodWordsModel" "ring" "[I") (List.mem_cons_of_mem _ mb_386)) (fun _ h9 => h9) rfl d_M_place_77 ?_
      refine lv_iload_n hx hb d_M_place_80 rfl (lv_at hl 6 rfl) ?_
      refine va_iald hx hb hK hP 2 1 rfl rfl (vp_in_nI (n := i) (by omega) (by omega)) d_M_place_81 ?_
      refine pq_top (y := .int (yr i)) (by rw [pq_cl (by omega)]) ?_
      refine pq_top (y := .int (nI (pp))) (by rw [e2]) ?_
      refine pq_imul (a := (((k - (pw_c f h)) - 1) / (pw_o f h pp))) (b := pp) hx hb d_M_place_82 ?_
      refine pq_iadd (a := h) (b := ((((k - (pw_c f h)) - 1) / (pw_o f h pp)) * pp)) hx hb d_M_place_83 ?_
      refine lv_istore_n (lv' := [(3, .int (nI (h + ((((k - (pw_c f h)) - 1) / (pw_o f h pp)) * pp)))), (4, .int (nI (k - ((pw_c f h) + ((((k - (pw_c f h)) - 1) / (pw_o f h pp)) * (pw_o f h pp)))))), (7, .int (nI (((k - (pw_c f h)) - 1) / (pw_o f h pp)))), (6, .int (nI (pw_o f h pp))), (5, .int (nI (pw_c f h))), (0, .ref o), (1, .int (nI (i))), (2, .int (nI (k)))]) hx hb d_M_place_84 rfl hl (by decide) rfl (fun ls hl => ?_)
      have B_85 : ∀ (k_ : Nat) (t : Nat) (left : Nat) (ls : Array Slot), (pw_tk f k - t) < k_ → (t ≤ pw_tk f k) → (pw_c f t + left = k) → (0 < left) → (pw_N f k (pw_tk f k)) → (pw_tk f k < 1073741824) → lv_has ls 8 [(0, .ref o), (1, .int (nI (i))), (3, .int (nI (t))), (4, .int (nI (left)))] → W p l e (headSpec ws_M_place ({ frames := 2, cells := 0, slots := 0, locals := 45 } : Room)).room s m ([.ref o, .int (nI (i)), .int (nI (k))]).toArray below meth c s.heap [] 0 0 (MQ below (vp_Si (fun r => ((0 < pw_o f h pp ∨ k ≤ pw_c f h) → r = nI (pw_tk f k)) ∧ (¬ (0 < pw_o f h pp ∨ k ≤ pw_c f h) → r = -1))) ([.ref o, .int (nI (i)), .int (nI (k))]).toArray s 0 0 (fun _ => False)) (F0 m 85 ls []) := by
        intro k_
        induction k_ with
        | zero => intro t left ls h_; omega
        | succ k_ ih_85 =>
          intro t left ls hm_ hT hcl hl0 hN hTb hl
          refine lv_iload hx hb d_M_place_85 (lv_at hl 3 rfl) ?_
          refine lv_aload_n hx hb d_M_place_87 rfl (lv_at hl 0 rfl) ?_
          refine lv_iload_n hx hb d_M_place_88 rfl (lv_at hl 1 rfl) ?_
          refine lv_iload_n hx hb d_M_place_89 rfl (lv_at hl 2 rfl) ?_
          refine vp_callSi (W.runV (As := [.int (nI (i)), .int (nI (t))]) (rest := [.int (nI (left))]) ⟨hx, hb, hml, hown, hts⟩ (c_M_has l dC dI hmd (t := t) (by omega)) (cwV 2 hts (gd_V mb_455 mb_457 mb_9 mb_23 mb_458) rfl rfl rfl (by decide +kernel) ⟨Nat.le_of_ble_eq_true rfl, Nat.le_of_ble_eq_true rfl⟩) (pw_R_V (va_recv hK hP (ci := ciM) (q0 := 0) rfl rfl) hP hK) rfl rfl hl.1 rfl (lv_room (Nat.le_of_ble_eq_true rfl)) d_M_place_90 ⟨Nat.le_of_ble_eq_true rfl, Nat.le_of_ble_eq_true rfl⟩) (fun r_90 hr_90 => ?_)
          subst hr_90
          refine pq_if_eq (tgt := 100) (a := ((f t).toNat)) hx hb d_M_place_93 (by decide) (by have := pw_lt2 (f t); omega) (fun c_93 => ?_) (fun c_93 => ?_)
          · refine lv_iconst (v := nI 0) hx hb d_M_place_100 (by decide) ?_
            refine pq_isub (a := left) (b := 0) hx hb d_M_place_101 (by omega) ?_
            refine lv_istore (lv' := [(4, .int (nI (left - 0))), (0, .ref o), (1, .int (nI (i))), (3, .int (nI (t)))]) hx hb d_M_place_102 hl (by decide) rfl (fun ls hl => ?_)
            refine lv_iload hx hb d_M_place_104 (lv_at hl 0 rfl) ?_
            refine pq_if_ne (tgt := 111) (a := (left - 0)) hx hb d_M_place_106 (by decide) (by omega) (fun c_106 => ?_) (fun c_106 => ?_)
            · have hq1 : pw_c f (t + 1) = pw_c f t + (f t).toNat := rfl
              have hq2 := pw_lt2 (f t)
              have hq3 : t + 1 ≤ pw_tk f k := pw_N_far hN (by omega)
              refine lv_iinc (v := nI (t + 1)) (lv' := [(3, .int (nI (t + 1))), (4, .int (nI (left - 0))), (0, .ref o), (1, .int (nI (i)))]) hx hb d_M_place_111 hl (k := 3) rfl (pq_inc _) (by decide) rfl (fun ls hl => ?_)
              refine lv_goto (tgt := 85) hx hb d_M_place_114 (by decide) ?_
              exact ih_85 (t + 1) (left - 0) ls (by omega) hq3 (by omega) (by omega) hN hTb (lv_sub hl [2, 3, 0, 1] rfl)
            · refine lv_iload_n hx hb d_M_place_109 rfl (lv_at hl 3 rfl) ?_
              exact W.iret (v := (nI (t))) hx hb hr (fun t_ ht_ hW_ => ⟨_, rfl, absurd c_106 (by omega), ht_⟩) (fun q h => absurd h List.not_mem_nil) d_M_place_110
          · refine lv_iconst (v := nI 1) hx hb d_M_place_96 (by decide) ?_
            refine lv_goto (tgt := 101) hx hb d_M_place_97 (by decide) ?_
            refine pq_isub (a := left) (b := 1) hx hb d_M_place_101 (by omega) ?_
            refine lv_istore (lv' := [(4, .int (nI (left - 1))), (0, .ref o), (1, .int (nI (i))), (3, .int (nI (t)))]) hx hb d_M_place_102 hl (by decide) rfl (fun ls hl => ?_)
            refine lv_iload hx hb d_M_place_104 (lv_at hl 0 rfl) ?_
            refine pq_if_ne (tgt := 111) (a := (left - 1)) hx hb d_M_place_106 (by decide) (by omega) (fun c_106 => ?_) (fun c_106 => ?_)
            · have hq1 : pw_c f (t + 1) = pw_c f t + (f t).toNat := rfl
              have hq2 := pw_lt2 (f t)
              have hq3 : t + 1 ≤ pw_tk f k := pw_N_far hN (by omega)
              refine lv_iinc (v := nI (t + 1)) (lv' := [(3, .int (nI (t + 1))), (4, .int (nI (left - 1))), (0, .ref o), (1, .int (nI (i)))]) hx hb d_M_place_111 hl (k := 3) rfl (pq_inc _) (by decide) rfl (fun ls hl => ?_)
              refine lv_goto (tgt := 85) hx hb d_M_place_114 (by decide) ?_
              exact ih_85 (t + 1) (left - 1) ls (by omega) hq3 (by omega) (by omega) hN hTb (lv_sub hl [2, 3, 0, 1] rfl)
            · refine lv_iload_n hx hb d_M_place_109 rfl (lv_at hl 3 rfl) ?_
              exact W.iret (v := (nI (t))) hx hb hr (fun t_ ht_ hW_ => ⟨_, rfl, ⟨fun _ => by rw [pw_tk_of (pw_plc c_93 hcl hl0 c_106)], fun z => absurd ((pw_has hE hp0 hk0).mp ⟨_, hN⟩) z⟩, ht_⟩) (fun q h => absurd h List.not_mem_nil) d_M_place_110
      exact B_85 _ (h + ((((k - (pw_c f h)) - 1) / (pw_o f h pp)) * pp)) (k - ((pw_c f h) + ((((k - (pw_c f h)) - 1) / (pw_o f h pp)) * (pw_o f h pp)))) ls (Nat.lt_succ_self _) (pw_N_far hN0 (by omega)) (by omega) (by omega) hN0 (by omega) (lv_sub hl [5, 6, 0, 1] rfl)
    · refine lv_iconst (v := (-1)) hx hb d_M_place_41 (by decide) ?_
      exact W.iret (v := (-1)) hx hb hr (fun t_ ht_ hW_ => ⟨_, rfl, ⟨fun z => absurd z (by omega), fun _ => rfl⟩, ht_⟩) (fun q h => absurd h List.not_mem_nil) d_M_place_42
set_option maxHeartbeats 4000000 in
set_option maxRecDepth 100000 in
theorem c_M_comesBack (l : Launch) (dC : Nat → ClassId) (dI : Nat → Nat → Nat) {o a1 a2 a3 a4 a5 : Nat} {c1 c2 c3 c4 c5 : ClassId} {th mo le : Int32} {n : Nat} {xh yr : Nat → Int32} {xb yb : Nat → Int64} {bs : Nat → Int32} {F : Nat → Bool} {fr bk : Nat} (hbs : ∀ t, t < fr + bk → bs t = nI (F t).toNat) (hfb : fr + bk ≤ 7400) {p0 : Nat} (hp1 : p0 ≤ 7400) : Met l y_M_comesBack ws_M_comesBack ({ frames := 0, cells := 0, slots := 0, locals := 0 } : Room) (pw_R [.ref o, .int (nI (fr)), .int (nI (bk)), .int (nI (p0))] dC dI (mdT c1 c2 c3 c4 c5) (md o a1 a2 a3 a4 a5 c1 c2 c3 c4 c5 th n mo le xh yr xb yb bs)) (vp_Si (fun r => (r = nI 1 ∧ pw_B F fr bk p0) ∨ (r = nI 0 ∧ ¬ pw_B F fr bk p0))) 0 0 (fun _ => False) := by
  refine Met.ofW (cc := b_M_comesBack) (maxL := 5) (ret := (some .boolean)) (by decide) rfl ?_
  intro p e s m args below meth c s₁ B hml hv
  obtain ⟨rfl, hP, hK⟩ := hv
  have hx := B.exec
  have hb := B.bytes
  have hr := B.returns
  have hts := atoms_spec (ws := ws_M_comesBack) B.pre
  have hown : s.vm.findClass R_M = some m.cls := findClass_of_methodNamed B.named
  have hlocks := B.notSynchronized
  have hl := lv_entry ([.ref o, .int (nI (fr)), .int (nI (bk)), .int (nI (p0))]) (n := 5) (Nat.le_of_ble_eq_true rfl)
  rw [lg_entry_eq]
  generalize (lg_sl ([.ref o, .int (nI (fr)), .int (nI (bk)), .int (nI (p0))]) ++ List.replicate (5 - (lg_sl ([.ref o, .int (nI (fr)), .int (nI (bk)), .int (nI (p0))])).length) Slot.unset).toArray = ls at hl ⊢
  have hl : lv_has ls 5 [(0, .ref o), (1, .int (nI (fr))), (2, .int (nI (bk))), (3, .int (nI (p0)))] := hl
  refine lv_iconst (v := nI 0) hx hb d_M_comesBack_0 (by decide) ?_
  refine lv_istore (lv' := [(4, .int (nI (0))), (0, .ref o), (1, .int (nI (fr))), (2, .int (nI (bk))), (3, .int (nI (p0)))]) hx hb d_M_comesBack_1 hl (by decide) rfl (fun ls hl => ?_)
  have B_3 : ∀ (k_ : Nat) (k : Nat) (ls : Array Slot), (bk - k) < k_ → (k ≤ bk) → (∀ j, j < k → j + p0 < bk → F (fr + j) = F (fr + j + p0)) → lv_has ls 5 [(0, .ref o), (1, .int (nI (fr))), (2, .int (nI (bk))), (3, .int (nI (p0))), (4, .int (nI (k)))] → W p l e (headSpec ws_M_comesBack ({ frames := 0, cells := 0, slots := 0, locals := 0 } : Room)).room s m ([.ref o, .int (nI (fr)), .int (nI (bk)), .int (nI (p0))]).toArray below meth c s.heap [] 0 0 (MQ below (vp_Si (fun r => (r = nI 1 ∧ pw_B F fr bk p0) ∨ (r = nI 0 ∧ ¬ pw_B F fr bk p0))) ([.ref o, .int (nI (fr)), .int (nI (bk)), .int (nI (p0))]).toArray s 0 0 (fun _ => False)) (F0 m 3 ls []) := by
    intro k_
    induction k_ with
    | zero => intro k ls h_; omega
    | succ k_ ih_3 =>
      intro k ls hm_ hk hin hl
      refine lv_iload hx hb d_M_comesBack_3 (lv_at hl 4 rfl) ?_
      refine lv_iload_n hx hb d_M_comesBack_5 rfl (lv_at hl 3 rfl) ?_
      refine pq_iadd (a := k) (b := p0) hx hb d_M_comesBack_6 ?_
      refine lv_iload_n hx hb d_M_comesBack_7 rfl (lv_at hl 2 rfl) ?_
      refine pq_icmp_ge (tgt := 42) (a := (k + p0)) (b := bk) hx hb d_M_comesBack_8 (by decide) (by omega) (by omega) (fun c_8 => ?_) (fun c_8 => ?_)
      · refine lv_iconst (v := nI 1) hx hb d_M_comesBack_42 (by decide) ?_
        exact W.zret (v := (nI (1))) hx hb hr (by decide) (fun t_ ht_ hW_ => ⟨_, rfl, Or.inl ⟨rfl, fun j hj => hin j (by omega) hj⟩, ht_⟩) (fun q h => absurd h List.not_mem_nil) d_M_comesBack_43
      · refine lv_aload_n hx hb d_M_comesBack_11 rfl (lv_at hl 0 rfl) ?_
        refine va_get (D := (dC, dI)) (ci := ciM) (v := .ref a5) (C := R_M) (T := F_M) (N := 9) hx hb hts (fun w h => List.mem_cons_of_mem _ (in_M w h)) hown hK hP 0 rfl rfl 6 (by decide) (hts (.fieldLink R_M 23 "PeriodWordsModel" "bits" "[Z") (List.mem_cons_of_mem _ mb_389)) (fun _ h9 => h9) rfl d_M_comesBack_12 ?_
        refine lv_iload_n hx hb d_M_comesBack_15 rfl (lv_at hl 1 rfl) ?_
        refine lv_iload hx hb d_M_comesBack_16 (lv_at hl 4 rfl) ?_
        refine pq_iadd (a := fr) (b := k) hx hb d_M_comesBack_18 ?_
        refine va_zald hx hb hK hP 5 4 rfl rfl (vp_in_nI (n := (fr + k)) (by omega) (by omega)) d_M_comesBack_19 ?_
        refine pq_top (y := .int (bs (fr + k))) (by rw [pq_cl (by omega)]) ?_
        refine pq_top (y := .int (nI ((F (fr + k)).toNat))) (by rw [hbs _ (by omega)]) ?_
        refine lv_aload_n hx hb d_M_comesBack_20 rfl (lv_at hl 0 rfl) ?_
        refine va_get (D := (dC, dI)) (ci := ciM) (v := .ref a5) (C := R_M) (T := F_M) (N := 9) hx hb hts (fun w h => List.mem_cons_of_mem _ (in_M w h)) hown hK hP 0 rfl rfl 6 (by decide) (hts (.fieldLink R_M 23 "PeriodWordsModel" "bits" "[Z") (List.mem_cons_of_mem _ mb_389)) (fun _ h9 => h9) rfl d_M_comesBack_21 ?_
        refine lv_iload_n hx hb d_M_comesBack_24 rfl (lv_at hl 1 rfl) ?_
        refine lv_iload hx hb d_M_comesBack_25 (lv_at hl 4 rfl) ?_
        refine pq_iadd (a := fr) (b := k) hx hb d_M_comesBack_27 ?_
        refine lv_iload_n hx hb d_M_comesBack_28 rfl (lv_at hl 3 rfl) ?_
        refine pq_iadd (a := (fr + k)) (b := p0) hx hb d_M_comesBack_29 ?_
        refine va_zald hx hb hK hP 5 4 rfl rfl (vp_in_nI (n := ((fr + k) + p0)) (by omega) (by omega)) d_M_comesBack_30 ?_
        refine pq_top (y := .int (bs ((fr + k) + p0))) (by rw [pq_cl (by omega)]) ?_
        refine pq_top (y := .int (nI ((F (fr + k + p0)).toNat))) (by rw [hbs _ (by omega)]) ?_
        refine pq_icmp_eq (tgt := 36) (a := ((F (fr + k)).toNat)) (b := ((F (fr + k + p0)).toNat)) hx hb d_M_comesBack_31 (by decide) (by have := pw_lt2 (F (fr + k)); omega) (by have := pw_lt2 (F (fr + k + p0)); omega) (fun c_31 => ?_) (fun c_31 => ?_)
        · refine lv_iinc (v := nI (k + 1)) (lv' := [(4, .int (nI (k + 1))), (0, .ref o), (1, .int (nI (fr))), (2, .int (nI (bk))), (3, .int (nI (p0)))]) hx hb d_M_comesBack_36 hl (k := 4) rfl (pq_inc _) (by decide) rfl (fun ls hl => ?_)
          refine lv_goto (tgt := 3) hx hb d_M_comesBack_39 (by decide) ?_
          exact ih_3 (k + 1) ls (by omega) (by omega) (lt_s hin (fun _ => pw_tnI c_31)) (lv_sub hl [1, 2, 3, 4, 0] rfl)
        · refine lv_iconst (v := nI 0) hx hb d_M_comesBack_34 (by decide) ?_
          exact W.zret (v := (nI (0))) hx hb hr (by decide) (fun t_ ht_ hW_ => ⟨_, rfl, Or.inr ⟨rfl, fun z => c_31 (by rw [z k (by omega)])⟩, ht_⟩) (fun q h => absurd h List.not_mem_nil) d_M_comesBack_35
  exact B_3 _ (0) ls (Nat.lt_succ_self _) (by omega) (fun j hj => absurd hj (Nat.not_lt_zero j)) (lv_sub hl [1, 2, 3, 4, 0] rfl)
