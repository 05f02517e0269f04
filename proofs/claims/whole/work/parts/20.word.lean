set_option maxHeartbeats 4000000 in
set_option maxRecDepth 100000 in
theorem c_bitCount (l : Launch) (dC : Nat → ClassId) (dI : Nat → Nat → Nat) {x : Nat} (hx1 : x < 2 ^ 64) : Met l y_JL_bitCount ws_JL_bitCount ({ frames := 0, cells := 0, slots := 0, locals := 0 } : Room) (pw_R [.long (lN (x))] dC dI [] []) (vp_Si (fun r => r = nI (pw_p x 64))) 0 0 (fun _ => False) := by
  refine Met.ofW (cc := b_JL_bitCount) (maxL := 2) (ret := (some .int)) (by decide) rfl ?_
  intro p e s m args below meth c s₁ B hml hv
  obtain ⟨rfl, hP, hK⟩ := hv
  have hx := B.exec
  have hb := B.bytes
  have hr := B.returns
  have hts := atoms_spec (ws := ws_JL_bitCount) B.pre
  have hown : s.vm.findClass R_JL = some m.cls := findClass_of_methodNamed B.named
  have hlocks := B.notSynchronized
  obtain ⟨b1, b2, b3, b4, b5⟩ := pw_bd hx1
  obtain ⟨k5, k3, kf⟩ := pw_mm
  have hpop := (pw_pop hx1 rfl).2
  have hl := lv_entry ([.long (lN (x))]) (n := 2) (Nat.le_of_ble_eq_true rfl)
  rw [lg_entry_eq]
  generalize (lg_sl ([.long (lN (x))]) ++ List.replicate (2 - (lg_sl ([.long (lN (x))])).length) Slot.unset).toArray = ls at hl ⊢
  have hl : lv_has ls 2 [(0, .long (lN (x)))] := hl
  refine lv_lload_n hx hb d_JL_bitCount_0 rfl (lv_at hl 0 rfl) ?_
  refine lv_lload_n hx hb d_JL_bitCount_1 rfl (lv_at hl 0 rfl) ?_
  refine lv_iconst (v := nI 1) hx hb d_JL_bitCount_2 (by decide) ?_
  refine lv_lushr hx hb d_JL_bitCount_3 rfl ?_
  refine lv_topl (fun y_1 ey_1 => ?_)
  refine pq_top (y := .long (lN (x / 2))) (by rw [ey_1, pq_ushr hx1 (by decide) (show 2 ^ 1 = 2 from rfl)]) ?_
  refine lv_ldc2 (v := (6148914691236517205)) hx hb hown (hts (.constantLong R_JL 314 (6148914691236517205)) (List.mem_cons_of_mem _ mb_70)) d_JL_bitCount_4 ?_
  refine pq_top (y := .long (lN (pw_m5 8))) (by rw [show (6148914691236517205 : Int64) = lN (pw_m5 8) by decide +kernel]) ?_
  refine lv_land hx hb d_JL_bitCount_7 ?_
  refine lv_topl (fun y_2 ey_2 => ?_)
  refine pq_top (y := .long (lN (x / 2 &&& pw_m5 8))) (by rw [ey_2, wb_and (Nat.lt_of_le_of_lt (Nat.div_le_self _ _) hx1) k5]) ?_
  refine lv_lsub hx hb d_JL_bitCount_8 ?_
  refine lv_topl (fun y_3 ey_3 => ?_)
  refine pq_top (y := .long (lN (pw_y 8 x))) (by rw [ey_3, lN_sub b1]; rfl) ?_
  refine lv_lstore_n (lv' := [(0, .long (lN (pw_y 8 x)))]) hx hb d_JL_bitCount_9 rfl hl (by decide) rfl (fun ls hl => ?_)
  refine lv_lload_n hx hb d_JL_bitCount_10 rfl (lv_at hl 0 rfl) ?_
  refine lv_ldc2 (v := (3689348814741910323)) hx hb hown (hts (.constantLong R_JL 316 (3689348814741910323)) (List.mem_cons_of_mem _ mb_71)) d_JL_bitCount_11 ?_
  refine pq_top (y := .long (lN (pw_m3 8))) (by rw [show (3689348814741910323 : Int64) = lN (pw_m3 8) by decide +kernel]) ?_
  refine lv_land hx hb d_JL_bitCount_14 ?_
  refine lv_topl (fun y_4 ey_4 => ?_)
  refine pq_top (y := .long (lN (pw_y 8 x &&& pw_m3 8))) (by rw [ey_4, wb_and b2 k3]) ?_
  refine lv_lload_n hx hb d_JL_bitCount_15 rfl (lv_at hl 0 rfl) ?_
  refine lv_iconst (v := nI 2) hx hb d_JL_bitCount_16 (by decide) ?_
  refine lv_lushr hx hb d_JL_bitCount_17 rfl ?_
  refine lv_topl (fun y_5 ey_5 => ?_)
  refine pq_top (y := .long (lN (pw_y 8 x / 4))) (by rw [ey_5, pq_ushr b2 (by decide) (show 2 ^ 2 = 4 from rfl)]) ?_
  refine lv_ldc2 (v := (3689348814741910323)) hx hb hown (hts (.constantLong R_JL 316 (3689348814741910323)) (List.mem_cons_of_mem _ mb_71)) d_JL_bitCount_18 ?_
  refine pq_top (y := .long (lN (pw_m3 8))) (by rw [show (3689348814741910323 : Int64) = lN (pw_m3 8) by decide +kernel]) ?_
  refine lv_land hx hb d_JL_bitCount_21 ?_
  refine lv_topl (fun y_6 ey_6 => ?_)
  refine pq_top (y := .long (lN (pw_y 8 x / 4 &&& pw_m3 8))) (by rw [ey_6, wb_and (Nat.lt_of_le_of_lt (Nat.div_le_self _ _) b2) k3]) ?_
  refine lv_ladd hx hb d_JL_bitCount_22 ?_
  refine lv_topl (fun y_7 ey_7 => ?_)
  refine pq_top (y := .long (lN (pw_z 8 (pw_y 8 x)))) (by rw [ey_7, lN_add]; rfl) ?_
  refine lv_lstore_n (lv' := [(0, .long (lN (pw_z 8 (pw_y 8 x))))]) hx hb d_JL_bitCount_23 rfl hl (by decide) rfl (fun ls hl => ?_)
  refine lv_lload_n hx hb d_JL_bitCount_24 rfl (lv_at hl 0 rfl) ?_
  refine lv_lload_n hx hb d_JL_bitCount_25 rfl (lv_at hl 0 rfl) ?_
  refine lv_iconst (v := nI 4) hx hb d_JL_bitCount_26 (by decide) ?_
  refine lv_lushr hx hb d_JL_bitCount_27 rfl ?_
  refine lv_topl (fun y_8 ey_8 => ?_)
  refine pq_top (y := .long (lN (pw_z 8 (pw_y 8 x) / 16))) (by rw [ey_8, pq_ushr b3 (by decide) (show 2 ^ 4 = 16 from rfl)]) ?_
  refine lv_ladd hx hb d_JL_bitCount_28 ?_
  refine lv_topl (fun y_9 ey_9 => ?_)
  refine pq_top (y := .long (lN (pw_z 8 (pw_y 8 x) + pw_z 8 (pw_y 8 x) / 16))) (by rw [ey_9, lN_add]) ?_
  refine lv_ldc2 (v := (1085102592571150095)) hx hb hown (hts (.constantLong R_JL 318 (1085102592571150095)) (List.mem_cons_of_mem _ mb_72)) d_JL_bitCount_29 ?_
  refine pq_top (y := .long (lN (pw_mf 8))) (by rw [show (1085102592571150095 : Int64) = lN (pw_mf 8) by decide +kernel]) ?_
  refine lv_land hx hb d_JL_bitCount_32 ?_
  refine lv_topl (fun y_10 ey_10 => ?_)
  refine pq_top (y := .long (lN (pw_q 8 x))) (by rw [ey_10, wb_and b4 kf]; rfl) ?_
  refine lv_lstore_n (lv' := [(0, .long (lN (pw_q 8 x)))]) hx hb d_JL_bitCount_33 rfl hl (by decide) rfl (fun ls hl => ?_)
  refine lv_lload_n hx hb d_JL_bitCount_34 rfl (lv_at hl 0 rfl) ?_
  refine lv_lload_n hx hb d_JL_bitCount_35 rfl (lv_at hl 0 rfl) ?_
  refine lv_bipush (v := nI 8) hx hb d_JL_bitCount_36 (by decide) ?_
  refine lv_lushr hx hb d_JL_bitCount_38 rfl ?_
  refine lv_topl (fun y_11 ey_11 => ?_)
  refine pq_top (y := .long (lN (pw_q 8 x / 256))) (by rw [ey_11, pq_ushr (by omega) (by decide) (show 2 ^ 8 = 256 from rfl)]) ?_
  refine lv_ladd hx hb d_JL_bitCount_39 ?_
  refine lv_topl (fun y_12 ey_12 => ?_)
  refine pq_top (y := .long (lN (pw_q 8 x + pw_q 8 x / 256))) (by rw [ey_12, lN_add]) ?_
  refine lv_lstore_n (lv' := [(0, .long (lN (pw_q 8 x + pw_q 8 x / 256)))]) hx hb d_JL_bitCount_40 rfl hl (by decide) rfl (fun ls hl => ?_)
  refine lv_lload_n hx hb d_JL_bitCount_41 rfl (lv_at hl 0 rfl) ?_
  refine lv_lload_n hx hb d_JL_bitCount_42 rfl (lv_at hl 0 rfl) ?_
  refine lv_bipush (v := nI 16) hx hb d_JL_bitCount_43 (by decide) ?_
  refine lv_lushr hx hb d_JL_bitCount_45 rfl ?_
  refine lv_topl (fun y_13 ey_13 => ?_)
  refine pq_top (y := .long (lN ((pw_q 8 x + pw_q 8 x / 256) / 65536))) (by rw [ey_13, pq_ushr (by omega) (by decide) (show 2 ^ 16 = 65536 from rfl)]) ?_
  refine lv_ladd hx hb d_JL_bitCount_46 ?_
  refine lv_topl (fun y_14 ey_14 => ?_)
  refine pq_top (y := .long (lN (pw_q 8 x + pw_q 8 x / 256 + (pw_q 8 x + pw_q 8 x / 256) / 65536))) (by rw [ey_14, lN_add]) ?_
  refine lv_lstore_n (lv' := [(0, .long (lN (pw_q 8 x + pw_q 8 x / 256 + (pw_q 8 x + pw_q 8 x / 256) / 65536)))]) hx hb d_JL_bitCount_47 rfl hl (by decide) rfl (fun ls hl => ?_)
  refine lv_lload_n hx hb d_JL_bitCount_48 rfl (lv_at hl 0 rfl) ?_
  refine lv_lload_n hx hb d_JL_bitCount_49 rfl (lv_at hl 0 rfl) ?_
  refine lv_bipush (v := nI 32) hx hb d_JL_bitCount_50 (by decide) ?_
  refine lv_lushr hx hb d_JL_bitCount_52 rfl ?_
  refine lv_topl (fun y_15 ey_15 => ?_)
  refine pq_top (y := .long (lN ((pw_q 8 x + pw_q 8 x / 256 + (pw_q 8 x + pw_q 8 x / 256) / 65536) / 4294967296))) (by rw [ey_15, pq_ushr (by omega) (by decide) (show 2 ^ 32 = 4294967296 from rfl)]) ?_
  refine lv_ladd hx hb d_JL_bitCount_53 ?_
  refine lv_topl (fun y_16 ey_16 => ?_)
  refine pq_top (y := .long (lN (pw_q 8 x + pw_q 8 x / 256 + (pw_q 8 x + pw_q 8 x / 256) / 65536 + (pw_q 8 x + pw_q 8 x / 256 + (pw_q 8 x + pw_q 8 x / 256) / 65536) / 4294967296))) (by rw [ey_16, lN_add]) ?_
  refine lv_lstore_n (lv' := [(0, .long (lN (pw_q 8 x + pw_q 8 x / 256 + (pw_q 8 x + pw_q 8 x / 256) / 65536 + (pw_q 8 x + pw_q 8 x / 256 + (pw_q 8 x + pw_q 8 x / 256) / 65536) / 4294967296)))]) hx hb d_JL_bitCount_54 rfl hl (by decide) rfl (fun ls hl => ?_)
  refine lv_lload_n hx hb d_JL_bitCount_55 rfl (lv_at hl 0 rfl) ?_
  refine lv_l2i hx hb d_JL_bitCount_56 rfl ?_
  refine lv_topi (fun x_17 ex_17 => ?_)
  refine pq_top (y := .int (nI (pw_q 8 x + pw_q 8 x / 256 + (pw_q 8 x + pw_q 8 x / 256) / 65536 + (pw_q 8 x + pw_q 8 x / 256 + (pw_q 8 x + pw_q 8 x / 256) / 65536) / 4294967296))) (by rw [ex_17, lN_i]) ?_
  refine lv_bipush (v := nI 127) hx hb d_JL_bitCount_57 (by decide) ?_
  refine lv_iand hx hb d_JL_bitCount_59 ?_
  refine lv_topi (fun x_18 ex_18 => ?_)
  refine pq_top (y := .int (nI ((pw_q 8 x + pw_q 8 x / 256 + (pw_q 8 x + pw_q 8 x / 256) / 65536 + (pw_q 8 x + pw_q 8 x / 256 + (pw_q 8 x + pw_q 8 x / 256) / 65536) / 4294967296) % 128))) (by rw [ex_18, pq_127]) ?_
  exact W.iret (v := (nI ((pw_q 8 x + pw_q 8 x / 256 + (pw_q 8 x + pw_q 8 x / 256) / 65536 + (pw_q 8 x + pw_q 8 x / 256 + (pw_q 8 x + pw_q 8 x / 256) / 65536) / 4294967296) % 128))) hx hb hr (fun t_ ht_ hW_ => ⟨_, rfl, by (try dsimp only); rw [hpop], ht_⟩) (fun q h => absurd h List.not_mem_nil) d_JL_bitCount_60
set_option maxHeartbeats 4000000 in
set_option maxRecDepth 100000 in
theorem c_W_lowest (l : Launch) (dC : Nat → ClassId) (dI : Nat → Nat → Nat) {k : Nat} (hk : k ≤ 60) : Met l y_W_lowest ws_W_lowest ({ frames := 0, cells := 0, slots := 0, locals := 0 } : Room) (pw_R [.int (nI (k))] dC dI [] []) (vp_Sl (fun r => r = lN (2 ^ k - 1))) 0 0 (fun _ => False) := by
  refine Met.ofW (cc := b_W_lowest) (maxL := 1) (ret := (some .long)) (by decide) rfl ?_
  intro p e s m args below meth c s₁ B hml hv
  obtain ⟨rfl, hP, hK⟩ := hv
  have hx := B.exec
  have hb := B.bytes
  have hr := B.returns
  have hts := atoms_spec (ws := ws_W_lowest) B.pre
  have hown : s.vm.findClass R_W = some m.cls := findClass_of_methodNamed B.named
  have hlocks := B.notSynchronized
  have h1 : 1 ≤ 2 ^ k := Nat.one_le_two_pow
  have hl := lv_entry ([.int (nI (k))]) (n := 1) (Nat.le_of_ble_eq_true rfl)
  rw [lg_entry_eq]
  generalize (lg_sl ([.int (nI (k))]) ++ List.replicate (1 - (lg_sl ([.int (nI (k))])).length) Slot.unset).toArray = ls at hl ⊢
  have hl : lv_has ls 1 [(0, .int (nI (k)))] := hl
  refine lv_lconst (v := lN 1) hx hb d_W_lowest_0 (by decide) ?_
  refine lv_iload_n hx hb d_W_lowest_1 rfl (lv_at hl 0 rfl) ?_
  refine lv_lshl hx hb d_W_lowest_2 rfl ?_
  refine lv_topl (fun y_1 ey_1 => ?_)
  refine pq_top (y := .long (lN (2 ^ k))) (by rw [ey_1, pq_lshl 1 (show k < 64 by omega), Nat.one_mul]) ?_
  refine lv_lconst (v := lN 1) hx hb d_W_lowest_3 (by decide) ?_
  refine lv_lsub hx hb d_W_lowest_4 ?_
  refine lv_topl (fun y_2 ey_2 => ?_)
  refine pq_top (y := .long (lN (2 ^ k - 1))) (by rw [ey_2, lN_sub h1]) ?_
  exact W.lret (v := (lN (2 ^ k - 1))) hx hb hr (fun t_ ht_ hW_ => ⟨_, rfl, rfl, ht_⟩) (fun q h => absurd h List.not_mem_nil) d_W_lowest_5
set_option maxHeartbeats 4000000 in
set_option maxRecDepth 100000 in
theorem c_W_bitAt (l : Launch) (dC : Nat → ClassId) (dI : Nat → Nat → Nat) {a q h pp : Nat} {cA : ClassId} {f : Nat → Bool} {pl : Nat → Int32} (hw : wd_ok h pp f) {t : Nat} (ht : t < 1073741824) : Met l y_W_bitAt ws_W_bitAt ({ frames := 0, cells := 0, slots := 0, locals := 0 } : Room) (pw_R [.ref a, .int (nI (t))] dC dI [(cA, .int)] (wd a q cA h pp f pl)) (vp_Si (fun r => r = nI (f t).toNat)) 0 0 (fun _ => False) := by
  refine Met.ofW (cc := b_W_bitAt) (maxL := 2) (ret := (some .int)) (by decide) rfl ?_
  intro p e s m args below meth c s₁ B hml hv
  obtain ⟨rfl, hP, hK⟩ := hv
  have hx := B.exec
  have hb := B.bytes
  have hr := B.returns
  have hts := atoms_spec (ws := ws_W_bitAt) B.pre
  have hown : s.vm.findClass R_W = some m.cls := findClass_of_methodNamed B.named
  have hlocks := B.notSynchronized
  have hw0 := hw; obtain ⟨hh, hp0, hp6, hE⟩ := hw0
  have ho := pw_o_le f h pp
  have hc := pw_c_le f h
  have hb0 := pq_lt60 (pw_b_lt f 0 h) hh
  have hb1 := pq_lt60 (pw_b_lt f h pp) hp6
  have hz := pq_p60
  have hl := lv_entry ([.ref a, .int (nI (t))]) (n := 2) (Nat.le_of_ble_eq_true rfl)
  rw [lg_entry_eq]
  generalize (lg_sl ([.ref a, .int (nI (t))]) ++ List.replicate (2 - (lg_sl ([.ref a, .int (nI (t))])).length) Slot.unset).toArray = ls at hl ⊢
  have hl : lv_has ls 2 [(0, .ref a), (1, .int (nI (t)))] := hl
  refine lv_iload_n hx hb d_W_bitAt_0 rfl (lv_at hl 1 rfl) ?_
  refine lv_aload_n hx hb d_W_bitAt_1 rfl (lv_at hl 0 rfl) ?_
  refine va_get (D := (dC, dI)) (ci := ciW) (v := .int (nI (h))) (C := R_W) (T := F_W) (N := 7) hx hb hts (fun w h => List.mem_cons_of_mem _ (in_W w h)) hown hK hP 0 rfl rfl 0 (by decide) (hts (.fieldLink R_W 9 "PeriodWords$Word" "headLength" "I") (List.mem_cons_of_mem _ mb_79)) (fun _ h9 => h9) rfl d_W_bitAt_2 ?_
  refine pq_icmp_ge (tgt := 18) (a := t) (b := h) hx hb d_W_bitAt_5 (by decide) (by omega) (by omega) (fun c_5 => ?_) (fun c_5 => ?_)
  · have hb2 : pw_b f h pp < 2 ^ 64 := Nat.lt_trans hb1 hz.2
    have hm := Nat.mod_lt (t - h) hp0
    refine lv_aload_n hx hb d_W_bitAt_18 rfl (lv_at hl 0 rfl) ?_
    refine va_get (D := (dC, dI)) (ci := ciW) (v := .long (lN (pw_b f h pp))) (C := R_W) (T := F_W) (N := 7) hx hb hts (fun w h => List.mem_cons_of_mem _ (in_W w h)) hown hK hP 0 rfl rfl 3 (by decide) (hts (.fieldLink R_W 32 "PeriodWords$Word" "ringBits" "J") (List.mem_cons_of_mem _ mb_85)) (fun _ h9 => h9) rfl d_W_bitAt_19 ?_
    refine lv_iload_n hx hb d_W_bitAt_22 rfl (lv_at hl 1 rfl) ?_
    refine lv_aload_n hx hb d_W_bitAt_23 rfl (lv_at hl 0 rfl) ?_
    refine va_get (D := (dC, dI)) (ci := ciW) (v := .int (nI (h))) (C := R_W) (T := F_W) (N := 7) hx hb hts (fun w h => List.mem_cons_of_mem _ (in_W w h)) hown hK hP 0 rfl rfl 0 (by decide) (hts (.fieldLink R_W 9 "PeriodWords$Word" "headLength" "I") (List.mem_cons_of_mem _ mb_79)) (fun _ h9 => h9) rfl d_W_bitAt_24 ?_
    refine pq_isub (a := t) (b := h) hx hb d_W_bitAt_27 (by omega) ?_
    refine lv_aload_n hx hb d_W_bitAt_28 rfl (lv_at hl 0 rfl) ?_
    refine va_get (D := (dC, dI)) (ci := ciW) (v := .int (nI (pp))) (C := R_W) (T := F_W) (N := 7) hx hb hts (fun w h => List.mem_cons_of_mem _ (in_W w h)) hown hK hP 0 rfl rfl 2 (by decide) (hts (.fieldLink R_W 29 "PeriodWords$Word" "ringLength" "I") (List.mem_cons_of_mem _ mb_83)) (fun _ h9 => h9) rfl d_W_bitAt_29 ?_
    refine pq_irem (a := (t - h)) (b := pp) hx hb d_W_bitAt_32 (by omega) (by omega) (by omega) ?_
    refine lv_lushr hx hb d_W_bitAt_33 rfl ?_
    refine lv_topl (fun y_1 ey_1 => ?_)
    refine pq_top (y := .long (lN (pw_b f h pp / 2 ^ ((t - h) % pp)))) (by rw [ey_1, pq_lushr hb2 (by omega)]) ?_
    refine lv_l2i hx hb d_W_bitAt_34 rfl ?_
    refine lv_topi (fun x_2 ex_2 => ?_)
    refine pq_top (y := .int (nI (pw_b f h pp / 2 ^ ((t - h) % pp)))) (by rw [ex_2, lN_i]) ?_
    refine lv_iconst (v := nI 1) hx hb d_W_bitAt_35 (by decide) ?_
    refine lv_iand hx hb d_W_bitAt_36 ?_
    refine lv_topi (fun x_3 ex_3 => ?_)
    refine pq_top (y := .int (nI ((f t).toNat))) (by rw [ex_3, pq_and1, pq_bitN, pw_b_t f h pp _ hm, pw_at hE c_5]) ?_
    exact W.iret (v := (nI ((f t).toNat))) hx hb hr (fun t_ ht_ hW_ => ⟨_, rfl, rfl, ht_⟩) (fun q h => absurd h List.not_mem_nil) d_W_bitAt_37
  · have hb2 : pw_b f 0 h < 2 ^ 64 := Nat.lt_trans hb0 hz.2
    refine lv_aload_n hx hb d_W_bitAt_8 rfl (lv_at hl 0 rfl) ?_
    refine va_get (D := (dC, dI)) (ci := ciW) (v := .long (lN (pw_b f 0 h))) (C := R_W) (T := F_W) (N := 7) hx hb hts (fun w h => List.mem_cons_of_mem _ (in_W w h)) hown hK hP 0 rfl rfl 1 (by decide) (hts (.fieldLink R_W 19 "PeriodWords$Word" "headBits" "J") (List.mem_cons_of_mem _ mb_81)) (fun _ h9 => h9) rfl d_W_bitAt_9 ?_
    refine lv_iload_n hx hb d_W_bitAt_12 rfl (lv_at hl 1 rfl) ?_
    refine lv_lushr hx hb d_W_bitAt_13 rfl ?_
    refine lv_topl (fun y_4 ey_4 => ?_)
    refine pq_top (y := .long (lN (pw_b f 0 h / 2 ^ t))) (by rw [ey_4, pq_lushr hb2 (by omega)]) ?_
    refine lv_l2i hx hb d_W_bitAt_14 rfl ?_
    refine lv_topi (fun x_5 ex_5 => ?_)
    refine pq_top (y := .int (nI (pw_b f 0 h / 2 ^ t))) (by rw [ex_5, lN_i]) ?_
    refine lv_iconst (v := nI 1) hx hb d_W_bitAt_15 (by decide) ?_
    refine lv_iand hx hb d_W_bitAt_16 ?_
    refine lv_topi (fun x_6 ex_6 => ?_)
    refine pq_top (y := .int (nI ((f t).toNat))) (by rw [ex_6, pq_and1, pq_bitN, pw_b_t f 0 h t c_5, Nat.zero_add]) ?_
    exact W.iret (v := (nI ((f t).toNat))) hx hb hr (fun t_ ht_ hW_ => ⟨_, rfl, rfl, ht_⟩) (fun q h => absurd h List.not_mem_nil) d_W_bitAt_17
set_option maxHeartbeats 4000000 in
set_option maxRecDepth 100000 in
theorem c_W_onesBefore (l : Launch) (dC : Nat → ClassId) (dI : Nat → Nat → Nat) {a q h pp : Nat} {cA : ClassId} {f : Nat → Bool} {pl : Nat → Int32} (hw : wd_ok h pp f) {t : Nat} (ht : t < 1073741824) : Met l y_W_onesBefore ws_W_onesBefore ({ frames := 1, cells := 0, slots := 0, locals := 21 } : Room) (pw_R [.ref a, .int (nI (t))] dC dI [(cA, .int)] (wd a q cA h pp f pl)) (vp_Si (fun r => r = nI (pw_c f t))) 0 0 (fun _ => False) := by
  refine Met.ofW (cc := b_W_onesBefore) (maxL := 4) (ret := (some .int)) (by decide) rfl ?_
  intro p e s m args below meth c s₁ B hml hv
  obtain ⟨rfl, hP, hK⟩ := hv
  have hx := B.exec
  have hb := B.bytes
  have hr := B.returns
  have hts := atoms_spec (ws := ws_W_onesBefore) B.pre
  have hown : s.vm.findClass R_W = some m.cls := findClass_of_methodNamed B.named
  have hlocks := B.notSynchronized
  have hw0 := hw; obtain ⟨hh, hp0, hp6, hE⟩ := hw0
  have ho := pw_o_le f h pp
  have hc := pw_c_le f h
  have hb0 := pq_lt60 (pw_b_lt f 0 h) hh
  have hb1 := pq_lt60 (pw_b_lt f h pp) hp6
  have hz := pq_p60
  have hl := lv_entry ([.ref a, .int (nI (t))]) (n := 4) (Nat.le_of_ble_eq_true rfl)
  rw [lg_entry_eq]
  generalize (lg_sl ([.ref a, .int (nI (t))]) ++ List.replicate (4 - (lg_sl ([.ref a, .int (nI (t))])).length) Slot.unset).toArray = ls at hl ⊢
  have hl : lv_has ls 4 [(0, .ref a), (1, .int (nI (t)))] := hl
  refine lv_iload_n hx hb d_W_onesBefore_0 rfl (lv_at hl 1 rfl) ?_
  refine lv_aload_n hx hb d_W_onesBefore_1 rfl (lv_at hl 0 rfl) ?_
  refine va_get (D := (dC, dI)) (ci := ciW) (v := .int (nI (h))) (C := R_W) (T := F_W) (N := 7) hx hb hts (fun w h => List.mem_cons_of_mem _ (in_W w h)) hown hK hP 0 rfl rfl 0 (by decide) (hts (.fieldLink R_W 9 "PeriodWords$Word" "headLength" "I") (List.mem_cons_of_mem _ mb_79)) (fun _ h9 => h9) rfl d_W_onesBefore_2 ?_
  refine pq_icmp_gt (tgt := 21) (a := t) (b := h) hx hb d_W_onesBefore_5 (by decide) (by omega) (by omega) (fun c_5 => ?_) (fun c_5 => ?_)
  · have hb2 : pw_b f h pp < 2 ^ 64 := Nat.lt_trans hb1 hz.2
    have hm := Nat.mod_lt (t - h) hp0
    have hb3 : pw_b f h pp % 2 ^ ((t - h) % pp) < 2 ^ 64 := Nat.lt_of_le_of_lt (Nat.mod_le _ _) hb2
    refine lv_iload_n hx hb d_W_onesBefore_21 rfl (lv_at hl 1 rfl) ?_
    refine lv_aload_n hx hb d_W_onesBefore_22 rfl (lv_at hl 0 rfl) ?_
    refine va_get (D := (dC, dI)) (ci := ciW) (v := .int (nI (h))) (C := R_W) (T := F_W) (N := 7) hx hb hts (fun w h => List.mem_cons_of_mem _ (in_W w h)) hown hK hP 0 rfl rfl 0 (by decide) (hts (.fieldLink R_W 9 "PeriodWords$Word" "headLength" "I") (List.mem_cons_of_mem _ mb_79)) (fun _ h9 => h9) rfl d_W_onesBefore_23 ?_
    refine pq_isub (a := t) (b := h) hx hb d_W_onesBefore_26 (by omega) ?_
    refine lv_istore_n (lv' := [(2, .int (nI (t - h))), (0, .ref a), (1, .int (nI (t)))]) hx hb d_W_onesBefore_27 rfl hl (by decide) rfl (fun ls hl => ?_)
    refine lv_aload_n hx hb d_W_onesBefore_28 rfl (lv_at hl 1 rfl) ?_
    refine va_get (D := (dC, dI)) (ci := ciW) (v := .long (lN (pw_b f h pp))) (C := R_W) (T := F_W) (N := 7) hx hb hts (fun w h => List.mem_cons_of_mem _ (in_W w h)) hown hK hP 0 rfl rfl 3 (by decide) (hts (.fieldLink R_W 32 "PeriodWords$Word" "ringBits" "J") (List.mem_cons_of_mem _ mb_85)) (fun _ h9 => h9) rfl d_W_onesBefore_29 ?_
    refine lv_iload_n hx hb d_W_onesBefore_32 rfl (lv_at hl 0 rfl) ?_
    refine lv_aload_n hx hb d_W_onesBefore_33 rfl (lv_at hl 1 rfl) ?_
    refine va_get (D := (dC, dI)) (ci := ciW) (v := .int (nI (pp))) (C := R_W) (T := F_W) (N := 7) hx hb hts (fun w h => List.mem_cons_of_mem _ (in_W w h)) hown hK hP 0 rfl rfl 2 (by decide) (hts (.fieldLink R_W 29 "PeriodWords$Word" "ringLength" "I") (List.mem_cons_of_mem _ mb_83)) (fun _ h9 => h9) rfl d_W_onesBefore_34 ?_
    refine pq_irem (a := (t - h)) (b := pp) hx hb d_W_onesBefore_37 (by omega) (by omega) (by omega) ?_
    refine vp_callSl (W.runS (As := [.int (nI ((t - h) % pp))]) (rest := [.long (lN (pw_b f h pp))]) ⟨hx, hb, hml, hown, hts⟩ (c_W_lowest l dC dI (k := (t - h) % pp) (by omega)) (va_cwS 1 hts (gd_S mb_61 mb_62 mb_24 mb_63) rfl rfl rfl (by decide +kernel) ⟨Nat.le_of_ble_eq_true rfl, Nat.le_of_ble_eq_true rfl⟩) (pw_R_S pw_P0 (hK.sub [] rfl)) rfl rfl hl.1 rfl (lv_room (Nat.le_of_ble_eq_true rfl)) d_W_onesBefore_38 ⟨Nat.le_of_ble_eq_true rfl, Nat.le_of_ble_eq_true rfl⟩) (fun r_1 hr_1 => ?_)
    subst hr_1
    refine lv_land hx hb d_W_onesBefore_41 ?_
    refine lv_topl (fun y_2 ey_2 => ?_)
    refine pq_top (y := .long (lN (pw_b f h pp % 2 ^ ((t - h) % pp)))) (by rw [ey_2, pq_mask hb2 (by omega)]) ?_
    refine vp_callSi (W.runS (As := [.long (lN (pw_b f h pp % 2 ^ ((t - h) % pp)))]) (rest := []) ⟨hx, hb, hml, hown, hts⟩ (c_bitCount l dC dI (x := pw_b f h pp % 2 ^ ((t - h) % pp)) hb3) (va_cwS 1 hts (gd_S mb_67 mb_68 mb_26 mb_69) rfl rfl rfl (by decide +kernel) ⟨Nat.le_of_ble_eq_true rfl, Nat.le_of_ble_eq_true rfl⟩) (pw_R_S pw_P0 (hK.sub [] rfl)) rfl rfl hl.1 rfl (lv_room (Nat.le_of_ble_eq_true rfl)) d_W_onesBefore_42 ⟨Nat.le_of_ble_eq_true rfl, Nat.le_of_ble_eq_true rfl⟩) (fun r_3 hr_3 => ?_)
    subst hr_3
    refine lv_istore_n (lv' := [(3, .int (nI (pw_p (pw_b f h pp % 2 ^ ((t - h) % pp)) 64))), (2, .int (nI (t - h))), (0, .ref a), (1, .int (nI (t)))]) hx hb d_W_onesBefore_45 rfl hl (by decide) rfl (fun ls hl => ?_)
    refine lv_aload_n hx hb d_W_onesBefore_46 rfl (lv_at hl 2 rfl) ?_
    refine va_get (D := (dC, dI)) (ci := ciW) (v := .int (nI (pw_c f h))) (C := R_W) (T := F_W) (N := 7) hx hb hts (fun w h => List.mem_cons_of_mem _ (in_W w h)) hown hK hP 0 rfl rfl 4 (by decide) (hts (.fieldLink R_W 41 "PeriodWords$Word" "headOnes" "I") (List.mem_cons_of_mem _ mb_87)) (fun _ h9 => h9) rfl d_W_onesBefore_47 ?_
    refine lv_iload_n hx hb d_W_onesBefore_50 rfl (lv_at hl 1 rfl) ?_
    refine lv_aload_n hx hb d_W_onesBefore_51 rfl (lv_at hl 2 rfl) ?_
    refine va_get (D := (dC, dI)) (ci := ciW) (v := .int (nI (pp))) (C := R_W) (T := F_W) (N := 7) hx hb hts (fun w h => List.mem_cons_of_mem _ (in_W w h)) hown hK hP 0 rfl rfl 2 (by decide) (hts (.fieldLink R_W 29 "PeriodWords$Word" "ringLength" "I") (List.mem_cons_of_mem _ mb_83)) (fun _ h9 => h9) rfl d_W_onesBefore_52 ?_
    refine pq_idiv (a := (t - h)) (b := pp) hx hb d_W_onesBefore_55 (by omega) (by omega) (by omega) ?_
    refine lv_aload_n hx hb d_W_onesBefore_56 rfl (lv_at hl 2 rfl) ?_
    refine va_get (D := (dC, dI)) (ci := ciW) (v := .int (nI (pw_o f h pp))) (C := R_W) (T := F_W) (N := 7) hx hb hts (fun w h => List.mem_cons_of_mem _ (in_W w h)) hown hK hP 0 rfl rfl 5 (by decide) (hts (.fieldLink R_W 44 "PeriodWords$Word" "ringOnes" "I") (List.mem_cons_of_mem _ mb_89)) (fun _ h9 => h9) rfl d_W_onesBefore_57 ?_
    refine pq_imul (a := ((t - h) / pp)) (b := (pw_o f h pp)) hx hb d_W_onesBefore_60 ?_
    refine pq_iadd (a := (pw_c f h)) (b := (((t - h) / pp) * (pw_o f h pp))) hx hb d_W_onesBefore_61 ?_
    refine lv_iload_n hx hb d_W_onesBefore_62 rfl (lv_at hl 0 rfl) ?_
    refine pq_iadd (a := ((pw_c f h) + (((t - h) / pp) * (pw_o f h pp)))) (b := (pw_p (pw_b f h pp % 2 ^ ((t - h) % pp)) 64)) hx hb d_W_onesBefore_63 ?_
    exact W.iret (v := (nI (((pw_c f h) + (((t - h) / pp) * (pw_o f h pp))) + (pw_p (pw_b f h pp % 2 ^ ((t - h) % pp)) 64)))) hx hb hr (fun t_ ht_ hW_ => ⟨_, rfl, by (try dsimp only); rw [pq_p_mod _ _ _ (by omega), pw_p_b f h pp _ (by omega), pw_c_far hE (show h ≤ t by omega), Nat.add_assoc], ht_⟩) (fun q h => absurd h List.not_mem_nil) d_W_onesBefore_64
  · have hb2 : pw_b f 0 h < 2 ^ 64 := Nat.lt_trans hb0 hz.2
    have hb3 : pw_b f 0 h % 2 ^ t < 2 ^ 64 := Nat.lt_of_le_of_lt (Nat.mod_le _ _) hb2
    refine lv_aload_n hx hb d_W_onesBefore_8 rfl (lv_at hl 0 rfl) ?_
    refine va_get (D := (dC, dI)) (ci := ciW) (v := .long (lN (pw_b f 0 h))) (C := R_W) (T := F_W) (N := 7) hx hb hts (fun w h => List.mem_cons_of_mem _ (in_W w h)) hown hK hP 0 rfl rfl 1 (by decide) (hts (.fieldLink R_W 19 "PeriodWords$Word" "headBits" "J") (List.mem_cons_of_mem _ mb_81)) (fun _ h9 => h9) rfl d_W_onesBefore_9 ?_
    refine lv_iload_n hx hb d_W_onesBefore_12 rfl (lv_at hl 1 rfl) ?_
    refine vp_callSl (W.runS (As := [.int (nI (t))]) (rest := [.long (lN (pw_b f 0 h))]) ⟨hx, hb, hml, hown, hts⟩ (c_W_lowest l dC dI (k := t) (by omega)) (va_cwS 1 hts (gd_S mb_61 mb_62 mb_24 mb_63) rfl rfl rfl (by decide +kernel) ⟨Nat.le_of_ble_eq_true rfl, Nat.le_of_ble_eq_true rfl⟩) (pw_R_S pw_P0 (hK.sub [] rfl)) rfl rfl hl.1 rfl (lv_room (Nat.le_of_ble_eq_true rfl)) d_W_onesBefore_13 ⟨Nat.le_of_ble_eq_true rfl, Nat.le_of_ble_eq_true rfl⟩) (fun r_4 hr_4 => ?_)
    subst hr_4
    refine lv_land hx hb d_W_onesBefore_16 ?_
    refine lv_topl (fun y_5 ey_5 => ?_)
    refine pq_top (y := .long (lN (pw_b f 0 h % 2 ^ t))) (by rw [ey_5, pq_mask hb2 (by omega)]) ?_
    refine vp_callSi (W.runS (As := [.long (lN (pw_b f 0 h % 2 ^ t))]) (rest := []) ⟨hx, hb, hml, hown, hts⟩ (c_bitCount l dC dI (x := pw_b f 0 h % 2 ^ t) hb3) (va_cwS 1 hts (gd_S mb_67 mb_68 mb_26 mb_69) rfl rfl rfl (by decide +kernel) ⟨Nat.le_of_ble_eq_true rfl, Nat.le_of_ble_eq_true rfl⟩) (pw_R_S pw_P0 (hK.sub [] rfl)) rfl rfl hl.1 rfl (lv_room (Nat.le_of_ble_eq_true rfl)) d_W_onesBefore_17 ⟨Nat.le_of_ble_eq_true rfl, Nat.le_of_ble_eq_true rfl⟩) (fun r_6 hr_6 => ?_)
    subst hr_6
    exact W.iret (v := (nI (pw_p (pw_b f 0 h % 2 ^ t) 64))) hx hb hr (fun t_ ht_ hW_ => ⟨_, rfl, by (try dsimp only); rw [pq_p_mod _ _ _ (by omega), pw_p_b f 0 h t (by omega)]; congr 1; exact pw_c_congr (fun i _ => by rw [Nat.zero_add]), ht_⟩) (fun q h => absurd h List.not_mem_nil) d_W_onesBefore_20
set_option maxHeartbeats 4000000 in
set_option maxRecDepth 100000 in
theorem c_W_hasOne (l : Launch) (dC : Nat → ClassId) (dI : Nat → Nat → Nat) {a q h pp : Nat} {cA : ClassId} {f : Nat → Bool} {pl : Nat → Int32} (hw : wd_ok h pp f) {n : Nat} (hn : n < 1073741824) : Met l y_W_hasOne ws_W_hasOne ({ frames := 0, cells := 0, slots := 0, locals := 0 } : Room) (pw_R [.ref a, .int (nI (n))] dC dI [(cA, .int)] (wd a q cA h pp f pl)) (vp_Si (fun r => r = nI (decide (0 < pw_o f h pp ∨ n ≤ pw_c f h)).toNat)) 0 0 (fun _ => False) := by
  refine Met.ofW (cc := b_W_hasOne) (maxL := 2) (ret := (some .boolean)) (by decide) rfl ?_
  intro p e s m args below meth c s₁ B hml hv
  obtain ⟨rfl, hP, hK⟩ := hv
  have hx := B.exec
  have hb := B.bytes
  have hr := B.returns
  have hts := atoms_spec (ws := ws_W_hasOne) B.pre
  have hown : s.vm.findClass R_W = some m.cls := findClass_of_methodNamed B.named
  have hlocks := B.notSynchronized
  have hw0 := hw; obtain ⟨hh, hp0, hp6, hE⟩ := hw0
  have ho := pw_o_le f h pp
  have hc := pw_c_le f h
  have hb0 := pq_lt60 (pw_b_lt f 0 h) hh
  have hb1 := pq_lt60 (pw_b_lt f h pp) hp6
  have hz := pq_p60
  have hl := lv_entry ([.ref a, .int (nI (n))]) (n := 2) (Nat.le_of_ble_eq_true rfl)
  rw [lg_entry_eq]
  generalize (lg_sl ([.ref a, .int (nI (n))]) ++ List.replicate (2 - (lg_sl ([.ref a, .int (nI (n))])).length) Slot.unset).toArray = ls at hl ⊢
  have hl : lv_has ls 2 [(0, .ref a), (1, .int (nI (n)))] := hl
  refine lv_aload_n hx hb d_W_hasOne_0 rfl (lv_at hl 0 rfl) ?_
  refine va_get (D := (dC, dI)) (ci := ciW) (v := .int (nI (pw_o f h pp))) (C := R_W) (T := F_W) (N := 7) hx hb hts (fun w h => List.mem_cons_of_mem _ (in_W w h)) hown hK hP 0 rfl rfl 5 (by decide) (hts (.fieldLink R_W 44 "PeriodWords$Word" "ringOnes" "I") (List.mem_cons_of_mem _ mb_89)) (fun _ h9 => h9) rfl d_W_hasOne_1 ?_
  refine pq_if_gt (tgt := 15) (a := (pw_o f h pp)) hx hb d_W_hasOne_4 (by decide) (by omega) (fun c_4 => ?_) (fun c_4 => ?_)
  · refine lv_iconst (v := nI 1) hx hb d_W_hasOne_15 (by decide) ?_
    refine lv_goto (tgt := 20) hx hb d_W_hasOne_16 (by decide) ?_
    have B_20 : ∀ (x : Nat) (ls : Array Slot), (x = (decide (0 < pw_o f h pp ∨ n ≤ pw_c f h)).toNat) → lv_has ls 2 [] → W p l e (headSpec ws_W_hasOne ({ frames := 0, cells := 0, slots := 0, locals := 0 } : Room)).room s m ([.ref a, .int (nI (n))]).toArray below meth c s.heap [] 0 0 (MQ below (vp_Si (fun r => r = nI (decide (0 < pw_o f h pp ∨ n ≤ pw_c f h)).toNat)) ([.ref a, .int (nI (n))]).toArray s 0 0 (fun _ => False)) (F0 m 20 ls [.int (nI (x))]) := by
      intro x ls hx2 hl
      exact W.zret (v := (nI (x))) hx hb hr (by rw [hx2]; exact pw_nz _) (fun t_ ht_ hW_ => ⟨_, rfl, by (try dsimp only); rw [hx2], ht_⟩) (fun q h => absurd h List.not_mem_nil) d_W_hasOne_20
    exact B_20 (1) ls (by rw [decide_eq_true (by omega)]; rfl) (lv_sub hl [] rfl)
  · refine lv_iload_n hx hb d_W_hasOne_7 rfl (lv_at hl 1 rfl) ?_
    refine lv_aload_n hx hb d_W_hasOne_8 rfl (lv_at hl 0 rfl) ?_
    refine va_get (D := (dC, dI)) (ci := ciW) (v := .int (nI (pw_c f h))) (C := R_W) (T := F_W) (N := 7) hx hb hts (fun w h => List.mem_cons_of_mem _ (in_W w h)) hown hK hP 0 rfl rfl 4 (by decide) (hts (.fieldLink R_W 41 "PeriodWords$Word" "headOnes" "I") (List.mem_cons_of_mem _ mb_87)) (fun _ h9 => h9) rfl d_W_hasOne_9 ?_
    refine pq_icmp_gt (tgt := 19) (a := n) (b := (pw_c f h)) hx hb d_W_hasOne_12 (by decide) (by omega) (by omega) (fun c_12 => ?_) (fun c_12 => ?_)
    · refine lv_iconst (v := nI 0) hx hb d_W_hasOne_19 (by decide) ?_
      have B_20 : ∀ (x : Nat) (ls : Array Slot), (x = (decide (0 < pw_o f h pp ∨ n ≤ pw_c f h)).toNat) → lv_has ls 2 [] → W p l e (headSpec ws_W_hasOne ({ frames := 0, cells := 0, slots := 0, locals := 0 } : Room)).room s m ([.ref a, .int (nI (n))]).toArray below meth c s.heap [] 0 0 (MQ below (vp_Si (fun r => r = nI (decide (0 < pw_o f h pp ∨ n ≤ pw_c f h)).toNat)) ([.ref a, .int (nI (n))]).toArray s 0 0 (fun _ => False)) (F0 m 20 ls [.int (nI (x))]) := by
        intro x ls hx2 hl
        exact W.zret (v := (nI (x))) hx hb hr (by rw [hx2]; exact pw_nz _) (fun t_ ht_ hW_ => ⟨_, rfl, by (try dsimp only); rw [hx2], ht_⟩) (fun q h => absurd h List.not_mem_nil) d_W_hasOne_20
      exact B_20 (0) ls (by rw [decide_eq_false (by omega)]; rfl) (lv_sub hl [] rfl)
    · refine lv_iconst (v := nI 1) hx hb d_W_hasOne_15 (by decide) ?_
      refine lv_goto (tgt := 20) hx hb d_W_hasOne_16 (by decide) ?_
      have B_20 : ∀ (x : Nat) (ls : Array Slot), (x = (decide (0 < pw_o f h pp ∨ n ≤ pw_c f h)).toNat) → lv_has ls 2 [] → W p l e (headSpec ws_W_hasOne ({ frames := 0, cells := 0, slots := 0, locals := 0 } : Room)).room s m ([.ref a, .int (nI (n))]).toArray below meth c s.heap [] 0 0 (MQ below (vp_Si (fun r => r = nI (decide (0 < pw_o f h pp ∨ n ≤ pw_c f h)).toNat)) ([.ref a, .int (nI (n))]).toArray s 0 0 (fun _ => False)) (F0 m 20 ls [.int (nI (x))]) := by
        intro x ls hx2 hl
        exact W.zret (v := (nI (x))) hx hb hr (by rw [hx2]; exact pw_nz _) (fun t_ ht_ hW_ => ⟨_, rfl, by (try dsimp only); rw [hx2], ht_⟩) (fun q h => absurd h List.not_mem_nil) d_W_hasOne_20
      exact B_20 (1) ls (by rw [decide_eq_true (by omega)]; rfl) (lv_sub hl [] rfl)
set_option maxHeartbeats 4000000 in
set_option maxRecDepth 100000 in
theorem c_W_tickOf (l : Launch) (dC : Nat → ClassId) (dI : Nat → Nat → Nat) {a q h pp : Nat} {cA : ClassId} {f : Nat → Bool} {pl : Nat → Int32} (hw : wd_ok h pp f) (hpl : wd_pl h pp f pl) {n : Nat} (hn0 : 0 < n) (hn : n < 16777216) (hex : 0 < pw_o f h pp ∨ n ≤ pw_c f h) : Met l y_W_tickOf ws_W_tickOf ({ frames := 1, cells := 0, slots := 0, locals := 21 } : Room) (pw_R [.ref a, .int (nI (n))] dC dI [(cA, .int)] (wd a q cA h pp f pl)) (vp_Si (fun r => r = nI (pw_tk f n))) 0 0 (fun _ => False) := by
  refine Met.ofW (cc := b_W_tickOf) (maxL := 3) (ret := (some .int)) (by decide) rfl ?_
  intro p e s m args below meth c s₁ B hml hv
  obtain ⟨rfl, hP, hK⟩ := hv
  have hx := B.exec
  have hb := B.bytes
  have hr := B.returns
  have hts := atoms_spec (ws := ws_W_tickOf) B.pre
  have hown : s.vm.findClass R_W = some m.cls := findClass_of_methodNamed B.named
  have hlocks := B.notSynchronized
  have hw0 := hw; obtain ⟨hh, hp0, hp6, hE⟩ := hw0
  have ho := pw_o_le f h pp
  have hc := pw_c_le f h
  have hb0 := pq_lt60 (pw_b_lt f 0 h) hh
  have hb1 := pq_lt60 (pw_b_lt f h pp) hp6
  have hz := pq_p60
  have hl := lv_entry ([.ref a, .int (nI (n))]) (n := 3) (Nat.le_of_ble_eq_true rfl)
  rw [lg_entry_eq]
  generalize (lg_sl ([.ref a, .int (nI (n))]) ++ List.replicate (3 - (lg_sl ([.ref a, .int (nI (n))])).length) Slot.unset).toArray = ls at hl ⊢
  have hl : lv_has ls 3 [(0, .ref a), (1, .int (nI (n)))] := hl
  refine lv_iload_n hx hb d_W_tickOf_0 rfl (lv_at hl 1 rfl) ?_
  refine lv_iconst (v := nI 1) hx hb d_W_tickOf_1 (by decide) ?_
  refine pq_icmp_lt (tgt := 13) (a := n) (b := 1) hx hb d_W_tickOf_2 (by decide) (by omega) (by omega) (fun c_2 => absurd c_2 (by omega)) (fun c_2 => ?_)
  refine lv_aload_n hx hb d_W_tickOf_5 rfl (lv_at hl 0 rfl) ?_
  refine lv_iload_n hx hb d_W_tickOf_6 rfl (lv_at hl 1 rfl) ?_
  refine vp_callSi (W.runV (As := [.int (nI (n))]) (rest := []) ⟨hx, hb, hml, hown, hts⟩ (c_W_hasOne l dC dI hw (n := n) (by omega)) (cwV 1 hts (gd_V mb_145 mb_146 mb_147 mb_24 mb_148) rfl rfl rfl (by decide +kernel) ⟨Nat.le_of_ble_eq_true rfl, Nat.le_of_ble_eq_true rfl⟩) (pw_R_V (va_recv hK hP (ci := ciW) (q0 := 0) rfl rfl) hP hK) rfl rfl hl.1 rfl (lv_room (Nat.le_of_ble_eq_true rfl)) d_W_tickOf_7 ⟨Nat.le_of_ble_eq_true rfl, Nat.le_of_ble_eq_true rfl⟩) (fun r_1 hr_1 => ?_)
  subst hr_1
  refine pq_top (y := .int (nI 1)) (by rw [decide_eq_true hex]; rfl) ?_
  refine pq_if_ne (tgt := 15) (a := 1) hx hb d_W_tickOf_10 (by decide) (by omega) (fun c_10 => ?_) (fun c_10 => absurd c_10 (by omega))
  refine lv_iload_n hx hb d_W_tickOf_15 rfl (lv_at hl 1 rfl) ?_
  refine lv_aload_n hx hb d_W_tickOf_16 rfl (lv_at hl 0 rfl) ?_
  refine va_get (D := (dC, dI)) (ci := ciW) (v := .int (nI (pw_c f h))) (C := R_W) (T := F_W) (N := 7) hx hb hts (fun w h => List.mem_cons_of_mem _ (in_W w h)) hown hK hP 0 rfl rfl 4 (by decide) (hts (.fieldLink R_W 41 "PeriodWords$Word" "headOnes" "I") (List.mem_cons_of_mem _ mb_87)) (fun _ h9 => h9) rfl d_W_tickOf_17 ?_
  refine pq_icmp_gt (tgt := 32) (a := n) (b := (pw_c f h)) hx hb d_W_tickOf_20 (by decide) (by omega) (by omega) (fun c_20 => ?_) (fun c_20 => ?_)
  · refine lv_iload_n hx hb d_W_tickOf_32 rfl (lv_at hl 1 rfl) ?_
    refine lv_aload_n hx hb d_W_tickOf_33 rfl (lv_at hl 0 rfl) ?_
    refine va_get (D := (dC, dI)) (ci := ciW) (v := .int (nI (pw_c f h))) (C := R_W) (T := F_W) (N := 7) hx hb hts (fun w h => List.mem_cons_of_mem _ (in_W w h)) hown hK hP 0 rfl rfl 4 (by decide) (hts (.fieldLink R_W 41 "PeriodWords$Word" "headOnes" "I") (List.mem_cons_of_mem _ mb_87)) (fun _ h9 => h9) rfl d_W_tickOf_34 ?_
    refine pq_isub (a := n) (b := (pw_c f h)) hx hb d_W_tickOf_37 (by omega) ?_
    refine lv_iconst (v := nI 1) hx hb d_W_tickOf_38 (by decide) ?_
    refine pq_isub (a := (n - (pw_c f h))) (b := 1) hx hb d_W_tickOf_39 (by omega) ?_
    refine lv_istore_n (lv' := [(2, .int (nI ((n - (pw_c f h)) - 1))), (0, .ref a), (1, .int (nI (n)))]) hx hb d_W_tickOf_40 rfl hl (by decide) rfl (fun ls hl => ?_)
    have ho0 : 0 < pw_o f h pp := by omega
    have hm := Nat.mod_lt (n - pw_c f h - 1) ho0
    obtain ⟨t0, ht0, ept, ft, ct⟩ := hpl.2 _ hm
    have Nt := pw_N_ring hE hp0 ((n - pw_c f h - 1) / pw_o f h pp) ft ct
    have e8 := Nat.mod_add_div (n - pw_c f h - 1) (pw_o f h pp)
    rw [Nat.mul_comm] at e8
    rw [show pw_c f h + ((n - pw_c f h - 1) / pw_o f h pp * pw_o f h pp + (n - pw_c f h - 1) % pw_o f h pp) + 1 = n by omega] at Nt
    have etk := pw_tk_of Nt
    refine lv_aload_n hx hb d_W_tickOf_41 rfl (lv_at hl 1 rfl) ?_
    refine va_get (D := (dC, dI)) (ci := ciW) (v := .int (nI (h))) (C := R_W) (T := F_W) (N := 7) hx hb hts (fun w h => List.mem_cons_of_mem _ (in_W w h)) hown hK hP 0 rfl rfl 0 (by decide) (hts (.fieldLink R_W 9 "PeriodWords$Word" "headLength" "I") (List.mem_cons_of_mem _ mb_79)) (fun _ h9 => h9) rfl d_W_tickOf_42 ?_
    refine lv_iload_n hx hb d_W_tickOf_45 rfl (lv_at hl 0 rfl) ?_
    refine lv_aload_n hx hb d_W_tickOf_46 rfl (lv_at hl 1 rfl) ?_
    refine va_get (D := (dC, dI)) (ci := ciW) (v := .int (nI (pw_o f h pp))) (C := R_W) (T := F_W) (N := 7) hx hb hts (fun w h => List.mem_cons_of_mem _ (in_W w h)) hown hK hP 0 rfl rfl 5 (by decide) (hts (.fieldLink R_W 44 "PeriodWords$Word" "ringOnes" "I") (List.mem_cons_of_mem _ mb_89)) (fun _ h9 => h9) rfl d_W_tickOf_47 ?_
    refine pq_idiv (a := ((n - (pw_c f h)) - 1)) (b := (pw_o f h pp)) hx hb d_W_tickOf_50 (by omega) (by omega) (by omega) ?_
    refine lv_aload_n hx hb d_W_tickOf_51 rfl (lv_at hl 1 rfl) ?_
    refine va_get (D := (dC, dI)) (ci := ciW) (v := .int (nI (pp))) (C := R_W) (T := F_W) (N := 7) hx hb hts (fun w h => List.mem_cons_of_mem _ (in_W w h)) hown hK hP 0 rfl rfl 2 (by decide) (hts (.fieldLink R_W 29 "PeriodWords$Word" "ringLength" "I") (List.mem_cons_of_mem _ mb_83)) (fun _ h9 => h9) rfl d_W_tickOf_52 ?_
    refine pq_imul (a := (((n - (pw_c f h)) - 1) / (pw_o f h pp))) (b := pp) hx hb d_W_tickOf_55 ?_
    refine pq_iadd (a := h) (b := ((((n - (pw_c f h)) - 1) / (pw_o f h pp)) * pp)) hx hb d_W_tickOf_56 ?_
    refine lv_aload_n hx hb d_W_tickOf_57 rfl (lv_at hl 1 rfl) ?_
    refine va_get (D := (dC, dI)) (ci := ciW) (v := .ref q) (C := R_W) (T := F_W) (N := 7) hx hb hts (fun w h => List.mem_cons_of_mem _ (in_W w h)) hown hK hP 0 rfl rfl 6 (by decide) (hts (.fieldLink R_W 51 "PeriodWords$Word" "places" "[I") (List.mem_cons_of_mem _ mb_91)) (fun _ h9 => h9) rfl d_W_tickOf_58 ?_
    refine lv_aload_n hx hb d_W_tickOf_61 rfl (lv_at hl 1 rfl) ?_
    refine va_get (D := (dC, dI)) (ci := ciW) (v := .int (nI (pw_c f h))) (C := R_W) (T := F_W) (N := 7) hx hb hts (fun w h => List.mem_cons_of_mem _ (in_W w h)) hown hK hP 0 rfl rfl 4 (by decide) (hts (.fieldLink R_W 41 "PeriodWords$Word" "headOnes" "I") (List.mem_cons_of_mem _ mb_87)) (fun _ h9 => h9) rfl d_W_tickOf_62 ?_
    refine lv_iload_n hx hb d_W_tickOf_65 rfl (lv_at hl 0 rfl) ?_
    refine lv_aload_n hx hb d_W_tickOf_66 rfl (lv_at hl 1 rfl) ?_
    refine va_get (D := (dC, dI)) (ci := ciW) (v := .int (nI (pw_o f h pp))) (C := R_W) (T := F_W) (N := 7) hx hb hts (fun w h => List.mem_cons_of_mem _ (in_W w h)) hown hK hP 0 rfl rfl 5 (by decide) (hts (.fieldLink R_W 44 "PeriodWords$Word" "ringOnes" "I") (List.mem_cons_of_mem _ mb_89)) (fun _ h9 => h9) rfl d_W_tickOf_67 ?_
    refine pq_irem (a := ((n - (pw_c f h)) - 1)) (b := (pw_o f h pp)) hx hb d_W_tickOf_70 (by omega) (by omega) (by omega) ?_
    refine pq_iadd (a := (pw_c f h)) (b := (((n - (pw_c f h)) - 1) % (pw_o f h pp))) hx hb d_W_tickOf_71 ?_
    refine va_iald hx hb hK hP 1 0 rfl rfl (vp_in_nI (n := ((pw_c f h) + (((n - (pw_c f h)) - 1) % (pw_o f h pp)))) (by omega) (by omega)) d_W_tickOf_72 ?_
    refine pq_top (y := .int (pl ((pw_c f h) + (((n - (pw_c f h)) - 1) % (pw_o f h pp))))) (by rw [pq_cl (by omega)]) ?_
    refine pq_top (y := .int (nI (t0))) (by rw [ept]) ?_
    refine pq_iadd (a := (h + ((((n - (pw_c f h)) - 1) / (pw_o f h pp)) * pp))) (b := t0) hx hb d_W_tickOf_73 ?_
    exact W.iret (v := (nI ((h + ((((n - (pw_c f h)) - 1) / (pw_o f h pp)) * pp)) + t0))) hx hb hr (fun t_ ht_ hW_ => ⟨_, rfl, by (try dsimp only); rw [etk, Nat.add_assoc], ht_⟩) (fun q h => absurd h List.not_mem_nil) d_W_tickOf_74
  · obtain ⟨t0, ht0, ept, Nt⟩ := hpl.1 (n - 1) (by omega)
    rw [show n - 1 + 1 = n by omega] at Nt
    have etk := pw_tk_of Nt
    refine lv_aload_n hx hb d_W_tickOf_23 rfl (lv_at hl 0 rfl) ?_
    refine va_get (D := (dC, dI)) (ci := ciW) (v := .ref q) (C := R_W) (T := F_W) (N := 7) hx hb hts (fun w h => List.mem_cons_of_mem _ (in_W w h)) hown hK hP 0 rfl rfl 6 (by decide) (hts (.fieldLink R_W 51 "PeriodWords$Word" "places" "[I") (List.mem_cons_of_mem _ mb_91)) (fun _ h9 => h9) rfl d_W_tickOf_24 ?_
    refine lv_iload_n hx hb d_W_tickOf_27 rfl (lv_at hl 1 rfl) ?_
    refine lv_iconst (v := nI 1) hx hb d_W_tickOf_28 (by decide) ?_
    refine pq_isub (a := n) (b := 1) hx hb d_W_tickOf_29 (by omega) ?_
    refine va_iald hx hb hK hP 1 0 rfl rfl (vp_in_nI (n := (n - 1)) (by omega) (by omega)) d_W_tickOf_30 ?_
    refine pq_top (y := .int (pl (n - 1))) (by rw [pq_cl (by omega)]) ?_
    refine pq_top (y := .int (nI (pw_tk f n))) (by rw [ept, etk]) ?_
    exact W.iret (v := (nI (pw_tk f n))) hx hb hr (fun t_ ht_ hW_ => ⟨_, rfl, rfl, ht_⟩) (fun q h => absurd h List.not_mem_nil) d_W_tickOf_31
