set_option maxHeartbeats 4000000 in
set_option maxRecDepth 100000 in
theorem c_M_thrown (l : Launch) (dC : Nat → ClassId) (dI : Nat → Nat → Nat) {o a1 a2 a3 a4 a5 : Nat} {c1 c2 c3 c4 c5 : ClassId} {th mo le : Int32} {n : Nat} {xh yr : Nat → Int32} {xb yb : Nat → Int64} {bs : Nat → Int32} : Met l y_M_thrown ws_M_thrown ({ frames := 0, cells := 0, slots := 0, locals := 0 } : Room) (pw_R [.ref o] dC dI (mdT c1 c2 c3 c4 c5) (md o a1 a2 a3 a4 a5 c1 c2 c3 c4 c5 th n mo le xh yr xb yb bs)) (vp_Si (fun r => r = th)) 0 0 (fun _ => False) := by
  refine Met.ofW (cc := b_M_thrown) (maxL := 1) (ret := (some .int)) (by decide) rfl ?_
  intro p e s m args below meth c s₁ B hml hv
  obtain ⟨rfl, hP, hK⟩ := hv
  have hx := B.exec
  have hb := B.bytes
  have hr := B.returns
  have hts := atoms_spec (ws := ws_M_thrown) B.pre
  have hown : s.vm.findClass R_M = some m.cls := findClass_of_methodNamed B.named
  have hlocks := B.notSynchronized
  have hl := lv_entry ([.ref o]) (n := 1) (Nat.le_of_ble_eq_true rfl)
  rw [lg_entry_eq]
  generalize (lg_sl ([.ref o]) ++ List.replicate (1 - (lg_sl ([.ref o])).length) Slot.unset).toArray = ls at hl ⊢
  have hl : lv_has ls 1 [(0, .ref o)] := hl
  refine lv_aload_n hx hb d_M_thrown_0 rfl (lv_at hl 0 rfl) ?_
  refine va_get (D := (dC, dI)) (ci := ciM) (v := .int (th)) (C := R_M) (T := F_M) (N := 9) hx hb hts (fun w h => List.mem_cons_of_mem _ (in_M w h)) hown hK hP 0 rfl rfl 0 (by decide) (hts (.fieldLink R_M 27 "PeriodWordsModel" "thrown" "I") (List.mem_cons_of_mem _ mb_383)) (fun _ h9 => h9) rfl d_M_thrown_1 ?_
  exact W.iret (v := (th)) hx hb hr (fun t_ ht_ hW_ => ⟨_, rfl, rfl, ht_⟩) (fun q h => absurd h List.not_mem_nil) d_M_thrown_4
set_option maxHeartbeats 4000000 in
set_option maxRecDepth 100000 in
theorem c_M_ahead (l : Launch) (dC : Nat → ClassId) (dI : Nat → Nat → Nat) {sz : Nat} {o a1 a2 a3 a4 a5 : Nat} {c1 c2 c3 c4 c5 : ClassId} {th mo le : Int32} {n : Nat} {xh yr : Nat → Int32} {xb yb : Nat → Int64} {bs : Nat → Int32} {Wd : Nat → pw_V} (hn : n ≤ 40) (hall : mdAll xh yr xb yb n Wd) {x y : Int32} : Met l y_M_ahead ws_M_ahead ({ frames := 3, cells := 0, slots := 0, locals := 67 } : Room) (md_Pre [.ref o, .int (x), .int (y)] dC dI sz (mdT c1 c2 c3 c4 c5) (md o a1 a2 a3 a4 a5 c1 c2 c3 c4 c5 th n mo le xh yr xb yb bs)) (va_Qi (fun r u => sp_2 n x y (fun i j r => sp_ahead (Wd i) (Wd j) r) (fun r => r = nI 0) r ∧ ∃ mo9 le9, u = (nI 0, n, mo9, le9, xh, yr, xb, yb, bs)) (md_B dC dI (va_A (md o a1 a2 a3 a4 a5 c1 c2 c3 c4 c5 th n mo le xh yr xb yb bs) sz) o a1 a2 a3 a4 a5 c1 c2 c3 c4 c5) (va_A (md o a1 a2 a3 a4 a5 c1 c2 c3 c4 c5 th n mo le xh yr xb yb bs) sz)) 0 0 (va_A (md o a1 a2 a3 a4 a5 c1 c2 c3 c4 c5 th n mo le xh yr xb yb bs) sz) := by
  refine Met.ofW (cc := b_M_ahead) (maxL := 3) (ret := (some .boolean)) (by decide) rfl ?_
  intro p e s m args below meth c s₁ B hml hv
  obtain ⟨rfl, hsz, hP, hK, hD0⟩ := hv
  have hx := B.exec
  have hb := B.bytes
  have hr := B.returns
  have hts := atoms_spec (ws := ws_M_ahead) B.pre
  have hown : s.vm.findClass R_M = some m.cls := findClass_of_methodNamed B.named
  have hlocks := B.notSynchronized
  subst hsz
  have hD := hD0.self (sz := s.heap.size)
  generalize hAe : va_A (md o a1 a2 a3 a4 a5 c1 c2 c3 c4 c5 th n mo le xh yr xb yb bs) s.heap.size = A at hD ⊢
  have hA : ∀ q : Nat, s.heap.size ≤ q → A q := fun q h => by rw [← hAe]; exact Or.inr h
  have hS : va_S A s.heap s.heap [] := va_S.rf
  have hl := lv_entry ([.ref o, .int (x), .int (y)]) (n := 3) (Nat.le_of_ble_eq_true rfl)
  rw [lg_entry_eq]
  generalize (lg_sl ([.ref o, .int (x), .int (y)]) ++ List.replicate (3 - (lg_sl ([.ref o, .int (x), .int (y)])).length) Slot.unset).toArray = ls at hl ⊢
  have hl : lv_has ls 3 [(0, .ref o), (1, .int (x)), (2, .int (y))] := hl
  refine lv_aload_n hx hb d_M_ahead_0 rfl (lv_at hl 0 rfl) ?_
  refine lv_iconst (v := nI 0) hx hb d_M_ahead_1 (by decide) ?_
  refine va_put (D := (dC, dI)) (ci := ciM) (v := .int (nI (0))) (ty := .int) (C := R_M) (T := F_M) (N := 9) hx hb hts (fun w h => List.mem_cons_of_mem _ (in_M w h)) t_M t_M_ok n_M hown hK hP hD hS 0 rfl rfl 0 (by decide) (hts (.fieldLink R_M 27 "PeriodWordsModel" "thrown" "I") (List.mem_cons_of_mem _ mb_383)) (fun _ h9 => h9) rfl (by decide +kernel) rfl rfl (Nat.le_of_ble_eq_true rfl) d_M_ahead_2 (fun H locs hP hD hS => ?_)
  have hP : va_P (dC, dI) vwCl [(o, .inr (ciM, [.int (nI (0)), .int (nI (n)), .ref a1, .ref a2, .ref a3, .ref a4, .ref a5, .int (mo), .int (le)])), (a1, .inl (c1, 40, .inl xh)), (a2, .inl (c2, 40, .inl yr)), (a3, .inl (c3, 40, .inr (.inl xb))), (a4, .inl (c4, 40, .inr (.inl yb))), (a5, .inl (c5, 7400, .inl bs))] H := hP
  have hD : va_D A [(o, .inr (ciM, [.int (nI (0)), .int (nI (n)), .ref a1, .ref a2, .ref a3, .ref a4, .ref a5, .int (mo), .int (le)])), (a1, .inl (c1, 40, .inl xh)), (a2, .inl (c2, 40, .inl yr)), (a3, .inl (c3, 40, .inr (.inl xb))), (a4, .inl (c4, 40, .inr (.inl yb))), (a5, .inl (c5, 7400, .inl bs))] := hD
  refine lv_aload_n hx hb d_M_ahead_5 rfl (lv_at hl 0 rfl) ?_
  refine lv_iload_n hx hb d_M_ahead_6 rfl (lv_at hl 1 rfl) ?_
  refine vp_callSi (W.runV (As := [.int (x)]) (rest := []) ⟨hx, hb, hml, hown, hts⟩ (c_M_isWord l dC dI hn (x := x)) (cwV 1 hts (gd_V mb_436 mb_438 mb_5 mb_23 mb_439) rfl rfl rfl (by decide +kernel) ⟨Nat.le_of_ble_eq_true rfl, Nat.le_of_ble_eq_true rfl⟩) (pw_R_V (va_recv hK hP (ci := ciM) (q0 := 0) rfl rfl) hP hK) rfl rfl hl.1 rfl (lv_room (Nat.le_of_ble_eq_true rfl)) d_M_ahead_7 ⟨Nat.le_of_ble_eq_true rfl, Nat.le_of_ble_eq_true rfl⟩) (fun r_7 hr_7 => ?_)
  rcases hr_7 with ⟨hre, i1, hi1, hx1⟩ | ⟨hre, hno1⟩
  · subst hre
    rw [hx1] at hl
    have hmd1 := hall i1 hi1
    have hmd1_ := hmd1; obtain ⟨hj1, e11, e21, e31, e41, hok1⟩ := hmd1_; have hok1_ := hok1; obtain ⟨hh1, hp01, hp61, hE1⟩ := hok1_
    have ho1 := pw_o_le (Wd i1).2.2 (Wd i1).1 (Wd i1).2.1
    have hc1 := pw_c_le (Wd i1).2.2 (Wd i1).1
    have hb01 := pq_lt60 (pw_b_lt (Wd i1).2.2 0 (Wd i1).1) hh1
    have hb11 := pq_lt60 (pw_b_lt (Wd i1).2.2 (Wd i1).1 (Wd i1).2.1) hp61
    refine pq_if_eq (tgt := 30) (a := 1) hx hb d_M_ahead_10 (by decide) (by omega) (fun c_10 => absurd c_10 (by omega)) (fun c_10 => ?_)
    refine lv_aload_n hx hb d_M_ahead_13 rfl (lv_at hl 0 rfl) ?_
    refine lv_iload_n hx hb d_M_ahead_14 rfl (lv_at hl 2 rfl) ?_
    refine vp_callSi (W.runV (As := [.int (y)]) (rest := []) ⟨hx, hb, hml, hown, hts⟩ (c_M_isWord l dC dI hn (x := y)) (cwV 1 hts (gd_V mb_436 mb_438 mb_5 mb_23 mb_439) rfl rfl rfl (by decide +kernel) ⟨Nat.le_of_ble_eq_true rfl, Nat.le_of_ble_eq_true rfl⟩) (pw_R_V (va_recv hK hP (ci := ciM) (q0 := 0) rfl rfl) hP hK) rfl rfl hl.1 rfl (lv_room (Nat.le_of_ble_eq_true rfl)) d_M_ahead_15 ⟨Nat.le_of_ble_eq_true rfl, Nat.le_of_ble_eq_true rfl⟩) (fun r_15 hr_15 => ?_)
    rcases hr_15 with ⟨hre, i2, hi2, hx2⟩ | ⟨hre, hno2⟩
    · subst hre
      rw [hx2] at hl
      have hmd2 := hall i2 hi2
      have hmd2_ := hmd2; obtain ⟨hj2, e12, e22, e32, e42, hok2⟩ := hmd2_; have hok2_ := hok2; obtain ⟨hh2, hp02, hp62, hE2⟩ := hok2_
      have ho2 := pw_o_le (Wd i2).2.2 (Wd i2).1 (Wd i2).2.1
      have hc2 := pw_c_le (Wd i2).2.2 (Wd i2).1
      have hb02 := pq_lt60 (pw_b_lt (Wd i2).2.2 0 (Wd i2).1) hh2
      have hb12 := pq_lt60 (pw_b_lt (Wd i2).2.2 (Wd i2).1 (Wd i2).2.1) hp62
      refine pq_if_eq (tgt := 30) (a := 1) hx hb d_M_ahead_18 (by decide) (by omega) (fun c_18 => absurd c_18 (by omega)) (fun c_18 => ?_)
      have m1 : pw_o (Wd i1).2.2 (Wd i1).1 (Wd i1).2.1 * (Wd i2).2.1 ≤ 60 * 60 := Nat.mul_le_mul (by omega) (by omega)
      have m2 : pw_o (Wd i2).2.2 (Wd i2).1 (Wd i2).2.1 * (Wd i1).2.1 ≤ 60 * 60 := Nat.mul_le_mul (by omega) (by omega)
      have m3 : (Wd i1).2.1 * (Wd i2).2.1 ≤ 60 * 60 := Nat.mul_le_mul (by omega) (by omega)
      refine lv_aload_n hx hb d_M_ahead_21 rfl (lv_at hl 0 rfl) ?_
      refine lv_iload_n hx hb d_M_ahead_22 rfl (lv_at hl 1 rfl) ?_
      refine lv_iload_n hx hb d_M_ahead_23 rfl (lv_at hl 2 rfl) ?_
      refine vp_callSi (W.runV (As := [.int (nI (i1)), .int (nI (i2))]) (rest := []) ⟨hx, hb, hml, hown, hts⟩ (c_M_rates l dC dI hmd1 hmd2) (cwV 2 hts (gd_V mb_519 mb_521 mb_17 mb_23 mb_522) rfl rfl rfl (by decide +kernel) ⟨Nat.le_of_ble_eq_true rfl, Nat.le_of_ble_eq_true rfl⟩) (pw_R_V (va_recv hK hP (ci := ciM) (q0 := 0) rfl rfl) hP hK) rfl rfl hl.1 rfl (lv_room (Nat.le_of_ble_eq_true rfl)) d_M_ahead_24 ⟨Nat.le_of_ble_eq_true rfl, Nat.le_of_ble_eq_true rfl⟩) (fun r_24 hr_24 => ?_)
      subst hr_24
      refine lv_if_ge (tgt := 32) hx hb d_M_ahead_27 (by decide) (fun c_27 => ?_) (fun c_27 => ?_)
      · refine lv_aload_n hx hb d_M_ahead_32 rfl (lv_at hl 0 rfl) ?_
        refine lv_iload_n hx hb d_M_ahead_33 rfl (lv_at hl 1 rfl) ?_
        refine lv_iload_n hx hb d_M_ahead_34 rfl (lv_at hl 2 rfl) ?_
        have hFc := va_free (wc := [(o, .inr (ciM, [.int (nI (0)), .int (nI (n)), .ref a1, .ref a2, .ref a3, .ref a4, .ref a5, .int (mo), .int (le)])), (a1, .inl (c1, 40, .inl xh)), (a2, .inl (c2, 40, .inl yr)), (a3, .inl (c3, 40, .inr (.inl xb))), (a4, .inl (c4, 40, .inr (.inl yb))), (a5, .inl (c5, 7400, .inl bs))]) hD hS hA [0, 1, 2, 3, 4, 5] rfl
        refine va_callv (va_runV (As := [.int (nI (i1)), .int (nI (i2))]) (rest := []) ⟨hx, hb, hml, hown, hts⟩ (c_M_keep l dC dI hmd1 hmd2) (cwV 2 hts (gd_V mb_523 mb_525 mb_18 mb_23 mb_526) rfl rfl rfl (by decide +kernel) ⟨Nat.le_of_ble_eq_true rfl, Nat.le_of_ble_eq_true rfl⟩) ⟨md_blind, va_recv hK hP (ci := ciM) (q0 := 0) rfl rfl, fun U hU hW => ⟨rfl, by rw [hU], by rw [hU]; exact hP, va_K.moved hW.alike hK, hD.weaken (fun _ _ _ _ => trivial)⟩⟩ rfl rfl hl.1 rfl (lv_room (Nat.le_of_ble_eq_true rfl)) d_M_ahead_35 ⟨Nat.le_of_ble_eq_true rfl, Nat.le_of_ble_eq_true rfl⟩) hS (fun q _ h => hFc q h) hFc (fun u_35 t_ H1 locs ht_ hvm_ hr_35 hB_ hz1_ hk1_ hS => ?_)
        obtain ⟨hP1_, hK1_, hD1_⟩ := hB_
        rw [ht_] at hP1_
        clear hP hD
        have hP := hP1_
        have hD := hD1_.weaken (fun k q _ h => hFc q.1 h)
        generalize H1 = H at hP hS ⊢
        have hP : va_P (dC, dI) vwCl [(o, .inr (ciM, [.int (u_35.1), .int (nI (u_35.2.1)), .ref a1, .ref a2, .ref a3, .ref a4, .ref a5, .int (u_35.2.2.1), .int (u_35.2.2.2.1)])), (a1, .inl (c1, 40, .inl u_35.2.2.2.2.1)), (a2, .inl (c2, 40, .inl u_35.2.2.2.2.2.1)), (a3, .inl (c3, 40, .inr (.inl u_35.2.2.2.2.2.2.1))), (a4, .inl (c4, 40, .inr (.inl u_35.2.2.2.2.2.2.2.1))), (a5, .inl (c5, 7400, .inl u_35.2.2.2.2.2.2.2.2))] H := hP
        have hD : va_D A [(o, .inr (ciM, [.int (u_35.1), .int (nI (u_35.2.1)), .ref a1, .ref a2, .ref a3, .ref a4, .ref a5, .int (u_35.2.2.1), .int (u_35.2.2.2.1)])), (a1, .inl (c1, 40, .inl u_35.2.2.2.2.1)), (a2, .inl (c2, 40, .inl u_35.2.2.2.2.2.1)), (a3, .inl (c3, 40, .inr (.inl u_35.2.2.2.2.2.2.1))), (a4, .inl (c4, 40, .inr (.inl u_35.2.2.2.2.2.2.2.1))), (a5, .inl (c5, 7400, .inl u_35.2.2.2.2.2.2.2.2))] := hD
        have hle : u_35.2.2.2.1 = nI 0 - nI (pw_ks (Wd i2).2.2 (Wd i1).2.2 (max (Wd i1).1 (Wd i2).1 + (Wd i1).2.1 * (Wd i2).2.1)) := by rw [hr_35]
        have hkb := pw_ks_bd (Wd i2).2.2 (Wd i1).2.2 (max (Wd i1).1 (Wd i2).1 + (Wd i1).2.1 * (Wd i2).2.1)
        have hah := pw_ah_keep hE1 hE2 hp01 hp02 ((pq_rt (by omega) (by omega)).mp c_27)
        refine lv_aload_n hx hb d_M_ahead_38 rfl (lv_at hl 0 rfl) ?_
        refine va_get (D := (dC, dI)) (ci := ciM) (v := .int (u_35.2.2.2.1)) (C := R_M) (T := F_M) (N := 9) hx hb hts (fun w h => List.mem_cons_of_mem _ (in_M w h)) hown hK hP 0 rfl rfl 8 (by decide) (hts (.fieldLink R_M 101 "PeriodWordsModel" "least" "I") (List.mem_cons_of_mem _ mb_391)) (fun _ h9 => h9) rfl d_M_ahead_39 ?_
        refine lv_if_ne (tgt := 49) hx hb d_M_ahead_42 (by decide) (fun c_42 => ?_) (fun c_42 => ?_)
        · refine lv_iconst (v := nI 0) hx hb d_M_ahead_49 (by decide) ?_
          exact W.zret (v := (nI (0))) hx hb hr (by decide) (fun t_ ht_ hW_ => ⟨⟨_, u_35, rfl, ⟨Or.inl ⟨i1, i2, hi1, hx1, hi2, hx2, Or.inr ⟨rfl, fun z => c_42 (by rw [hle]; exact (pq_rt0 (by decide) (by omega)).mpr (hah.mp z).symm)⟩⟩, _, _, hr_35⟩, by rw [ht_]; exact hP, va_K.moved hW_.alike hK, hD⟩, hS.F ht_⟩) hS.2.2 d_M_ahead_50
        · refine lv_iconst (v := nI 1) hx hb d_M_ahead_45 (by decide) ?_
          refine lv_goto (tgt := 50) hx hb d_M_ahead_46 (by decide) ?_
          exact W.zret (v := (nI (1))) hx hb hr (by decide) (fun t_ ht_ hW_ => ⟨⟨_, u_35, rfl, ⟨Or.inl ⟨i1, i2, hi1, hx1, hi2, hx2, Or.inl ⟨rfl, hah.mpr (by rw [hle] at c_42; exact ((pq_rt0 (by decide) (by omega)).mp c_42).symm)⟩⟩, _, _, hr_35⟩, by rw [ht_]; exact hP, va_K.moved hW_.alike hK, hD⟩, hS.F ht_⟩) hS.2.2 d_M_ahead_50
      · refine lv_iconst (v := nI 0) hx hb d_M_ahead_30 (by decide) ?_
        exact W.zret (v := (nI (0))) hx hb hr (by decide) (fun t_ ht_ hW_ => ⟨⟨_, (nI (0), n, mo, le, xh, yr, xb, yb, bs), rfl, ⟨Or.inl ⟨i1, i2, hi1, hx1, hi2, hx2, Or.inr ⟨rfl, fun z => c_27 ((pq_rt (by omega) (by omega)).mpr ((pw_ah_round hE1 hE2 hp01 hp02 (Nat.le_max_left _ _) (Nat.le_max_right _ _)).mp z).1)⟩⟩, mo, le, rfl⟩, by rw [ht_]; exact hP, va_K.moved hW_.alike hK, hD⟩, hS.F ht_⟩) hS.2.2 d_M_ahead_31
    · subst hre
      refine pq_if_eq (tgt := 30) (a := 0) hx hb d_M_ahead_18 (by decide) (by omega) (fun c_18 => ?_) (fun c_18 => absurd c_18 (by omega))
      refine lv_iconst (v := nI 0) hx hb d_M_ahead_30 (by decide) ?_
      exact W.zret (v := (nI (0))) hx hb hr (by decide) (fun t_ ht_ hW_ => ⟨⟨_, (nI (0), n, mo, le, xh, yr, xb, yb, bs), rfl, ⟨Or.inr ⟨fun ⟨i, j, hi, e, hj, e2⟩ => hno2 ⟨j, hj, e2⟩, rfl⟩, mo, le, rfl⟩, by rw [ht_]; exact hP, va_K.moved hW_.alike hK, hD⟩, hS.F ht_⟩) hS.2.2 d_M_ahead_31
  · subst hre
    refine pq_if_eq (tgt := 30) (a := 0) hx hb d_M_ahead_10 (by decide) (by omega) (fun c_10 => ?_) (fun c_10 => absurd c_10 (by omega))
    refine lv_iconst (v := nI 0) hx hb d_M_ahead_30 (by decide) ?_
    exact W.zret (v := (nI (0))) hx hb hr (by decide) (fun t_ ht_ hW_ => ⟨⟨_, (nI (0), n, mo, le, xh, yr, xb, yb, bs), rfl, ⟨Or.inr ⟨fun ⟨i, j, hi, e, hj, e2⟩ => hno1 ⟨i, hi, e⟩, rfl⟩, mo, le, rfl⟩, by rw [ht_]; exact hP, va_K.moved hW_.alike hK, hD⟩, hS.F ht_⟩) hS.2.2 d_M_ahead_31
set_option maxHeartbeats 4000000 in
set_option maxRecDepth 100000 in
theorem c_M_between (l : Launch) (dC : Nat → ClassId) (dI : Nat → Nat → Nat) {sz : Nat} {o a1 a2 a3 a4 a5 : Nat} {c1 c2 c3 c4 c5 : ClassId} {th mo le : Int32} {n : Nat} {xh yr : Nat → Int32} {xb yb : Nat → Int64} {bs : Nat → Int32} {Wd : Nat → pw_V} (hn : n ≤ 40) (hall : mdAll xh yr xb yb n Wd) {x y z : Int32} : Met l y_M_between ws_M_between ({ frames := 4, cells := 0, slots := 0, locals := 99 } : Room) (md_Pre [.ref o, .int (x), .int (y), .int (z)] dC dI sz (mdT c1 c2 c3 c4 c5) (md o a1 a2 a3 a4 a5 c1 c2 c3 c4 c5 th n mo le xh yr xb yb bs)) (va_Qi (fun r u => ∃ th9 mo9 le9, u = (th9, n, mo9, le9, xh, yr, xb, yb, bs) ∧ ((th9 = nI 0 ∧ sp_b n Wd x y z (some r)) ∨ (th9 = nI 1 ∧ sp_b n Wd x y z none))) (md_B dC dI (va_A (md o a1 a2 a3 a4 a5 c1 c2 c3 c4 c5 th n mo le xh yr xb yb bs) sz) o a1 a2 a3 a4 a5 c1 c2 c3 c4 c5) (va_A (md o a1 a2 a3 a4 a5 c1 c2 c3 c4 c5 th n mo le xh yr xb yb bs) sz)) 0 0 (va_A (md o a1 a2 a3 a4 a5 c1 c2 c3 c4 c5 th n mo le xh yr xb yb bs) sz) := by
  refine Met.ofW (cc := b_M_between) (maxL := 5) (ret := (some .int)) (by decide) rfl ?_
  intro p e s m args below meth c s₁ B hml hv
  obtain ⟨rfl, hsz, hP, hK, hD0⟩ := hv
  have hx := B.exec
  have hb := B.bytes
  have hr := B.returns
  have hts := atoms_spec (ws := ws_M_between) B.pre
  have hown : s.vm.findClass R_M = some m.cls := findClass_of_methodNamed B.named
  have hlocks := B.notSynchronized
  subst hsz
  have hD := hD0.self (sz := s.heap.size)
  generalize hAe : va_A (md o a1 a2 a3 a4 a5 c1 c2 c3 c4 c5 th n mo le xh yr xb yb bs) s.heap.size = A at hD ⊢
  have hA : ∀ q : Nat, s.heap.size ≤ q → A q := fun q h => by rw [← hAe]; exact Or.inr h
  have hS : va_S A s.heap s.heap [] := va_S.rf
  have hl := lv_entry ([.ref o, .int (x), .int (y), .int (z)]) (n := 5) (Nat.le_of_ble_eq_true rfl)
  rw [lg_entry_eq]
  generalize (lg_sl ([.ref o, .int (x), .int (y), .int (z)]) ++ List.replicate (5 - (lg_sl ([.ref o, .int (x), .int (y), .int (z)])).length) Slot.unset).toArray = ls at hl ⊢
  have hl : lv_has ls 5 [(0, .ref o), (1, .int (x)), (2, .int (y)), (3, .int (z))] := hl
  refine lv_aload_n hx hb d_M_between_0 rfl (lv_at hl 0 rfl) ?_
  refine lv_iconst (v := nI 0) hx hb d_M_between_1 (by decide) ?_
  refine va_put (D := (dC, dI)) (ci := ciM) (v := .int (nI (0))) (ty := .int) (C := R_M) (T := F_M) (N := 9) hx hb hts (fun w h => List.mem_cons_of_mem _ (in_M w h)) t_M t_M_ok n_M hown hK hP hD hS 0 rfl rfl 0 (by decide) (hts (.fieldLink R_M 27 "PeriodWordsModel" "thrown" "I") (List.mem_cons_of_mem _ mb_383)) (fun _ h9 => h9) rfl (by decide +kernel) rfl rfl (Nat.le_of_ble_eq_true rfl) d_M_between_2 (fun H locs hP hD hS => ?_)
  have hP : va_P (dC, dI) vwCl [(o, .inr (ciM, [.int (nI (0)), .int (nI (n)), .ref a1, .ref a2, .ref a3, .ref a4, .ref a5, .int (mo), .int (le)])), (a1, .inl (c1, 40, .inl xh)), (a2, .inl (c2, 40, .inl yr)), (a3, .inl (c3, 40, .inr (.inl xb))), (a4, .inl (c4, 40, .inr (.inl yb))), (a5, .inl (c5, 7400, .inl bs))] H := hP
  have hD : va_D A [(o, .inr (ciM, [.int (nI (0)), .int (nI (n)), .ref a1, .ref a2, .ref a3, .ref a4, .ref a5, .int (mo), .int (le)])), (a1, .inl (c1, 40, .inl xh)), (a2, .inl (c2, 40, .inl yr)), (a3, .inl (c3, 40, .inr (.inl xb))), (a4, .inl (c4, 40, .inr (.inl yb))), (a5, .inl (c5, 7400, .inl bs))] := hD
  refine lv_aload_n hx hb d_M_between_5 rfl (lv_at hl 0 rfl) ?_
  refine lv_iload_n hx hb d_M_between_6 rfl (lv_at hl 1 rfl) ?_
  refine vp_callSi (W.runV (As := [.int (x)]) (rest := []) ⟨hx, hb, hml, hown, hts⟩ (c_M_isWord l dC dI hn (x := x)) (cwV 1 hts (gd_V mb_436 mb_438 mb_5 mb_23 mb_439) rfl rfl rfl (by decide +kernel) ⟨Nat.le_of_ble_eq_true rfl, Nat.le_of_ble_eq_true rfl⟩) (pw_R_V (va_recv hK hP (ci := ciM) (q0 := 0) rfl rfl) hP hK) rfl rfl hl.1 rfl (lv_room (Nat.le_of_ble_eq_true rfl)) d_M_between_7 ⟨Nat.le_of_ble_eq_true rfl, Nat.le_of_ble_eq_true rfl⟩) (fun r_7 hr_7 => ?_)
  rcases hr_7 with ⟨hre, i1, hi1, hx1⟩ | ⟨hre, hno1⟩
  · subst hre
    rw [hx1] at hl
    have hmd1 := hall i1 hi1
    have hmd1_ := hmd1; obtain ⟨hj1, e11, e21, e31, e41, hok1⟩ := hmd1_; have hok1_ := hok1; obtain ⟨hh1, hp01, hp61, hE1⟩ := hok1_
    have ho1 := pw_o_le (Wd i1).2.2 (Wd i1).1 (Wd i1).2.1
    have hc1 := pw_c_le (Wd i1).2.2 (Wd i1).1
    have hb01 := pq_lt60 (pw_b_lt (Wd i1).2.2 0 (Wd i1).1) hh1
    have hb11 := pq_lt60 (pw_b_lt (Wd i1).2.2 (Wd i1).1 (Wd i1).2.1) hp61
    refine pq_if_eq (tgt := 30) (a := 1) hx hb d_M_between_10 (by decide) (by omega) (fun c_10 => absurd c_10 (by omega)) (fun c_10 => ?_)
    refine lv_aload_n hx hb d_M_between_13 rfl (lv_at hl 0 rfl) ?_
    refine lv_iload_n hx hb d_M_between_14 rfl (lv_at hl 2 rfl) ?_
    refine vp_callSi (W.runV (As := [.int (y)]) (rest := []) ⟨hx, hb, hml, hown, hts⟩ (c_M_isWord l dC dI hn (x := y)) (cwV 1 hts (gd_V mb_436 mb_438 mb_5 mb_23 mb_439) rfl rfl rfl (by decide +kernel) ⟨Nat.le_of_ble_eq_true rfl, Nat.le_of_ble_eq_true rfl⟩) (pw_R_V (va_recv hK hP (ci := ciM) (q0 := 0) rfl rfl) hP hK) rfl rfl hl.1 rfl (lv_room (Nat.le_of_ble_eq_true rfl)) d_M_between_15 ⟨Nat.le_of_ble_eq_true rfl, Nat.le_of_ble_eq_true rfl⟩) (fun r_15 hr_15 => ?_)
    rcases hr_15 with ⟨hre, i2, hi2, hx2⟩ | ⟨hre, hno2⟩
    · subst hre
      rw [hx2] at hl
      have hmd2 := hall i2 hi2
      have hmd2_ := hmd2; obtain ⟨hj2, e12, e22, e32, e42, hok2⟩ := hmd2_; have hok2_ := hok2; obtain ⟨hh2, hp02, hp62, hE2⟩ := hok2_
      have ho2 := pw_o_le (Wd i2).2.2 (Wd i2).1 (Wd i2).2.1
      have hc2 := pw_c_le (Wd i2).2.2 (Wd i2).1
      have hb02 := pq_lt60 (pw_b_lt (Wd i2).2.2 0 (Wd i2).1) hh2
      have hb12 := pq_lt60 (pw_b_lt (Wd i2).2.2 (Wd i2).1 (Wd i2).2.1) hp62
      refine pq_if_eq (tgt := 30) (a := 1) hx hb d_M_between_18 (by decide) (by omega) (fun c_18 => absurd c_18 (by omega)) (fun c_18 => ?_)
      refine lv_iload_n hx hb d_M_between_21 rfl (lv_at hl 3 rfl) ?_
      refine lv_iconst (v := nI 0) hx hb d_M_between_22 (by decide) ?_
      refine lv_iconst (v := nI 2) hx hb d_M_between_23 (by decide) ?_
      refine vp_callSi (W.runS (As := [.int (z), .int (nI (0)), .int (nI (2))]) (rest := []) ⟨hx, hb, hml, hown, hts⟩ (c_M_in l dC dI (x := z) (lo := nI 0) (hi := nI 2)) (va_cwS 3 hts (gd_S mb_421 mb_422 mb_23 mb_423) rfl rfl rfl (by decide +kernel) ⟨Nat.le_of_ble_eq_true rfl, Nat.le_of_ble_eq_true rfl⟩) (pw_R_S pw_P0 (hK.sub [] rfl)) rfl rfl hl.1 rfl (lv_room (Nat.le_of_ble_eq_true rfl)) d_M_between_24 ⟨Nat.le_of_ble_eq_true rfl, Nat.le_of_ble_eq_true rfl⟩) (fun r_24 hr_24 => ?_)
      rcases hr_24 with ⟨hre, hlo, hhi⟩ | ⟨hre, hnin⟩
      · subst hre
        rcases pq_in3 hlo hhi with hz_ | hz_ | hz_
        · rw [hz_] at hl
          refine pq_if_ne (tgt := 32) (a := 1) hx hb d_M_between_27 (by decide) (by omega) (fun c_27 => ?_) (fun c_27 => absurd c_27 (by omega))
          refine lv_iload_n hx hb d_M_between_32 rfl (lv_at hl 3 rfl) ?_
          refine lv_iconst (v := nI 2) hx hb d_M_between_33 (by decide) ?_
          refine pq_icmp_ne (tgt := 61) (a := 0) (b := 2) hx hb d_M_between_34 (by decide) (by omega) (by omega) (fun c_34 => ?_) (fun c_34 => absurd c_34 (by omega))
          have m1 : pw_o (Wd i1).2.2 (Wd i1).1 (Wd i1).2.1 * (Wd i2).2.1 ≤ 60 * 60 := Nat.mul_le_mul (by omega) (by omega)
          have m2 : pw_o (Wd i2).2.2 (Wd i2).1 (Wd i2).2.1 * (Wd i1).2.1 ≤ 60 * 60 := Nat.mul_le_mul (by omega) (by omega)
          have m3 : (Wd i1).2.1 * (Wd i2).2.1 ≤ 60 * 60 := Nat.mul_le_mul (by omega) (by omega)
          refine lv_aload_n hx hb d_M_between_61 rfl (lv_at hl 0 rfl) ?_
          refine lv_iload_n hx hb d_M_between_62 rfl (lv_at hl 1 rfl) ?_
          refine lv_iload_n hx hb d_M_between_63 rfl (lv_at hl 2 rfl) ?_
          refine vp_callSi (W.runV (As := [.int (nI (i1)), .int (nI (i2))]) (rest := []) ⟨hx, hb, hml, hown, hts⟩ (c_M_rates l dC dI hmd1 hmd2) (cwV 2 hts (gd_V mb_519 mb_521 mb_17 mb_23 mb_522) rfl rfl rfl (by decide +kernel) ⟨Nat.le_of_ble_eq_true rfl, Nat.le_of_ble_eq_true rfl⟩) (pw_R_V (va_recv hK hP (ci := ciM) (q0 := 0) rfl rfl) hP hK) rfl rfl hl.1 rfl (lv_room (Nat.le_of_ble_eq_true rfl)) d_M_between_64 ⟨Nat.le_of_ble_eq_true rfl, Nat.le_of_ble_eq_true rfl⟩) (fun r_64 hr_64 => ?_)
          subst hr_64
          refine lv_if_eq (tgt := 75) hx hb d_M_between_67 (by decide) (fun c_67 => ?_) (fun c_67 => ?_)
          · refine lv_aload_n hx hb d_M_between_75 rfl (lv_at hl 0 rfl) ?_
            refine lv_iload_n hx hb d_M_between_76 rfl (lv_at hl 1 rfl) ?_
            refine lv_iload_n hx hb d_M_between_77 rfl (lv_at hl 2 rfl) ?_
            have hFc := va_free (wc := [(o, .inr (ciM, [.int (nI (0)), .int (nI (n)), .ref a1, .ref a2, .ref a3, .ref a4, .ref a5, .int (mo), .int (le)])), (a1, .inl (c1, 40, .inl xh)), (a2, .inl (c2, 40, .inl yr)), (a3, .inl (c3, 40, .inr (.inl xb))), (a4, .inl (c4, 40, .inr (.inl yb))), (a5, .inl (c5, 7400, .inl bs))]) hD hS hA [0, 1, 2, 3, 4, 5] rfl
            refine va_callv (va_runV (As := [.int (nI (i1)), .int (nI (i2))]) (rest := []) ⟨hx, hb, hml, hown, hts⟩ (c_M_keep l dC dI hmd1 hmd2) (cwV 2 hts (gd_V mb_523 mb_525 mb_18 mb_23 mb_526) rfl rfl rfl (by decide +kernel) ⟨Nat.le_of_ble_eq_true rfl, Nat.le_of_ble_eq_true rfl⟩) ⟨md_blind, va_recv hK hP (ci := ciM) (q0 := 0) rfl rfl, fun U hU hW => ⟨rfl, by rw [hU], by rw [hU]; exact hP, va_K.moved hW.alike hK, hD.weaken (fun _ _ _ _ => trivial)⟩⟩ rfl rfl hl.1 rfl (lv_room (Nat.le_of_ble_eq_true rfl)) d_M_between_78 ⟨Nat.le_of_ble_eq_true rfl, Nat.le_of_ble_eq_true rfl⟩) hS (fun q _ h => hFc q h) hFc (fun u_78 t_ H1 locs ht_ hvm_ hr_78 hB_ hz1_ hk1_ hS => ?_)
            obtain ⟨hP1_, hK1_, hD1_⟩ := hB_
            rw [ht_] at hP1_
            clear hP hD
            have hP := hP1_
            have hD := hD1_.weaken (fun k q _ h => hFc q.1 h)
            generalize H1 = H at hP hS ⊢
            have hP : va_P (dC, dI) vwCl [(o, .inr (ciM, [.int (u_78.1), .int (nI (u_78.2.1)), .ref a1, .ref a2, .ref a3, .ref a4, .ref a5, .int (u_78.2.2.1), .int (u_78.2.2.2.1)])), (a1, .inl (c1, 40, .inl u_78.2.2.2.2.1)), (a2, .inl (c2, 40, .inl u_78.2.2.2.2.2.1)), (a3, .inl (c3, 40, .inr (.inl u_78.2.2.2.2.2.2.1))), (a4, .inl (c4, 40, .inr (.inl u_78.2.2.2.2.2.2.2.1))), (a5, .inl (c5, 7400, .inl u_78.2.2.2.2.2.2.2.2))] H := hP
            have hD : va_D A [(o, .inr (ciM, [.int (u_78.1), .int (nI (u_78.2.1)), .ref a1, .ref a2, .ref a3, .ref a4, .ref a5, .int (u_78.2.2.1), .int (u_78.2.2.2.1)])), (a1, .inl (c1, 40, .inl u_78.2.2.2.2.1)), (a2, .inl (c2, 40, .inl u_78.2.2.2.2.2.1)), (a3, .inl (c3, 40, .inr (.inl u_78.2.2.2.2.2.2.1))), (a4, .inl (c4, 40, .inr (.inl u_78.2.2.2.2.2.2.2.1))), (a5, .inl (c5, 7400, .inl u_78.2.2.2.2.2.2.2.2))] := hD
            have hkb := pw_ks_bd (Wd i2).2.2 (Wd i1).2.2 (max (Wd i1).1 (Wd i2).1 + (Wd i1).2.1 * (Wd i2).2.1)
            refine lv_iload_n hx hb d_M_between_81 rfl (lv_at hl 3 rfl) ?_
            refine pq_if_ne (tgt := 92) (a := 0) hx hb d_M_between_82 (by decide) (by omega) (fun c_82 => absurd c_82 (by omega)) (fun c_82 => ?_)
            refine lv_aload_n hx hb d_M_between_85 rfl (lv_at hl 0 rfl) ?_
            refine va_get (D := (dC, dI)) (ci := ciM) (v := .int (u_78.2.2.1)) (C := R_M) (T := F_M) (N := 9) hx hb hts (fun w h => List.mem_cons_of_mem _ (in_M w h)) hown hK hP 0 rfl rfl 7 (by decide) (hts (.fieldLink R_M 98 "PeriodWordsModel" "most" "I") (List.mem_cons_of_mem _ mb_390)) (fun _ h9 => h9) rfl d_M_between_86 ?_
            refine lv_goto (tgt := 97) hx hb d_M_between_89 (by decide) ?_
            exact W.iret (v := (u_78.2.2.1)) hx hb hr (fun t_ ht_ hW_ => ⟨⟨_, u_78, rfl, ⟨_, _, _, hr_78, Or.inl ⟨rfl, Or.inl ⟨i1, i2, hi1, hx1, hi2, hx2, Or.inl hz_, Or.inr (Or.inl ⟨hz_, Or.inl ⟨(pq_rt0 (by omega) (by omega)).mp c_67, by rw [hr_78]⟩⟩)⟩⟩⟩, by rw [ht_]; exact hP, va_K.moved hW_.alike hK, hD⟩, hS.F ht_⟩) hS.2.2 d_M_between_97
          · refine lv_aload_n hx hb d_M_between_70 rfl (lv_at hl 0 rfl) ?_
            have hFc := va_free (wc := [(o, .inr (ciM, [.int (nI (0)), .int (nI (n)), .ref a1, .ref a2, .ref a3, .ref a4, .ref a5, .int (mo), .int (le)])), (a1, .inl (c1, 40, .inl xh)), (a2, .inl (c2, 40, .inl yr)), (a3, .inl (c3, 40, .inr (.inl xb))), (a4, .inl (c4, 40, .inr (.inl yb))), (a5, .inl (c5, 7400, .inl bs))]) hD hS hA [0, 1, 2, 3, 4, 5] rfl
            refine va_calli (va_runV (As := []) (rest := []) ⟨hx, hb, hml, hown, hts⟩ (c_M_raise l dC dI) (cwV 0 hts (gd_V mb_447 mb_449 mb_7 mb_23 mb_450) rfl rfl rfl (by decide +kernel) ⟨Nat.le_of_ble_eq_true rfl, Nat.le_of_ble_eq_true rfl⟩) ⟨md_blind, va_recv hK hP (ci := ciM) (q0 := 0) rfl rfl, fun U hU hW => ⟨rfl, by rw [hU], by rw [hU]; exact hP, va_K.moved hW.alike hK, hD.weaken (fun _ _ _ _ => trivial)⟩⟩ rfl rfl hl.1 rfl (lv_room (Nat.le_of_ble_eq_true rfl)) d_M_between_71 ⟨Nat.le_of_ble_eq_true rfl, Nat.le_of_ble_eq_true rfl⟩) hS (fun q _ h => hFc q h) hFc (fun r_71 u_71 t_ H1 locs ht_ hvm_ hr_71 hB_ hz1_ hk1_ hS => ?_)
            obtain ⟨hP1_, hK1_, hD1_⟩ := hB_
            rw [ht_] at hP1_
            clear hP hD
            have hP := hP1_
            have hD := hD1_.weaken (fun k q _ h => hFc q.1 h)
            generalize H1 = H at hP hS ⊢
            have hP : va_P (dC, dI) vwCl [(o, .inr (ciM, [.int (u_71.1), .int (nI (u_71.2.1)), .ref a1, .ref a2, .ref a3, .ref a4, .ref a5, .int (u_71.2.2.1), .int (u_71.2.2.2.1)])), (a1, .inl (c1, 40, .inl u_71.2.2.2.2.1)), (a2, .inl (c2, 40, .inl u_71.2.2.2.2.2.1)), (a3, .inl (c3, 40, .inr (.inl u_71.2.2.2.2.2.2.1))), (a4, .inl (c4, 40, .inr (.inl u_71.2.2.2.2.2.2.2.1))), (a5, .inl (c5, 7400, .inl u_71.2.2.2.2.2.2.2.2))] H := hP
            have hD : va_D A [(o, .inr (ciM, [.int (u_71.1), .int (nI (u_71.2.1)), .ref a1, .ref a2, .ref a3, .ref a4, .ref a5, .int (u_71.2.2.1), .int (u_71.2.2.2.1)])), (a1, .inl (c1, 40, .inl u_71.2.2.2.2.1)), (a2, .inl (c2, 40, .inl u_71.2.2.2.2.2.1)), (a3, .inl (c3, 40, .inr (.inl u_71.2.2.2.2.2.2.1))), (a4, .inl (c4, 40, .inr (.inl u_71.2.2.2.2.2.2.2.1))), (a5, .inl (c5, 7400, .inl u_71.2.2.2.2.2.2.2.2))] := hD
            exact W.iret (v := (r_71)) hx hb hr (fun t_ ht_ hW_ => ⟨⟨_, u_71, rfl, ⟨_, _, _, hr_71.2, Or.inr ⟨rfl, Or.inl ⟨i1, i2, hi1, hx1, hi2, hx2, Or.inl hz_, Or.inr (Or.inl ⟨hz_, Or.inr ⟨fun q => c_67 ((pq_rt0 (by omega) (by omega)).mpr q), rfl⟩⟩)⟩⟩⟩, by rw [ht_]; exact hP, va_K.moved hW_.alike hK, hD⟩, hS.F ht_⟩) hS.2.2 d_M_between_74
        · rw [hz_] at hl
          refine pq_if_ne (tgt := 32) (a := 1) hx hb d_M_between_27 (by decide) (by omega) (fun c_27 => ?_) (fun c_27 => absurd c_27 (by omega))
          refine lv_iload_n hx hb d_M_between_32 rfl (lv_at hl 3 rfl) ?_
          refine lv_iconst (v := nI 2) hx hb d_M_between_33 (by decide) ?_
          refine pq_icmp_ne (tgt := 61) (a := 1) (b := 2) hx hb d_M_between_34 (by decide) (by omega) (by omega) (fun c_34 => ?_) (fun c_34 => absurd c_34 (by omega))
          have m1 : pw_o (Wd i1).2.2 (Wd i1).1 (Wd i1).2.1 * (Wd i2).2.1 ≤ 60 * 60 := Nat.mul_le_mul (by omega) (by omega)
          have m2 : pw_o (Wd i2).2.2 (Wd i2).1 (Wd i2).2.1 * (Wd i1).2.1 ≤ 60 * 60 := Nat.mul_le_mul (by omega) (by omega)
          have m3 : (Wd i1).2.1 * (Wd i2).2.1 ≤ 60 * 60 := Nat.mul_le_mul (by omega) (by omega)
          refine lv_aload_n hx hb d_M_between_61 rfl (lv_at hl 0 rfl) ?_
          refine lv_iload_n hx hb d_M_between_62 rfl (lv_at hl 1 rfl) ?_
          refine lv_iload_n hx hb d_M_between_63 rfl (lv_at hl 2 rfl) ?_
          refine vp_callSi (W.runV (As := [.int (nI (i1)), .int (nI (i2))]) (rest := []) ⟨hx, hb, hml, hown, hts⟩ (c_M_rates l dC dI hmd1 hmd2) (cwV 2 hts (gd_V mb_519 mb_521 mb_17 mb_23 mb_522) rfl rfl rfl (by decide +kernel) ⟨Nat.le_of_ble_eq_true rfl, Nat.le_of_ble_eq_true rfl⟩) (pw_R_V (va_recv hK hP (ci := ciM) (q0 := 0) rfl rfl) hP hK) rfl rfl hl.1 rfl (lv_room (Nat.le_of_ble_eq_true rfl)) d_M_between_64 ⟨Nat.le_of_ble_eq_true rfl, Nat.le_of_ble_eq_true rfl⟩) (fun r_64 hr_64 => ?_)
          subst hr_64
          refine lv_if_eq (tgt := 75) hx hb d_M_between_67 (by decide) (fun c_67 => ?_) (fun c_67 => ?_)
          · refine lv_aload_n hx hb d_M_between_75 rfl (lv_at hl 0 rfl) ?_
            refine lv_iload_n hx hb d_M_between_76 rfl (lv_at hl 1 rfl) ?_
            refine lv_iload_n hx hb d_M_between_77 rfl (lv_at hl 2 rfl) ?_
            have hFc := va_free (wc := [(o, .inr (ciM, [.int (nI (0)), .int (nI (n)), .ref a1, .ref a2, .ref a3, .ref a4, .ref a5, .int (mo), .int (le)])), (a1, .inl (c1, 40, .inl xh)), (a2, .inl (c2, 40, .inl yr)), (a3, .inl (c3, 40, .inr (.inl xb))), (a4, .inl (c4, 40, .inr (.inl yb))), (a5, .inl (c5, 7400, .inl bs))]) hD hS hA [0, 1, 2, 3, 4, 5] rfl
            refine va_callv (va_runV (As := [.int (nI (i1)), .int (nI (i2))]) (rest := []) ⟨hx, hb, hml, hown, hts⟩ (c_M_keep l dC dI hmd1 hmd2) (cwV 2 hts (gd_V mb_523 mb_525 mb_18 mb_23 mb_526) rfl rfl rfl (by decide +kernel) ⟨Nat.le_of_ble_eq_true rfl, Nat.le_of_ble_eq_true rfl⟩) ⟨md_blind, va_recv hK hP (ci := ciM) (q0 := 0) rfl rfl, fun U hU hW => ⟨rfl, by rw [hU], by rw [hU]; exact hP, va_K.moved hW.alike hK, hD.weaken (fun _ _ _ _ => trivial)⟩⟩ rfl rfl hl.1 rfl (lv_room (Nat.le_of_ble_eq_true rfl)) d_M_between_78 ⟨Nat.le_of_ble_eq_true rfl, Nat.le_of_ble_eq_true rfl⟩) hS (fun q _ h => hFc q h) hFc (fun u_78 t_ H1 locs ht_ hvm_ hr_78 hB_ hz1_ hk1_ hS => ?_)
            obtain ⟨hP1_, hK1_, hD1_⟩ := hB_
            rw [ht_] at hP1_
            clear hP hD
            have hP := hP1_
            have hD := hD1_.weaken (fun k q _ h => hFc q.1 h)
            generalize H1 = H at hP hS ⊢
            have hP : va_P (dC, dI) vwCl [(o, .inr (ciM, [.int (u_78.1), .int (nI (u_78.2.1)), .ref a1, .ref a2, .ref a3, .ref a4, .ref a5, .int (u_78.2.2.1), .int (u_78.2.2.2.1)])), (a1, .inl (c1, 40, .inl u_78.2.2.2.2.1)), (a2, .inl (c2, 40, .inl u_78.2.2.2.2.2.1)), (a3, .inl (c3, 40, .inr (.inl u_78.2.2.2.2.2.2.1))), (a4, .inl (c4, 40, .inr (.inl u_78.2.2.2.2.2.2.2.1))), (a5, .inl (c5, 7400, .inl u_78.2.2.2.2.2.2.2.2))] H := hP
            have hD : va_D A [(o, .inr (ciM, [.int (u_78.1), .int (nI (u_78.2.1)), .ref a1, .ref a2, .ref a3, .ref a4, .ref a5, .int (u_78.2.2.1), .int (u_78.2.2.2.1)])), (a1, .inl (c1, 40, .inl u_78.2.2.2.2.1)), (a2, .inl (c2, 40, .inl u_78.2.2.2.2.2.1)), (a3, .inl (c3, 40, .inr (.inl u_78.2.2.2.2.2.2.1))), (a4, .inl (c4, 40, .inr (.inl u_78.2.2.2.2.2.2.2.1))), (a5, .inl (c5, 7400, .inl u_78.2.2.2.2.2.2.2.2))] := hD
            have hkb := pw_ks_bd (Wd i2).2.2 (Wd i1).2.2 (max (Wd i1).1 (Wd i2).1 + (Wd i1).2.1 * (Wd i2).2.1)
            refine lv_iload_n hx hb d_M_between_81 rfl (lv_at hl 3 rfl) ?_
            refine pq_if_ne (tgt := 92) (a := 1) hx hb d_M_between_82 (by decide) (by omega) (fun c_82 => ?_) (fun c_82 => absurd c_82 (by omega))
            refine lv_aload_n hx hb d_M_between_92 rfl (lv_at hl 0 rfl) ?_
            refine va_get (D := (dC, dI)) (ci := ciM) (v := .int (u_78.2.2.2.1)) (C := R_M) (T := F_M) (N := 9) hx hb hts (fun w h => List.mem_cons_of_mem _ (in_M w h)) hown hK hP 0 rfl rfl 8 (by decide) (hts (.fieldLink R_M 101 "PeriodWordsModel" "least" "I") (List.mem_cons_of_mem _ mb_391)) (fun _ h9 => h9) rfl d_M_between_93 ?_
            refine lv_ineg hx hb d_M_between_96 ?_
            refine lv_topi (fun x_1 ex_1 => ?_)
            exact W.iret (v := (x_1)) hx hb hr (fun t_ ht_ hW_ => ⟨⟨_, u_78, rfl, ⟨_, _, _, hr_78, Or.inl ⟨rfl, Or.inl ⟨i1, i2, hi1, hx1, hi2, hx2, Or.inr (Or.inl hz_), Or.inr (Or.inr ⟨hz_, Or.inl ⟨(pq_rt0 (by omega) (by omega)).mp c_67, by rw [ex_1, hr_78]; exact congrArg some (pq_neg0 (by omega))⟩⟩)⟩⟩⟩, by rw [ht_]; exact hP, va_K.moved hW_.alike hK, hD⟩, hS.F ht_⟩) hS.2.2 d_M_between_97
          · refine lv_aload_n hx hb d_M_between_70 rfl (lv_at hl 0 rfl) ?_
            have hFc := va_free (wc := [(o, .inr (ciM, [.int (nI (0)), .int (nI (n)), .ref a1, .ref a2, .ref a3, .ref a4, .ref a5, .int (mo), .int (le)])), (a1, .inl (c1, 40, .inl xh)), (a2, .inl (c2, 40, .inl yr)), (a3, .inl (c3, 40, .inr (.inl xb))), (a4, .inl (c4, 40, .inr (.inl yb))), (a5, .inl (c5, 7400, .inl bs))]) hD hS hA [0, 1, 2, 3, 4, 5] rfl
            refine va_calli (va_runV (As := []) (rest := []) ⟨hx, hb, hml, hown, hts⟩ (c_M_raise l dC dI) (cwV 0 hts (gd_V mb_447 mb_449 mb_7 mb_23 mb_450) rfl rfl rfl (by decide +kernel) ⟨Nat.le_of_ble_eq_true rfl, Nat.le_of_ble_eq_true rfl⟩) ⟨md_blind, va_recv hK hP (ci := ciM) (q0 := 0) rfl rfl, fun U hU hW => ⟨rfl, by rw [hU], by rw [hU]; exact hP, va_K.moved hW.alike hK, hD.weaken (fun _ _ _ _ => trivial)⟩⟩ rfl rfl hl.1 rfl (lv_room (Nat.le_of_ble_eq_true rfl)) d_M_between_71 ⟨Nat.le_of_ble_eq_true rfl, Nat.le_of_ble_eq_true rfl⟩) hS (fun q _ h => hFc q h) hFc (fun r_71 u_71 t_ H1 locs ht_ hvm_ hr_71 hB_ hz1_ hk1_ hS => ?_)
            obtain ⟨hP1_, hK1_, hD1_⟩ := hB_
            rw [ht_] at hP1_
            clear hP hD
            have hP := hP1_
            have hD := hD1_.weaken (fun k q _ h => hFc q.1 h)
            generalize H1 = H at hP hS ⊢
            have hP : va_P (dC, dI) vwCl [(o, .inr (ciM, [.int (u_71.1), .int (nI (u_71.2.1)), .ref a1, .ref a2, .ref a3, .ref a4, .ref a5, .int (u_71.2.2.1), .int (u_71.2.2.2.1)])), (a1, .inl (c1, 40, .inl u_71.2.2.2.2.1)), (a2, .inl (c2, 40, .inl u_71.2.2.2.2.2.1)), (a3, .inl (c3, 40, .inr (.inl u_71.2.2.2.2.2.2.1))), (a4, .inl (c4, 40, .inr (.inl u_71.2.2.2.2.2.2.2.1))), (a5, .inl (c5, 7400, .inl u_71.2.2.2.2.2.2.2.2))] H := hP
            have hD : va_D A [(o, .inr (ciM, [.int (u_71.1), .int (nI (u_71.2.1)), .ref a1, .ref a2, .ref a3, .ref a4, .ref a5, .int (u_71.2.2.1), .int (u_71.2.2.2.1)])), (a1, .inl (c1, 40, .inl u_71.2.2.2.2.1)), (a2, .inl (c2, 40, .inl u_71.2.2.2.2.2.1)), (a3, .inl (c3, 40, .inr (.inl u_71.2.2.2.2.2.2.1))), (a4, .inl (c4, 40, .inr (.inl u_71.2.2.2.2.2.2.2.1))), (a5, .inl (c5, 7400, .inl u_71.2.2.2.2.2.2.2.2))] := hD
            exact W.iret (v := (r_71)) hx hb hr (fun t_ ht_ hW_ => ⟨⟨_, u_71, rfl, ⟨_, _, _, hr_71.2, Or.inr ⟨rfl, Or.inl ⟨i1, i2, hi1, hx1, hi2, hx2, Or.inr (Or.inl hz_), Or.inr (Or.inr ⟨hz_, Or.inr ⟨fun q => c_67 ((pq_rt0 (by omega) (by omega)).mpr q), rfl⟩⟩)⟩⟩⟩, by rw [ht_]; exact hP, va_K.moved hW_.alike hK, hD⟩, hS.F ht_⟩) hS.2.2 d_M_between_74
        · rw [hz_] at hl
          refine pq_if_ne (tgt := 32) (a := 1) hx hb d_M_between_27 (by decide) (by omega) (fun c_27 => ?_) (fun c_27 => absurd c_27 (by omega))
          refine lv_iload_n hx hb d_M_between_32 rfl (lv_at hl 3 rfl) ?_
          refine lv_iconst (v := nI 2) hx hb d_M_between_33 (by decide) ?_
          refine pq_icmp_ne (tgt := 61) (a := 2) (b := 2) hx hb d_M_between_34 (by decide) (by omega) (by omega) (fun c_34 => absurd c_34 (by omega)) (fun c_34 => ?_)
          refine lv_aload_n hx hb d_M_between_37 rfl (lv_at hl 0 rfl) ?_
          refine lv_iload_n hx hb d_M_between_38 rfl (lv_at hl 1 rfl) ?_
          refine lv_iload_n hx hb d_M_between_39 rfl (lv_at hl 2 rfl) ?_
          refine vp_callSi (W.runV (As := [.int (nI (i1)), .int (nI (i2))]) (rest := []) ⟨hx, hb, hml, hown, hts⟩ (c_M_waiting l dC dI hmd1 hmd2) (cwV 2 hts (gd_V mb_535 mb_537 mb_20 mb_23 mb_538) rfl rfl rfl (by decide +kernel) ⟨Nat.le_of_ble_eq_true rfl, Nat.le_of_ble_eq_true rfl⟩) (pw_R_V (va_recv hK hP (ci := ciM) (q0 := 0) rfl rfl) hP hK) rfl rfl hl.1 rfl (lv_room (Nat.le_of_ble_eq_true rfl)) d_M_between_40 ⟨Nat.le_of_ble_eq_true rfl, Nat.le_of_ble_eq_true rfl⟩) (fun r_40 hr_40 => ?_)
          refine lv_istore (lv' := [(4, .int (r_40)), (0, .ref o), (1, .int (nI (i1))), (2, .int (nI (i2))), (3, .int (nI (2)))]) hx hb d_M_between_43 hl (by decide) rfl (fun ls hl => ?_)
          refine lv_iload hx hb d_M_between_45 (lv_at hl 0 rfl) ?_
          refine lv_iconst (v := (-1)) hx hb d_M_between_47 (by decide) ?_
          refine lv_icmp_ne (tgt := 58) hx hb d_M_between_48 (by decide) (fun c_48 => ?_) (fun c_48 => ?_)
          · refine lv_iload hx hb d_M_between_58 (lv_at hl 0 rfl) ?_
            exact W.iret (v := (r_40)) hx hb hr (fun t_ ht_ hW_ => ⟨⟨_, (nI (0), n, mo, le, xh, yr, xb, yb, bs), rfl, ⟨_, _, _, rfl, Or.inl ⟨rfl, Or.inl ⟨i1, i2, hi1, hx1, hi2, hx2, Or.inr (Or.inr hz_), Or.inl ⟨hz_, r_40, hr_40, Or.inr ⟨c_48, rfl⟩⟩⟩⟩⟩, by rw [ht_]; exact hP, va_K.moved hW_.alike hK, hD⟩, hS.F ht_⟩) hS.2.2 d_M_between_60
          · refine lv_aload_n hx hb d_M_between_51 rfl (lv_at hl 1 rfl) ?_
            have hFc := va_free (wc := [(o, .inr (ciM, [.int (nI (0)), .int (nI (n)), .ref a1, .ref a2, .ref a3, .ref a4, .ref a5, .int (mo), .int (le)])), (a1, .inl (c1, 40, .inl xh)), (a2, .inl (c2, 40, .inl yr)), (a3, .inl (c3, 40, .inr (.inl xb))), (a4, .inl (c4, 40, .inr (.inl yb))), (a5, .inl (c5, 7400, .inl bs))]) hD hS hA [0, 1, 2, 3, 4, 5] rfl
            refine va_calli (va_runV (As := []) (rest := []) ⟨hx, hb, hml, hown, hts⟩ (c_M_raise l dC dI) (cwV 0 hts (gd_V mb_447 mb_449 mb_7 mb_23 mb_450) rfl rfl rfl (by decide +kernel) ⟨Nat.le_of_ble_eq_true rfl, Nat.le_of_ble_eq_true rfl⟩) ⟨md_blind, va_recv hK hP (ci := ciM) (q0 := 0) rfl rfl, fun U hU hW => ⟨rfl, by rw [hU], by rw [hU]; exact hP, va_K.moved hW.alike hK, hD.weaken (fun _ _ _ _ => trivial)⟩⟩ rfl rfl hl.1 rfl (lv_room (Nat.le_of_ble_eq_true rfl)) d_M_between_52 ⟨Nat.le_of_ble_eq_true rfl, Nat.le_of_ble_eq_true rfl⟩) hS (fun q _ h => hFc q h) hFc (fun r_52 u_52 t_ H1 locs ht_ hvm_ hr_52 hB_ hz1_ hk1_ hS => ?_)
            obtain ⟨hP1_, hK1_, hD1_⟩ := hB_
            rw [ht_] at hP1_
            clear hP hD
            have hP := hP1_
            have hD := hD1_.weaken (fun k q _ h => hFc q.1 h)
            generalize H1 = H at hP hS ⊢
            have hP : va_P (dC, dI) vwCl [(o, .inr (ciM, [.int (u_52.1), .int (nI (u_52.2.1)), .ref a1, .ref a2, .ref a3, .ref a4, .ref a5, .int (u_52.2.2.1), .int (u_52.2.2.2.1)])), (a1, .inl (c1, 40, .inl u_52.2.2.2.2.1)), (a2, .inl (c2, 40, .inl u_52.2.2.2.2.2.1)), (a3, .inl (c3, 40, .inr (.inl u_52.2.2.2.2.2.2.1))), (a4, .inl (c4, 40, .inr (.inl u_52.2.2.2.2.2.2.2.1))), (a5, .inl (c5, 7400, .inl u_52.2.2.2.2.2.2.2.2))] H := hP
            have hD : va_D A [(o, .inr (ciM, [.int (u_52.1), .int (nI (u_52.2.1)), .ref a1, .ref a2, .ref a3, .ref a4, .ref a5, .int (u_52.2.2.1), .int (u_52.2.2.2.1)])), (a1, .inl (c1, 40, .inl u_52.2.2.2.2.1)), (a2, .inl (c2, 40, .inl u_52.2.2.2.2.2.1)), (a3, .inl (c3, 40, .inr (.inl u_52.2.2.2.2.2.2.1))), (a4, .inl (c4, 40, .inr (.inl u_52.2.2.2.2.2.2.2.1))), (a5, .inl (c5, 7400, .inl u_52.2.2.2.2.2.2.2.2))] := hD
            refine lv_goto (tgt := 60) hx hb d_M_between_55 (by decide) ?_
            exact W.iret (v := (r_52)) hx hb hr (fun t_ ht_ hW_ => ⟨⟨_, u_52, rfl, ⟨_, _, _, hr_52.2, Or.inr ⟨rfl, Or.inl ⟨i1, i2, hi1, hx1, hi2, hx2, Or.inr (Or.inr hz_), Or.inl ⟨hz_, r_40, hr_40, Or.inl ⟨c_48, rfl⟩⟩⟩⟩⟩, by rw [ht_]; exact hP, va_K.moved hW_.alike hK, hD⟩, hS.F ht_⟩) hS.2.2 d_M_between_60
      · subst hre
        refine pq_if_ne (tgt := 32) (a := 0) hx hb d_M_between_27 (by decide) (by omega) (fun c_27 => absurd c_27 (by omega)) (fun c_27 => ?_)
        refine lv_iconst (v := (-1)) hx hb d_M_between_30 (by decide) ?_
        exact W.iret (v := (-1)) hx hb hr (fun t_ ht_ hW_ => ⟨⟨_, (nI (0), n, mo, le, xh, yr, xb, yb, bs), rfl, ⟨_, _, _, rfl, Or.inl ⟨rfl, Or.inr ⟨fun ⟨i, j, hi, e, hj, e2, hz⟩ => hnin (by rcases hz with e3 | e3 | e3 <;> rw [e3] <;> decide), rfl⟩⟩⟩, by rw [ht_]; exact hP, va_K.moved hW_.alike hK, hD⟩, hS.F ht_⟩) hS.2.2 d_M_between_31
    · subst hre
      refine pq_if_eq (tgt := 30) (a := 0) hx hb d_M_between_18 (by decide) (by omega) (fun c_18 => ?_) (fun c_18 => absurd c_18 (by omega))
      refine lv_iconst (v := (-1)) hx hb d_M_between_30 (by decide) ?_
      exact W.iret (v := (-1)) hx hb hr (fun t_ ht_ hW_ => ⟨⟨_, (nI (0), n, mo, le, xh, yr, xb, yb, bs), rfl, ⟨_, _, _, rfl, Or.inl ⟨rfl, Or.inr ⟨fun ⟨i, j, hi, e, hj, e2, hz⟩ => hno2 ⟨j, hj, e2⟩, rfl⟩⟩⟩, by rw [ht_]; exact hP, va_K.moved hW_.alike hK, hD⟩, hS.F ht_⟩) hS.2.2 d_M_between_31
  · subst hre
    refine pq_if_eq (tgt := 30) (a := 0) hx hb d_M_between_10 (by decide) (by omega) (fun c_10 => ?_) (fun c_10 => absurd c_10 (by omega))
    refine lv_iconst (v := (-1)) hx hb d_M_between_30 (by decide) ?_
    exact W.iret (v := (-1)) hx hb hr (fun t_ ht_ hW_ => ⟨⟨_, (nI (0), n, mo, le, xh, yr, xb, yb, bs), rfl, ⟨_, _, _, rfl, Or.inl ⟨rfl, Or.inr ⟨fun ⟨i, j, hi, e, hj, e2, hz⟩ => hno1 ⟨i, hi, e⟩, rfl⟩⟩⟩, by rw [ht_]; exact hP, va_K.moved hW_.alike hK, hD⟩, hS.F ht_⟩) hS.2.2 d_M_between_31
