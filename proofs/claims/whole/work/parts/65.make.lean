set_option maxHeartbeats 2000000 in
set_option maxRecDepth 100000 in
theorem c_P_make (l : Launch) (hst : l.stackTraces = false) (dC : Nat → ClassId) (dI : Nat → Nat → Nat) {sz : Nat} {z0 o q n : Nat} {cW : ClassId} {wa : Nat → Option Nat} {Wd : Nat → pw_V} (hn : n ≤ 40) (hoz : o < z0) (hqz : q < z0) (hzs : z0 ≤ sz) {zz : Nat} (hzo : zz ≤ o) (hzq : zz ≤ q) (hzz : zz ≤ sz) {x y z : Int32} : vx_Met l y_P_make ws_P_make ({ frames := 6, cells := 3, slots := 133, locals := 114 } : Room) (tx_Pre (cs_Pre [.ref o, .int (x), .int (y), .int (z)] dC dI z0 sz o q n cW wa Wd) zz "java/lang/IllegalArgumentException" [(47, "b has 1s with an end")]) (va_Qi (fun r u => (∃ k i j d, sp_mkv n x y z k i j d ∧ (k = 5 → 0 < pw_o (Wd j).2.2 (Wd j).1 (Wd j).2.1) ∧ cs_set (pw_mk k (Wd i).2.2 (Wd j).2.2 d) n Wd r u) ∨ ((¬ ∃ k i j d, sp_mkv n x y z k i j d) ∧ r = -1 ∧ u.1 = n ∧ ∀ i, i < n → u.2.2 i = Wd i)) (cs_B dC dI (va_A (pwc o q n cW wa) sz) z0 o q cW) (va_A (pwc o q n cW wa) sz)) (vx_X (fun _ : Unit => ∃ i j d, sp_mkv n x y z 5 i j d ∧ pw_o (Wd j).2.2 (Wd j).1 (Wd j).2.1 = 0) (fun E9 _ t => E9 = "java/lang/IllegalArgumentException" ∧ cs_B dC dI (va_A (pwc o q n cW wa) sz) z0 o q cW (n, wa, Wd) t) (va_A (pwc o q n cW wa) sz)) 3 133 (va_A (pwc o q n cW wa) sz) := by
  refine vx_ofW (cc := b_P_make) (maxL := 6) (ret := (some .int)) (by decide) rfl ?_
  intro p e s m args below meth c s₁ B hml hxt hv
  obtain ⟨⟨rfl, hsz, hP, hK, hD0, hall⟩, htx⟩ := hv
  have hx := B.exec
  have hb := B.bytes
  have hr := B.returns
  have hts := atoms_spec (ws := ws_P_make) B.pre
  have hown : s.vm.findClass R_P = some m.cls := findClass_of_methodNamed B.named
  have hlocks := B.notSynchronized
  subst hsz
  have hD := hD0.self (sz := s.heap.size)
  generalize hAe : va_A (pwc o q n cW wa) s.heap.size = A at hD ⊢
  have hA : ∀ q : Nat, s.heap.size ≤ q → A q := fun q h => by rw [← hAe]; exact Or.inr h
  have hS : va_S A s.heap s.heap [] := va_S.rf
  have hl := lv_entry ([.ref o, .int (x), .int (y), .int (z)]) (n := 6) (Nat.le_of_ble_eq_true rfl)
  rw [lg_entry_eq]
  generalize (lg_sl ([.ref o, .int (x), .int (y), .int (z)]) ++ List.replicate (6 - (lg_sl ([.ref o, .int (x), .int (y), .int (z)])).length) Slot.unset).toArray = ls at hl ⊢
  have hl : lv_has ls 6 [(0, .ref o), (1, .int (x)), (2, .int (y)), (3, .int (z))] := hl
  refine lv_iload_n hx hb d_P_make_0 rfl (lv_at hl 1 rfl) ?_
  refine lv_if_lt (tgt := 19) hx hb d_P_make_1 (by decide) (fun c_1 => ?_) (fun c_1 => ?_)
  · refine lv_iconst (v := (-1)) hx hb d_P_make_19 (by decide) ?_
    refine vx_ret ?_
    refine W.widen (k := 3) (n := 133) (by omega) (by omega) ?_
    exact W.iret (v := (-1)) hx hb hr (fun t_ ht_ hW_ => ⟨⟨_, (n, wa, Wd), rfl, Or.inr ⟨fun ⟨k, i, j, d, w_⟩ => by obtain ⟨w1, w2, w3, w4⟩ := w_; subst w3; first | exact nI_pos (by omega) c_1 | exact nI_nlt (by omega) (by omega) c_7 | omega, rfl, rfl, fun _ _ => rfl⟩, by rw [ht_]; exact hP.sub [0, 1] rfl, va_K.moved hW_.alike (hK.sub [0] rfl), hD.sub [0, 1] (by decide) rfl, by rw [ht_]; exact wdAll.moved hW_.alike (cs_keep hAe hoz hqz hS hall)⟩, hS.F ht_⟩) hS.2.2 d_P_make_20
  · refine lv_iload_n hx hb d_P_make_4 rfl (lv_at hl 1 rfl) ?_
    refine lv_bipush (v := nI 7) hx hb d_P_make_5 (by decide) ?_
    refine lv_icmp_gt (tgt := 19) hx hb d_P_make_7 (by decide) (fun c_7 => ?_) (fun c_7 => ?_)
    · refine lv_iconst (v := (-1)) hx hb d_P_make_19 (by decide) ?_
      refine vx_ret ?_
      refine W.widen (k := 3) (n := 133) (by omega) (by omega) ?_
      exact W.iret (v := (-1)) hx hb hr (fun t_ ht_ hW_ => ⟨⟨_, (n, wa, Wd), rfl, Or.inr ⟨fun ⟨k, i, j, d, w_⟩ => by obtain ⟨w1, w2, w3, w4⟩ := w_; subst w3; first | exact nI_pos (by omega) c_1 | exact nI_nlt (by omega) (by omega) c_7 | omega, rfl, rfl, fun _ _ => rfl⟩, by rw [ht_]; exact hP.sub [0, 1] rfl, va_K.moved hW_.alike (hK.sub [0] rfl), hD.sub [0, 1] (by decide) rfl, by rw [ht_]; exact wdAll.moved hW_.alike (cs_keep hAe hoz hqz hS hall)⟩, hS.F ht_⟩) hS.2.2 d_P_make_20
    · refine lv_aload_n hx hb d_P_make_10 rfl (lv_at hl 0 rfl) ?_
      refine va_get (D := (dC, dI)) (ci := ciP) (v := .int (nI (n))) (C := R_P) (T := F_P) (N := 2) hx hb hts (fun w h => List.mem_cons_of_mem _ (in_P w h)) hown hK hP 0 rfl rfl 1 (by decide) (hts (.fieldLink R_P 15 "PeriodWords" "count" "I") (List.mem_cons_of_mem _ mb_46)) (fun _ h9 => h9) rfl d_P_make_11 ?_
      refine lv_bipush (v := nI 40) hx hb d_P_make_14 (by decide) ?_
      refine pq_icmp_lt (tgt := 21) (a := n) (b := 40) hx hb d_P_make_16 (by decide) (by omega) (by omega) (fun c_16 => ?_) (fun c_16 => ?_)
      · have hn40 : n < 40 := c_16
        have hAz := cs_Az hAe hzo hzq hzz
        obtain ⟨k_, hk_, e1_⟩ := pq_in_of (N := 7) (by decide) (by rw [nI_0]; exact c_1) c_7
        subst e1_
        rcases (show k_ = 0 ∨ k_ = 1 ∨ k_ = 2 ∨ k_ = 3 ∨ k_ = 4 ∨ k_ = 5 ∨ k_ = 6 ∨ k_ = 7 by omega) with rfl | rfl | rfl | rfl | rfl | rfl | rfl | rfl
        · refine lv_aload_n hx hb d_P_make_21 rfl (lv_at hl 0 rfl) ?_
          refine lv_iload_n hx hb d_P_make_22 rfl (lv_at hl 2 rfl) ?_
          refine va_csq (W.runV (As := [.int (y)]) (rest := []) ⟨hx, hb, hml, hown, hts⟩ (c_P_find l dC dI hn (x := y)) (cwV 1 hts (gd_V mb_198 mb_200 mb_1 mb_22 mb_201) rfl rfl rfl (by decide +kernel) ⟨Nat.le_of_ble_eq_true rfl, Nat.le_of_ble_eq_true rfl⟩) (pw_R_V (va_recv hK hP (ci := ciP) (q0 := 0) rfl rfl) hP hK) rfl rfl hl.1 rfl (lv_room (Nat.le_of_ble_eq_true rfl)) d_P_make_23 ⟨Nat.le_of_ble_eq_true rfl, Nat.le_of_ble_eq_true rfl⟩) (fun r_23 hr_23 => ?_)
          rcases hr_23 with ⟨i1, hi1, hx1, hr1⟩ | ⟨hno1, hr1⟩
          · obtain ⟨a1, hwa1, q1, cA1, pl1, hPw1, hKw1, hpl1, hok1, hz1, hzq1⟩ := hall i1 hi1
            have hok1_ := hok1; obtain ⟨hh1, hp01, hp61, hE1⟩ := hok1_
            have ho1 := pw_o_le (Wd i1).2.2 (Wd i1).1 (Wd i1).2.1
            have hc1 := pw_c_le (Wd i1).2.2 (Wd i1).1
            rw [hx1] at hl
            refine pq_top (y := .ref a1) (by rw [hr1, hwa1]; rfl) ?_
            refine lv_astore (lv' := [(4, .ref a1), (0, .ref o), (1, .int (nI (0))), (2, .int (nI (i1))), (3, .int (z))]) hx hb d_P_make_26 hl (by decide) rfl (fun ls hl => ?_)
            refine lv_iload_n hx hb d_P_make_28 rfl (lv_at hl 2 rfl) ?_
            refine vp_callSi (W.runS (As := [.int (nI (0))]) (rest := []) ⟨hx, hb, hml, hown, hts⟩ (c_P_needsTwo l dC dI (how := 0) (by decide)) (va_cwS 1 hts (gd_S mb_252 mb_253 mb_22 mb_254) rfl rfl rfl (by decide +kernel) ⟨Nat.le_of_ble_eq_true rfl, Nat.le_of_ble_eq_true rfl⟩) (pw_R_S pw_P0 (hK.sub [] rfl)) rfl rfl hl.1 rfl (lv_room (Nat.le_of_ble_eq_true rfl)) d_P_make_29 ⟨Nat.le_of_ble_eq_true rfl, Nat.le_of_ble_eq_true rfl⟩) (fun r_29 hr_29 => ?_)
            subst hr_29
            refine pq_top (y := .int (nI (1))) (by first | rfl | decide) ?_
            refine pq_if_eq (tgt := 43) (a := 1) hx hb d_P_make_32 (by decide) (by omega) (fun c_32 => absurd c_32 (by omega)) (fun c_32 => ?_)
            refine lv_aload_n hx hb d_P_make_35 rfl (lv_at hl 1 rfl) ?_
            refine lv_iload_n hx hb d_P_make_36 rfl (lv_at hl 4 rfl) ?_
            refine va_csq (W.runV (As := [.int (z)]) (rest := []) ⟨hx, hb, hml, hown, hts⟩ (c_P_find l dC dI hn (x := z)) (cwV 1 hts (gd_V mb_198 mb_200 mb_1 mb_22 mb_201) rfl rfl rfl (by decide +kernel) ⟨Nat.le_of_ble_eq_true rfl, Nat.le_of_ble_eq_true rfl⟩) (pw_R_V (va_recv hK hP (ci := ciP) (q0 := 0) rfl rfl) hP hK) rfl rfl hl.1 rfl (lv_room (Nat.le_of_ble_eq_true rfl)) d_P_make_37 ⟨Nat.le_of_ble_eq_true rfl, Nat.le_of_ble_eq_true rfl⟩) (fun r_37 hr_37 => ?_)
            rcases hr_37 with ⟨i2, hi2, hx2, hr2⟩ | ⟨hno2, hr2⟩
            · obtain ⟨a2, hwa2, q2, cA2, pl2, hPw2, hKw2, hpl2, hok2, hz2, hzq2⟩ := hall i2 hi2
              have hok2_ := hok2; obtain ⟨hh2, hp02, hp62, hE2⟩ := hok2_
              have ho2 := pw_o_le (Wd i2).2.2 (Wd i2).1 (Wd i2).2.1
              have hc2 := pw_c_le (Wd i2).2.2 (Wd i2).1
              rw [hx2] at hl
              refine pq_top (y := .ref a2) (by rw [hr2, hwa2]; rfl) ?_
              refine lv_goto (tgt := 45) hx hb d_P_make_40 (by decide) ?_
              refine lv_astore (lv' := [(5, .ref a2), (4, .ref a1), (0, .ref o), (1, .int (nI (0))), (2, .int (nI (i1))), (3, .int (nI (i2)))]) hx hb d_P_make_45 hl (by decide) rfl (fun ls hl => ?_)
              refine lv_aload hx hb d_P_make_47 (lv_at hl 1 rfl) ?_
              refine lv_ifnull hx hb d_P_make_49 ?_
              refine lv_aload hx hb d_P_make_52 (lv_at hl 0 rfl) ?_
              refine lv_ifnonnull (tgt := 59) hx hb d_P_make_54 (by decide) ?_
              refine lv_iload_n hx hb d_P_make_59 rfl (lv_at hl 3 rfl) ?_
              refine lv_bipush (v := nI 6) hx hb d_P_make_60 (by decide) ?_
              refine pq_icmp_ne (tgt := 77) (a := 0) (b := 6) hx hb d_P_make_62 (by decide) (by omega) (by omega) (fun c_62 => ?_) (fun c_62 => absurd c_62 (by omega))
              refine lv_iload_n hx hb d_P_make_77 rfl (lv_at hl 3 rfl) ?_
              refine lv_iconst (v := nI 5) hx hb d_P_make_78 (by decide) ?_
              refine pq_icmp_ne (tgt := 100) (a := 0) (b := 5) hx hb d_P_make_79 (by decide) (by omega) (by omega) (fun c_79 => ?_) (fun c_79 => absurd c_79 (by omega))
              refine lv_aload_n hx hb d_P_make_100 rfl (lv_at hl 2 rfl) ?_
              refine lv_iload_n hx hb d_P_make_101 rfl (lv_at hl 3 rfl) ?_
              refine lv_aload hx hb d_P_make_102 (lv_at hl 1 rfl) ?_
              refine lv_aload hx hb d_P_make_104 (lv_at hl 0 rfl) ?_
              refine lv_iload_n hx hb d_P_make_106 rfl (lv_at hl 5 rfl) ?_
              have hWW := hPw1.app hPw2
              have hKW := hKw1.app hKw2
              have hPc := hP.sub (ws' := []) [] rfl
              have hDc := hD.sub (ws' := []) [] (by decide) rfl
              have hKc := hK.sub (tys' := []) [] rfl
              have hFc := va_free (wc := []) hD hS hA [] rfl
              refine va_callr (va_runS (As := [.int (nI (0)), .ref a1, .ref a2, .int (nI (i2))]) (rest := [.ref o]) ⟨hx, hb, hml, hown, hts⟩ (c_P_draftOfX l dC dI (a := a1) (q := q1) (cA := cA1) (pl := pl1) (a2 := a2) (q2 := q2) (cA2 := cA2) (pl2 := pl2) hok1 hok2 hpl1 (how := 0) (zz := (nI (i2))) (by decide) (by decide) (fun z_ => absurd z_ (by decide))) (va_cwS 4 hts (gd_S mb_108 mb_109 mb_22 mb_110) rfl rfl rfl (by decide +kernel) ⟨Nat.le_of_ble_eq_true rfl, Nat.le_of_ble_eq_true rfl⟩) ⟨dr_blind, fun U hU hW => ⟨rfl, by rw [hU], by rw [hU]; exact hWW, va_K.moved hW.alike hKW⟩⟩ rfl rfl hl.1 rfl (lv_room (Nat.le_of_ble_eq_true rfl)) d_P_make_107 ⟨Nat.le_of_ble_eq_true rfl, Nat.le_of_ble_eq_true rfl⟩) hS (fun q _ h => hFc q h) hFc (fun u_107 r_107 t_ H1 locs ht_ hvm_ hr_107 hB_ hz1_ hk1_ hS => ?_)
              obtain ⟨hP1_, hK1_, hD1_⟩ := hB_
              rw [ht_] at hP1_
              obtain ⟨hP, hD⟩ := va_join (wr := [(o, .inr (ciP, [.ref q, .int (nI (n))])), (q, .inl (cW, 40, .inr (.inr (.inr (.inr wa)))))]) (w1 := [(r_107, .inr (ciD, [.int (nI (u_107.1)), .int (nI (u_107.2.1)), .int (nI (0)), .ref a1, .ref a2, .int (nI (u_107.2.2))]))]) hP hD [] [0, 1] rfl rfl (by decide) (by decide) hk1_ hFc hP1_ hD1_
              generalize H1 = H at hP hS hz1_ hk1_ ⊢
              have hP : va_P (dC, dI) vwCl [(o, .inr (ciP, [.ref q, .int (nI (n))])), (q, .inl (cW, 40, .inr (.inr (.inr (.inr wa))))), (r_107, .inr (ciD, [.int (nI (u_107.1)), .int (nI (u_107.2.1)), .int (nI (0)), .ref a1, .ref a2, .int (nI (u_107.2.2))]))] H := hP
              have hD : va_D A [(o, .inr (ciP, [.ref q, .int (nI (n))])), (q, .inl (cW, 40, .inr (.inr (.inr (.inr wa))))), (r_107, .inr (ciD, [.int (nI (u_107.1)), .int (nI (u_107.2.1)), .int (nI (0)), .ref a1, .ref a2, .int (nI (u_107.2.2))]))] := hD
              obtain ⟨⟨hd1, hd2, hd3, hd4, hd5⟩, hlt⟩ := hr_107
              have hPw1 := cs_wk hAe hoz hqz hS hz1 hzq1 hPw1
              have hPw2 := cs_wk hAe hoz hqz hS hz2 hzq2 hPw2
              have hPd := hP.sub (ws' := dr r_107 a1 a2 u_107.1 u_107.2.1 0 u_107.2.2) [2] rfl
              have hWW := hPd.app (hPw1.app hPw2)
              have hKW := hKw1.app hKw2
              have hSz := hS.1
              have hPc := hP.sub (ws' := []) [] rfl
              have hDc := hD.sub (ws' := []) [] (by decide) rfl
              have hKc := hK.sub (tys' := []) [] rfl
              have hFc := va_free (wc := []) hD hS hA [] rfl
              refine va_callq (va_runS (As := [.ref r_107]) (rest := [.ref o]) ⟨hx, hb, hml, hown, hts⟩ (c_P_shortestForm l dC dI (a := a1) (q := q1) (cA := cA1) (pl := pl1) (a2 := a2) (q2 := q2) (cA2 := cA2) (pl2 := pl2) hok1 hok2 hpl2 (dd := r_107) (hd := u_107.1) (rd := u_107.2.1) (how := 0) (late := u_107.2.2) (by decide) hd4 (fun z_ => absurd z_ (by decide)) hd1 hd2 hd3 hd5) (va_cwS 1 hts (gd_S mb_163 mb_164 mb_22 mb_165) rfl rfl rfl (by decide +kernel) ⟨Nat.le_of_ble_eq_true rfl, Nat.le_of_ble_eq_true rfl⟩) ⟨dr_blind, fun U hU hW => ⟨rfl, by rw [hU], by rw [hU]; exact hWW, va_K.moved hW.alike hKW⟩⟩ rfl rfl hl.1 rfl (lv_room (Nat.le_of_ble_eq_true rfl)) d_P_make_110 ⟨Nat.le_of_ble_eq_true rfl, Nat.le_of_ble_eq_true rfl⟩) hS (fun q _ h => hFc q h) hFc (fun r_110 u_110 t_ H1 locs ht_ hvm_ hr_110 hB_ hz1_ hk1_ hS => ?_)
              obtain ⟨hr1, hok1⟩ := hr_110
              rw [pw_mk_d (k := 0) (by decide) (Wd i1).2.2 (Wd i2).2.2 u_107.2.2 0] at hok1 hB_
              rcases u_110 with _ | ⟨a9, h9, p9, q9, cA9, pl9⟩
              · subst hr1
                obtain ⟨hP, hD⟩ := va_join (wr := [(o, .inr (ciP, [.ref q, .int (nI (n))])), (q, .inl (cW, 40, .inr (.inr (.inr (.inr wa))))), (r_107, .inr (ciD, [.int (nI (u_107.1)), .int (nI (u_107.2.1)), .int (nI (0)), .ref a1, .ref a2, .int (nI (u_107.2.2))]))]) (w1 := []) hP hD [] [0, 1, 2] rfl rfl (by decide) (by decide) hk1_ hFc pw_P0 pw_D0
                generalize H1 = H at hP hS ⊢
                have hP : va_P (dC, dI) vwCl [(o, .inr (ciP, [.ref q, .int (nI (n))])), (q, .inl (cW, 40, .inr (.inr (.inr (.inr wa))))), (r_107, .inr (ciD, [.int (nI (u_107.1)), .int (nI (u_107.2.1)), .int (nI (0)), .ref a1, .ref a2, .int (nI (u_107.2.2))]))] H := hP
                have hD : va_D A [(o, .inr (ciP, [.ref q, .int (nI (n))])), (q, .inl (cW, 40, .inr (.inr (.inr (.inr wa))))), (r_107, .inr (ciD, [.int (nI (u_107.1)), .int (nI (u_107.2.1)), .int (nI (0)), .ref a1, .ref a2, .int (nI (u_107.2.2))]))] := hD
                obtain ⟨h9, p9, hcan, h60⟩ := hok1
                refine pq_top (y := .null) rfl ?_
                refine vp_callSi (W.runV (As := [.null]) (rest := []) ⟨hx, hb, hml, hown, hts⟩ (c_P_keepN l dC dI (o := o) (q := q) (n := n) (cW := cW) (wa := wa)) (cwV 1 hts (gd_V mb_190 mb_192 mb_0 mb_22 mb_193) rfl rfl rfl (by decide +kernel) ⟨Nat.le_of_ble_eq_true rfl, Nat.le_of_ble_eq_true rfl⟩) (pw_R_V (va_recv hK hP (ci := ciP) (q0 := 0) rfl rfl) (hP.sub [0, 1] rfl) (hK.sub [0] rfl)) rfl rfl hl.1 rfl (lv_room (Nat.le_of_ble_eq_true rfl)) d_P_make_113 ⟨Nat.le_of_ble_eq_true rfl, Nat.le_of_ble_eq_true rfl⟩) (fun r_113 hr_113 => ?_)
                subst hr_113
                refine vx_ret ?_
                refine W.widen (k := 3) (n := 133) (by omega) (by omega) ?_
                exact W.iret (v := (-1)) hx hb hr (fun t_ ht_ hW_ => ⟨⟨_, (n, wa, Wd), rfl, Or.inl ⟨0, i1, i2, 0, ⟨hn40, by decide, rfl, hi1, hx1, fun _ => ⟨hi2, hx2⟩, fun z_ => absurd z_ (by decide), fun z_ => absurd (show sp_two 0 by unfold sp_two; decide) z_, fun _ => rfl⟩, fun z_ => absurd z_ (by decide), h9, p9, hcan, Or.inr ⟨h60, rfl, rfl, fun _ _ => rfl⟩⟩, by rw [ht_]; exact hP.sub [0, 1] rfl, va_K.moved hW_.alike (hK.sub [0] rfl), hD.sub [0, 1] (by decide) rfl, by rw [ht_]; exact wdAll.moved hW_.alike (cs_keep hAe hoz hqz hS hall)⟩, hS.F ht_⟩) hS.2.2 d_P_make_116
              · subst hr1
                obtain ⟨hcan, h60, p60, hpl9⟩ := hok1
                obtain ⟨hP1_, hK1_, hD1_⟩ := hB_
                rw [ht_] at hP1_
                have hK9 : va_K (dC, dI) vwCl [(cA9, .int)] s := va_K.moved hvm_.symm hK1_
                have hz9 : z0 ≤ a9 := Nat.le_trans hzs (Nat.le_trans hSz (pw_A0 (hD1_.2 0 _ rfl)))
                have hzq9 : z0 ≤ q9 := Nat.le_trans hzs (Nat.le_trans hSz (pw_A0 (hD1_.2 1 _ rfl)))
                obtain ⟨hP, hD⟩ := va_join (wr := [(o, .inr (ciP, [.ref q, .int (nI (n))])), (q, .inl (cW, 40, .inr (.inr (.inr (.inr wa))))), (r_107, .inr (ciD, [.int (nI (u_107.1)), .int (nI (u_107.2.1)), .int (nI (0)), .ref a1, .ref a2, .int (nI (u_107.2.2))]))]) (w1 := [(a9, .inr (ciW, [.int (nI (h9)), .long (lN (pw_b (pw_mk 0 (Wd i1).2.2 (Wd i2).2.2 0) 0 h9)), .int (nI (p9)), .long (lN (pw_b (pw_mk 0 (Wd i1).2.2 (Wd i2).2.2 0) h9 p9)), .int (nI (pw_c (pw_mk 0 (Wd i1).2.2 (Wd i2).2.2 0) h9)), .int (nI (pw_o (pw_mk 0 (Wd i1).2.2 (Wd i2).2.2 0) h9 p9)), .ref q9])), (q9, .inl (cA9, (pw_c (pw_mk 0 (Wd i1).2.2 (Wd i2).2.2 0) h9 + pw_o (pw_mk 0 (Wd i1).2.2 (Wd i2).2.2 0) h9 p9), .inl pl9))]) hP hD [] [0, 1, 2] rfl rfl (by decide) (by decide) hk1_ hFc hP1_ hD1_
                generalize H1 = H at hP hS ⊢
                have hP : va_P (dC, dI) vwCl [(o, .inr (ciP, [.ref q, .int (nI (n))])), (q, .inl (cW, 40, .inr (.inr (.inr (.inr wa))))), (r_107, .inr (ciD, [.int (nI (u_107.1)), .int (nI (u_107.2.1)), .int (nI (0)), .ref a1, .ref a2, .int (nI (u_107.2.2))])), (a9, .inr (ciW, [.int (nI (h9)), .long (lN (pw_b (pw_mk 0 (Wd i1).2.2 (Wd i2).2.2 0) 0 h9)), .int (nI (p9)), .long (lN (pw_b (pw_mk 0 (Wd i1).2.2 (Wd i2).2.2 0) h9 p9)), .int (nI (pw_c (pw_mk 0 (Wd i1).2.2 (Wd i2).2.2 0) h9)), .int (nI (pw_o (pw_mk 0 (Wd i1).2.2 (Wd i2).2.2 0) h9 p9)), .ref q9])), (q9, .inl (cA9, (pw_c (pw_mk 0 (Wd i1).2.2 (Wd i2).2.2 0) h9 + pw_o (pw_mk 0 (Wd i1).2.2 (Wd i2).2.2 0) h9 p9), .inl pl9))] H := hP
                have hD : va_D A [(o, .inr (ciP, [.ref q, .int (nI (n))])), (q, .inl (cW, 40, .inr (.inr (.inr (.inr wa))))), (r_107, .inr (ciD, [.int (nI (u_107.1)), .int (nI (u_107.2.1)), .int (nI (0)), .ref a1, .ref a2, .int (nI (u_107.2.2))])), (a9, .inr (ciW, [.int (nI (h9)), .long (lN (pw_b (pw_mk 0 (Wd i1).2.2 (Wd i2).2.2 0) 0 h9)), .int (nI (p9)), .long (lN (pw_b (pw_mk 0 (Wd i1).2.2 (Wd i2).2.2 0) h9 p9)), .int (nI (pw_c (pw_mk 0 (Wd i1).2.2 (Wd i2).2.2 0) h9)), .int (nI (pw_o (pw_mk 0 (Wd i1).2.2 (Wd i2).2.2 0) h9 p9)), .ref q9])), (q9, .inl (cA9, (pw_c (pw_mk 0 (Wd i1).2.2 (Wd i2).2.2 0) h9 + pw_o (pw_mk 0 (Wd i1).2.2 (Wd i2).2.2 0) h9 p9), .inl pl9))] := hD
                refine pq_top (y := .ref a9) rfl ?_
                have hPc := hP.sub (ws' := [(o, .inr (ciP, [.ref q, .int (nI (n))])), (q, .inl (cW, 40, .inr (.inr (.inr (.inr wa))))), (a9, .inr (ciW, [.int (nI (h9)), .long (lN (pw_b (pw_mk 0 (Wd i1).2.2 (Wd i2).2.2 0) 0 h9)), .int (nI (p9)), .long (lN (pw_b (pw_mk 0 (Wd i1).2.2 (Wd i2).2.2 0) h9 p9)), .int (nI (pw_c (pw_mk 0 (Wd i1).2.2 (Wd i2).2.2 0) h9)), .int (nI (pw_o (pw_mk 0 (Wd i1).2.2 (Wd i2).2.2 0) h9 p9)), .ref q9]))]) [0, 1, 3] rfl
                have hDc := hD.sub (ws' := [(o, .inr (ciP, [.ref q, .int (nI (n))])), (q, .inl (cW, 40, .inr (.inr (.inr (.inr wa))))), (a9, .inr (ciW, [.int (nI (h9)), .long (lN (pw_b (pw_mk 0 (Wd i1).2.2 (Wd i2).2.2 0) 0 h9)), .int (nI (p9)), .long (lN (pw_b (pw_mk 0 (Wd i1).2.2 (Wd i2).2.2 0) h9 p9)), .int (nI (pw_c (pw_mk 0 (Wd i1).2.2 (Wd i2).2.2 0) h9)), .int (nI (pw_o (pw_mk 0 (Wd i1).2.2 (Wd i2).2.2 0) h9 p9)), .ref q9]))]) [0, 1, 3] (by decide) rfl
                have hKc := hK.sub (tys' := [(cW, .object "PeriodWords$Word")]) [0] rfl
                have hFc := va_free (wc := [(o, .inr (ciP, [.ref q, .int (nI (n))])), (q, .inl (cW, 40, .inr (.inr (.inr (.inr wa))))), (a9, .inr (ciW, [.int (nI (h9)), .long (lN (pw_b (pw_mk 0 (Wd i1).2.2 (Wd i2).2.2 0) 0 h9)), .int (nI (p9)), .long (lN (pw_b (pw_mk 0 (Wd i1).2.2 (Wd i2).2.2 0) h9 p9)), .int (nI (pw_c (pw_mk 0 (Wd i1).2.2 (Wd i2).2.2 0) h9)), .int (nI (pw_o (pw_mk 0 (Wd i1).2.2 (Wd i2).2.2 0) h9 p9)), .ref q9]))]) hD hS hA [0, 1, 3] rfl
                refine va_calli (va_runV (As := [.ref a9]) (rest := []) ⟨hx, hb, hml, hown, hts⟩ (c_P_keep l dC dI (o := o) (q := q) (n := n) (cW := cW) (wa := wa) (a := a9) (h := h9) (pp := p9) (qq := q9) (f := (pw_mk 0 (Wd i1).2.2 (Wd i2).2.2 0)) hn40) (cwV 1 hts (gd_V mb_190 mb_192 mb_0 mb_22 mb_193) rfl rfl rfl (by decide +kernel) ⟨Nat.le_of_ble_eq_true rfl, Nat.le_of_ble_eq_true rfl⟩) ⟨md_blind, va_recv hK hP (ci := ciP) (q0 := 0) rfl rfl, fun U hU hW => ⟨rfl, by rw [hU], by rw [hU]; exact hPc, va_K.moved hW.alike hKc, hDc.weaken (fun _ _ _ _ => trivial)⟩⟩ rfl rfl hl.1 rfl (lv_room (Nat.le_of_ble_eq_true rfl)) d_P_make_113 ⟨Nat.le_of_ble_eq_true rfl, Nat.le_of_ble_eq_true rfl⟩) hS (fun q _ h => hFc q h) hFc (fun r_113 u_113 t_ H1 locs ht_ hvm_ hr_113 hB_ hz1_ hk1_ hS => ?_)
                obtain ⟨hra, hrb⟩ := hr_113
                subst hra
                subst hrb
                obtain ⟨hP1_, hK1_, hD1_⟩ := hB_
                rw [ht_] at hP1_
                obtain ⟨hP, hD⟩ := va_join (wr := [(r_107, .inr (ciD, [.int (nI (u_107.1)), .int (nI (u_107.2.1)), .int (nI (0)), .ref a1, .ref a2, .int (nI (u_107.2.2))])), (q9, .inl (cA9, (pw_c (pw_mk 0 (Wd i1).2.2 (Wd i2).2.2 0) h9 + pw_o (pw_mk 0 (Wd i1).2.2 (Wd i2).2.2 0) h9 p9), .inl pl9))]) (w1 := [(o, .inr (ciP, [.ref q, .int (nI (n + 1))])), (q, .inl (cW, 40, .inr (.inr (.inr (.inr (va_up wa n (some a9))))))), (a9, .inr (ciW, [.int (nI (h9)), .long (lN (pw_b (pw_mk 0 (Wd i1).2.2 (Wd i2).2.2 0) 0 h9)), .int (nI (p9)), .long (lN (pw_b (pw_mk 0 (Wd i1).2.2 (Wd i2).2.2 0) h9 p9)), .int (nI (pw_c (pw_mk 0 (Wd i1).2.2 (Wd i2).2.2 0) h9)), .int (nI (pw_o (pw_mk 0 (Wd i1).2.2 (Wd i2).2.2 0) h9 p9)), .ref q9]))]) hP hD [0, 1, 3] [2, 4] rfl rfl (by decide) (by decide) hk1_ hFc hP1_ hD1_
                generalize H1 = H at hP hS ⊢
                have hP : va_P (dC, dI) vwCl [(r_107, .inr (ciD, [.int (nI (u_107.1)), .int (nI (u_107.2.1)), .int (nI (0)), .ref a1, .ref a2, .int (nI (u_107.2.2))])), (q9, .inl (cA9, (pw_c (pw_mk 0 (Wd i1).2.2 (Wd i2).2.2 0) h9 + pw_o (pw_mk 0 (Wd i1).2.2 (Wd i2).2.2 0) h9 p9), .inl pl9)), (o, .inr (ciP, [.ref q, .int (nI (n + 1))])), (q, .inl (cW, 40, .inr (.inr (.inr (.inr (va_up wa n (some a9))))))), (a9, .inr (ciW, [.int (nI (h9)), .long (lN (pw_b (pw_mk 0 (Wd i1).2.2 (Wd i2).2.2 0) 0 h9)), .int (nI (p9)), .long (lN (pw_b (pw_mk 0 (Wd i1).2.2 (Wd i2).2.2 0) h9 p9)), .int (nI (pw_c (pw_mk 0 (Wd i1).2.2 (Wd i2).2.2 0) h9)), .int (nI (pw_o (pw_mk 0 (Wd i1).2.2 (Wd i2).2.2 0) h9 p9)), .ref q9]))] H := hP
                have hD : va_D A [(r_107, .inr (ciD, [.int (nI (u_107.1)), .int (nI (u_107.2.1)), .int (nI (0)), .ref a1, .ref a2, .int (nI (u_107.2.2))])), (q9, .inl (cA9, (pw_c (pw_mk 0 (Wd i1).2.2 (Wd i2).2.2 0) h9 + pw_o (pw_mk 0 (Wd i1).2.2 (Wd i2).2.2 0) h9 p9), .inl pl9)), (o, .inr (ciP, [.ref q, .int (nI (n + 1))])), (q, .inl (cW, 40, .inr (.inr (.inr (.inr (va_up wa n (some a9))))))), (a9, .inr (ciW, [.int (nI (h9)), .long (lN (pw_b (pw_mk 0 (Wd i1).2.2 (Wd i2).2.2 0) 0 h9)), .int (nI (p9)), .long (lN (pw_b (pw_mk 0 (Wd i1).2.2 (Wd i2).2.2 0) h9 p9)), .int (nI (pw_c (pw_mk 0 (Wd i1).2.2 (Wd i2).2.2 0) h9)), .int (nI (pw_o (pw_mk 0 (Wd i1).2.2 (Wd i2).2.2 0) h9 p9)), .ref q9]))] := hD
                refine vx_ret ?_
                refine W.widen (k := 3) (n := 133) (by omega) (by omega) ?_
                exact W.iret (v := (nI (n))) hx hb hr (fun t_ ht_ hW_ => ⟨⟨_, (n + 1, va_up wa n (some a9), fun i => if i = n then (h9, p9, (pw_mk 0 (Wd i1).2.2 (Wd i2).2.2 0)) else Wd i), rfl, Or.inl ⟨0, i1, i2, 0, ⟨hn40, by decide, rfl, hi1, hx1, fun _ => ⟨hi2, hx2⟩, fun z_ => absurd z_ (by decide), fun z_ => absurd (show sp_two 0 by unfold sp_two; decide) z_, fun _ => rfl⟩, fun z_ => absurd z_ (by decide), h9, p9, hcan, Or.inl ⟨h60, p60, rfl, rfl, if_pos rfl, fun i hi => if_neg (Nat.ne_of_lt hi)⟩⟩, by rw [ht_]; exact hP.sub [2, 3] rfl, va_K.moved hW_.alike (hK.sub [0] rfl), hD.sub [2, 3] (by decide) rfl, by rw [ht_]; exact wdAll.moved hW_.alike (cs_new (cs_keep hAe hoz hqz hS hall) ⟨q9, cA9, pl9, hP.sub [4, 1] rfl, hK9, hpl9, ⟨h60, hcan.1, p60, hcan.2.1⟩, hz9, hzq9⟩)⟩, hS.F ht_⟩) hS.2.2 d_P_make_116
            · refine pq_top (y := .null) (by rw [hr2]; rfl) ?_
              refine lv_goto (tgt := 45) hx hb d_P_make_40 (by decide) ?_
              refine lv_astoreN (lv' := [(5, .null), (4, .ref a1), (0, .ref o), (1, .int (nI (0))), (2, .int (nI (i1))), (3, .int (z))]) hx hb d_P_make_45 hl (by decide) rfl (fun ls hl => ?_)
              refine lv_aload hx hb d_P_make_47 (lv_at hl 1 rfl) ?_
              refine lv_ifnull hx hb d_P_make_49 ?_
              refine lv_aloadN hx hb d_P_make_52 (lv_at hl 0 rfl) ?_
              refine lv_ifnonnullN hx hb d_P_make_54 ?_
              refine lv_iconst (v := (-1)) hx hb d_P_make_57 (by decide) ?_
              refine vx_ret ?_
              refine W.widen (k := 3) (n := 133) (by omega) (by omega) ?_
              exact W.iret (v := (-1)) hx hb hr (fun t_ ht_ hW_ => ⟨⟨_, (n, wa, Wd), rfl, Or.inr ⟨fun ⟨k, i, j, d, w_⟩ => by have e_ := sp_mk_u (by decide) w_; subst e_; exact hno2 ⟨j, w_.2.2.2.2.2.1 (by unfold sp_two; decide)⟩, rfl, rfl, fun _ _ => rfl⟩, by rw [ht_]; exact hP.sub [0, 1] rfl, va_K.moved hW_.alike (hK.sub [0] rfl), hD.sub [0, 1] (by decide) rfl, by rw [ht_]; exact wdAll.moved hW_.alike (cs_keep hAe hoz hqz hS hall)⟩, hS.F ht_⟩) hS.2.2 d_P_make_58
          · refine pq_top (y := .null) (by rw [hr1]; rfl) ?_
            refine lv_astoreN (lv' := [(4, .null), (0, .ref o), (1, .int (nI (0))), (2, .int (y)), (3, .int (z))]) hx hb d_P_make_26 hl (by decide) rfl (fun ls hl => ?_)
            refine lv_iload_n hx hb d_P_make_28 rfl (lv_at hl 2 rfl) ?_
            refine vp_callSi (W.runS (As := [.int (nI (0))]) (rest := []) ⟨hx, hb, hml, hown, hts⟩ (c_P_needsTwo l dC dI (how := 0) (by decide)) (va_cwS 1 hts (gd_S mb_252 mb_253 mb_22 mb_254) rfl rfl rfl (by decide +kernel) ⟨Nat.le_of_ble_eq_true rfl, Nat.le_of_ble_eq_true rfl⟩) (pw_R_S pw_P0 (hK.sub [] rfl)) rfl rfl hl.1 rfl (lv_room (Nat.le_of_ble_eq_true rfl)) d_P_make_29 ⟨Nat.le_of_ble_eq_true rfl, Nat.le_of_ble_eq_true rfl⟩) (fun r_29 hr_29 => ?_)
            subst hr_29
            refine pq_top (y := .int (nI (1))) (by first | rfl | decide) ?_
            refine pq_if_eq (tgt := 43) (a := 1) hx hb d_P_make_32 (by decide) (by omega) (fun c_32 => absurd c_32 (by omega)) (fun c_32 => ?_)
            refine lv_aload_n hx hb d_P_make_35 rfl (lv_at hl 1 rfl) ?_
            refine lv_iload_n hx hb d_P_make_36 rfl (lv_at hl 4 rfl) ?_
            refine va_csq (W.runV (As := [.int (z)]) (rest := []) ⟨hx, hb, hml, hown, hts⟩ (c_P_find l dC dI hn (x := z)) (cwV 1 hts (gd_V mb_198 mb_200 mb_1 mb_22 mb_201) rfl rfl rfl (by decide +kernel) ⟨Nat.le_of_ble_eq_true rfl, Nat.le_of_ble_eq_true rfl⟩) (pw_R_V (va_recv hK hP (ci := ciP) (q0 := 0) rfl rfl) hP hK) rfl rfl hl.1 rfl (lv_room (Nat.le_of_ble_eq_true rfl)) d_P_make_37 ⟨Nat.le_of_ble_eq_true rfl, Nat.le_of_ble_eq_true rfl⟩) (fun r_37 hr_37 => ?_)
            rcases hr_37 with ⟨i2, hi2, hx2, hr2⟩ | ⟨hno2, hr2⟩
            · obtain ⟨a2, hwa2, q2, cA2, pl2, hPw2, hKw2, hpl2, hok2, hz2, hzq2⟩ := hall i2 hi2
              have hok2_ := hok2; obtain ⟨hh2, hp02, hp62, hE2⟩ := hok2_
              have ho2 := pw_o_le (Wd i2).2.2 (Wd i2).1 (Wd i2).2.1
              have hc2 := pw_c_le (Wd i2).2.2 (Wd i2).1
              rw [hx2] at hl
              refine pq_top (y := .ref a2) (by rw [hr2, hwa2]; rfl) ?_
              refine lv_goto (tgt := 45) hx hb d_P_make_40 (by decide) ?_
              refine lv_astore (lv' := [(5, .ref a2), (4, .null), (0, .ref o), (1, .int (nI (0))), (2, .int (y)), (3, .int (nI (i2)))]) hx hb d_P_make_45 hl (by decide) rfl (fun ls hl => ?_)
              refine lv_aloadN hx hb d_P_make_47 (lv_at hl 1 rfl) ?_
              refine lv_ifnullN (tgt := 57) hx hb d_P_make_49 (by decide) ?_
              refine lv_iconst (v := (-1)) hx hb d_P_make_57 (by decide) ?_
              refine vx_ret ?_
              refine W.widen (k := 3) (n := 133) (by omega) (by omega) ?_
              exact W.iret (v := (-1)) hx hb hr (fun t_ ht_ hW_ => ⟨⟨_, (n, wa, Wd), rfl, Or.inr ⟨fun ⟨k, i, j, d, w_⟩ => hno1 ⟨i, w_.2.2.2.1, w_.2.2.2.2.1⟩, rfl, rfl, fun _ _ => rfl⟩, by rw [ht_]; exact hP.sub [0, 1] rfl, va_K.moved hW_.alike (hK.sub [0] rfl), hD.sub [0, 1] (by decide) rfl, by rw [ht_]; exact wdAll.moved hW_.alike (cs_keep hAe hoz hqz hS hall)⟩, hS.F ht_⟩) hS.2.2 d_P_make_58
            · refine pq_top (y := .null) (by rw [hr2]; rfl) ?_
              refine lv_goto (tgt := 45) hx hb d_P_make_40 (by decide) ?_
              refine lv_astoreN (lv' := [(5, .null), (4, .null), (0, .ref o), (1, .int (nI (0))), (2, .int (y)), (3, .int (z))]) hx hb d_P_make_45 hl (by decide) rfl (fun ls hl => ?_)
              refine lv_aloadN hx hb d_P_make_47 (lv_at hl 1 rfl) ?_
              refine lv_ifnullN (tgt := 57) hx hb d_P_make_49 (by decide) ?_
              refine lv_iconst (v := (-1)) hx hb d_P_make_57 (by decide) ?_
              refine vx_ret ?_
              refine W.widen (k := 3) (n := 133) (by omega) (by omega) ?_
              exact W.iret (v := (-1)) hx hb hr (fun t_ ht_ hW_ => ⟨⟨_, (n, wa, Wd), rfl, Or.inr ⟨fun ⟨k, i, j, d, w_⟩ => hno1 ⟨i, w_.2.2.2.1, w_.2.2.2.2.1⟩, rfl, rfl, fun _ _ => rfl⟩, by rw [ht_]; exact hP.sub [0, 1] rfl, va_K.moved hW_.alike (hK.sub [0] rfl), hD.sub [0, 1] (by decide) rfl, by rw [ht_]; exact wdAll.moved hW_.alike (cs_keep hAe hoz hqz hS hall)⟩, hS.F ht_⟩) hS.2.2 d_P_make_58
        · refine lv_aload_n hx hb d_P_make_21 rfl (lv_at hl 0 rfl) ?_
          refine lv_iload_n hx hb d_P_make_22 rfl (lv_at hl 2 rfl) ?_
          refine va_csq (W.runV (As := [.int (y)]) (rest := []) ⟨hx, hb, hml, hown, hts⟩ (c_P_find l dC dI hn (x := y)) (cwV 1 hts (gd_V mb_198 mb_200 mb_1 mb_22 mb_201) rfl rfl rfl (by decide +kernel) ⟨Nat.le_of_ble_eq_true rfl, Nat.le_of_ble_eq_true rfl⟩) (pw_R_V (va_recv hK hP (ci := ciP) (q0 := 0) rfl rfl) hP hK) rfl rfl hl.1 rfl (lv_room (Nat.le_of_ble_eq_true rfl)) d_P_make_23 ⟨Nat.le_of_ble_eq_true rfl, Nat.le_of_ble_eq_true rfl⟩) (fun r_23 hr_23 => ?_)
          rcases hr_23 with ⟨i1, hi1, hx1, hr1⟩ | ⟨hno1, hr1⟩
          · obtain ⟨a1, hwa1, q1, cA1, pl1, hPw1, hKw1, hpl1, hok1, hz1, hzq1⟩ := hall i1 hi1
            have hok1_ := hok1; obtain ⟨hh1, hp01, hp61, hE1⟩ := hok1_
            have ho1 := pw_o_le (Wd i1).2.2 (Wd i1).1 (Wd i1).2.1
            have hc1 := pw_c_le (Wd i1).2.2 (Wd i1).1
            rw [hx1] at hl
            refine pq_top (y := .ref a1) (by rw [hr1, hwa1]; rfl) ?_
            refine lv_astore (lv' := [(4, .ref a1), (0, .ref o), (1, .int (nI (1))), (2, .int (nI (i1))), (3, .int (z))]) hx hb d_P_make_26 hl (by decide) rfl (fun ls hl => ?_)
            refine lv_iload_n hx hb d_P_make_28 rfl (lv_at hl 2 rfl) ?_
            refine vp_callSi (W.runS (As := [.int (nI (1))]) (rest := []) ⟨hx, hb, hml, hown, hts⟩ (c_P_needsTwo l dC dI (how := 1) (by decide)) (va_cwS 1 hts (gd_S mb_252 mb_253 mb_22 mb_254) rfl rfl rfl (by decide +kernel) ⟨Nat.le_of_ble_eq_true rfl, Nat.le_of_ble_eq_true rfl⟩) (pw_R_S pw_P0 (hK.sub [] rfl)) rfl rfl hl.1 rfl (lv_room (Nat.le_of_ble_eq_true rfl)) d_P_make_29 ⟨Nat.le_of_ble_eq_true rfl, Nat.le_of_ble_eq_true rfl⟩) (fun r_29 hr_29 => ?_)
            subst hr_29
            refine pq_top (y := .int (nI (1))) (by first | rfl | decide) ?_
            refine pq_if_eq (tgt := 43) (a := 1) hx hb d_P_make_32 (by decide) (by omega) (fun c_32 => absurd c_32 (by omega)) (fun c_32 => ?_)
            refine lv_aload_n hx hb d_P_make_35 rfl (lv_at hl 1 rfl) ?_
            refine lv_iload_n hx hb d_P_make_36 rfl (lv_at hl 4 rfl) ?_
            refine va_csq (W.runV (As := [.int (z)]) (rest := []) ⟨hx, hb, hml, hown, hts⟩ (c_P_find l dC dI hn (x := z)) (cwV 1 hts (gd_V mb_198 mb_200 mb_1 mb_22 mb_201) rfl rfl rfl (by decide +kernel) ⟨Nat.le_of_ble_eq_true rfl, Nat.le_of_ble_eq_true rfl⟩) (pw_R_V (va_recv hK hP (ci := ciP) (q0 := 0) rfl rfl) hP hK) rfl rfl hl.1 rfl (lv_room (Nat.le_of_ble_eq_true rfl)) d_P_make_37 ⟨Nat.le_of_ble_eq_true rfl, Nat.le_of_ble_eq_true rfl⟩) (fun r_37 hr_37 => ?_)
            rcases hr_37 with ⟨i2, hi2, hx2, hr2⟩ | ⟨hno2, hr2⟩
            · obtain ⟨a2, hwa2, q2, cA2, pl2, hPw2, hKw2, hpl2, hok2, hz2, hzq2⟩ := hall i2 hi2
              have hok2_ := hok2; obtain ⟨hh2, hp02, hp62, hE2⟩ := hok2_
              have ho2 := pw_o_le (Wd i2).2.2 (Wd i2).1 (Wd i2).2.1
              have hc2 := pw_c_le (Wd i2).2.2 (Wd i2).1
              rw [hx2] at hl
              refine pq_top (y := .ref a2) (by rw [hr2, hwa2]; rfl) ?_
              refine lv_goto (tgt := 45) hx hb d_P_make_40 (by decide) ?_
              refine lv_astore (lv' := [(5, .ref a2), (4, .ref a1), (0, .ref o), (1, .int (nI (1))), (2, .int (nI (i1))), (3, .int (nI (i2)))]) hx hb d_P_make_45 hl (by decide) rfl (fun ls hl => ?_)
              refine lv_aload hx hb d_P_make_47 (lv_at hl 1 rfl) ?_
              refine lv_ifnull hx hb d_P_make_49 ?_
              refine lv_aload hx hb d_P_make_52 (lv_at hl 0 rfl) ?_
              refine lv_ifnonnull (tgt := 59) hx hb d_P_make_54 (by decide) ?_
              refine lv_iload_n hx hb d_P_make_59 rfl (lv_at hl 3 rfl) ?_
              refine lv_bipush (v := nI 6) hx hb d_P_make_60 (by decide) ?_
              refine pq_icmp_ne (tgt := 77) (a := 1) (b := 6) hx hb d_P_make_62 (by decide) (by omega) (by omega) (fun c_62 => ?_) (fun c_62 => absurd c_62 (by omega))
              refine lv_iload_n hx hb d_P_make_77 rfl (lv_at hl 3 rfl) ?_
              refine lv_iconst (v := nI 5) hx hb d_P_make_78 (by decide) ?_
              refine pq_icmp_ne (tgt := 100) (a := 1) (b := 5) hx hb d_P_make_79 (by decide) (by omega) (by omega) (fun c_79 => ?_) (fun c_79 => absurd c_79 (by omega))
              refine lv_aload_n hx hb d_P_make_100 rfl (lv_at hl 2 rfl) ?_
              refine lv_iload_n hx hb d_P_make_101 rfl (lv_at hl 3 rfl) ?_
              refine lv_aload hx hb d_P_make_102 (lv_at hl 1 rfl) ?_
              refine lv_aload hx hb d_P_make_104 (lv_at hl 0 rfl) ?_
              refine lv_iload_n hx hb d_P_make_106 rfl (lv_at hl 5 rfl) ?_
              have hWW := hPw1.app hPw2
              have hKW := hKw1.app hKw2
              have hPc := hP.sub (ws' := []) [] rfl
              have hDc := hD.sub (ws' := []) [] (by decide) rfl
              have hKc := hK.sub (tys' := []) [] rfl
              have hFc := va_free (wc := []) hD hS hA [] rfl
              refine va_callr (va_runS (As := [.int (nI (1)), .ref a1, .ref a2, .int (nI (i2))]) (rest := [.ref o]) ⟨hx, hb, hml, hown, hts⟩ (c_P_draftOfX l dC dI (a := a1) (q := q1) (cA := cA1) (pl := pl1) (a2 := a2) (q2 := q2) (cA2 := cA2) (pl2 := pl2) hok1 hok2 hpl1 (how := 1) (zz := (nI (i2))) (by decide) (by decide) (fun z_ => absurd z_ (by decide))) (va_cwS 4 hts (gd_S mb_108 mb_109 mb_22 mb_110) rfl rfl rfl (by decide +kernel) ⟨Nat.le_of_ble_eq_true rfl, Nat.le_of_ble_eq_true rfl⟩) ⟨dr_blind, fun U hU hW => ⟨rfl, by rw [hU], by rw [hU]; exact hWW, va_K.moved hW.alike hKW⟩⟩ rfl rfl hl.1 rfl (lv_room (Nat.le_of_ble_eq_true rfl)) d_P_make_107 ⟨Nat.le_of_ble_eq_true rfl, Nat.le_of_ble_eq_true rfl⟩) hS (fun q _ h => hFc q h) hFc (fun u_107 r_107 t_ H1 locs ht_ hvm_ hr_107 hB_ hz1_ hk1_ hS => ?_)
              obtain ⟨hP1_, hK1_, hD1_⟩ := hB_
              rw [ht_] at hP1_
              obtain ⟨hP, hD⟩ := va_join (wr := [(o, .inr (ciP, [.ref q, .int (nI (n))])), (q, .inl (cW, 40, .inr (.inr (.inr (.inr wa)))))]) (w1 := [(r_107, .inr (ciD, [.int (nI (u_107.1)), .int (nI (u_107.2.1)), .int (nI (1)), .ref a1, .ref a2, .int (nI (u_107.2.2))]))]) hP hD [] [0, 1] rfl rfl (by decide) (by decide) hk1_ hFc hP1_ hD1_
              generalize H1 = H at hP hS hz1_ hk1_ ⊢
              have hP : va_P (dC, dI) vwCl [(o, .inr (ciP, [.ref q, .int (nI (n))])), (q, .inl (cW, 40, .inr (.inr (.inr (.inr wa))))), (r_107, .inr (ciD, [.int (nI (u_107.1)), .int (nI (u_107.2.1)), .int (nI (1)), .ref a1, .ref a2, .int (nI (u_107.2.2))]))] H := hP
              have hD : va_D A [(o, .inr (ciP, [.ref q, .int (nI (n))])), (q, .inl (cW, 40, .inr (.inr (.inr (.inr wa))))), (r_107, .inr (ciD, [.int (nI (u_107.1)), .int (nI (u_107.2.1)), .int (nI (1)), .ref a1, .ref a2, .int (nI (u_107.2.2))]))] := hD
              obtain ⟨⟨hd1, hd2, hd3, hd4, hd5⟩, hlt⟩ := hr_107
              have hPw1 := cs_wk hAe hoz hqz hS hz1 hzq1 hPw1
              have hPw2 := cs_wk hAe hoz hqz hS hz2 hzq2 hPw2
              have hPd := hP.sub (ws' := dr r_107 a1 a2 u_107.1 u_107.2.1 1 u_107.2.2) [2] rfl
              have hWW := hPd.app (hPw1.app hPw2)
              have hKW := hKw1.app hKw2
              have hSz := hS.1
              have hPc := hP.sub (ws' := []) [] rfl
              have hDc := hD.sub (ws' := []) [] (by decide) rfl
              have hKc := hK.sub (tys' := []) [] rfl
              have hFc := va_free (wc := []) hD hS hA [] rfl
              refine va_callq (va_runS (As := [.ref r_107]) (rest := [.ref o]) ⟨hx, hb, hml, hown, hts⟩ (c_P_shortestForm l dC dI (a := a1) (q := q1) (cA := cA1) (pl := pl1) (a2 := a2) (q2 := q2) (cA2 := cA2) (pl2 := pl2) hok1 hok2 hpl2 (dd := r_107) (hd := u_107.1) (rd := u_107.2.1) (how := 1) (late := u_107.2.2) (by decide) hd4 (fun z_ => absurd z_ (by decide)) hd1 hd2 hd3 hd5) (va_cwS 1 hts (gd_S mb_163 mb_164 mb_22 mb_165) rfl rfl rfl (by decide +kernel) ⟨Nat.le_of_ble_eq_true rfl, Nat.le_of_ble_eq_true rfl⟩) ⟨dr_blind, fun U hU hW => ⟨rfl, by rw [hU], by rw [hU]; exact hWW, va_K.moved hW.alike hKW⟩⟩ rfl rfl hl.1 rfl (lv_room (Nat.le_of_ble_eq_true rfl)) d_P_make_110 ⟨Nat.le_of_ble_eq_true rfl, Nat.le_of_ble_eq_true rfl⟩) hS (fun q _ h => hFc q h) hFc (fun r_110 u_110 t_ H1 locs ht_ hvm_ hr_110 hB_ hz1_ hk1_ hS => ?_)
              obtain ⟨hr1, hok1⟩ := hr_110
              rw [pw_mk_d (k := 1) (by decide) (Wd i1).2.2 (Wd i2).2.2 u_107.2.2 0] at hok1 hB_
              rcases u_110 with _ | ⟨a9, h9, p9, q9, cA9, pl9⟩
              · subst hr1
                obtain ⟨hP, hD⟩ := va_join (wr := [(o, .inr (ciP, [.ref q, .int (nI (n))])), (q, .inl (cW, 40, .inr (.inr (.inr (.inr wa))))), (r_107, .inr (ciD, [.int (nI (u_107.1)), .int (nI (u_107.2.1)), .int (nI (1)), .ref a1, .ref a2, .int (nI (u_107.2.2))]))]) (w1 := []) hP hD [] [0, 1, 2] rfl rfl (by decide) (by decide) hk1_ hFc pw_P0 pw_D0
                generalize H1 = H at hP hS ⊢
                have hP : va_P (dC, dI) vwCl [(o, .inr (ciP, [.ref q, .int (nI (n))])), (q, .inl (cW, 40, .inr (.inr (.inr (.inr wa))))), (r_107, .inr (ciD, [.int (nI (u_107.1)), .int (nI (u_107.2.1)), .int (nI (1)), .ref a1, .ref a2, .int (nI (u_107.2.2))]))] H := hP
                have hD : va_D A [(o, .inr (ciP, [.ref q, .int (nI (n))])), (q, .inl (cW, 40, .inr (.inr (.inr (.inr wa))))), (r_107, .inr (ciD, [.int (nI (u_107.1)), .int (nI (u_107.2.1)), .int (nI (1)), .ref a1, .ref a2, .int (nI (u_107.2.2))]))] := hD
                obtain ⟨h9, p9, hcan, h60⟩ := hok1
                refine pq_top (y := .null) rfl ?_
                refine vp_callSi (W.runV (As := [.null]) (rest := []) ⟨hx, hb, hml, hown, hts⟩ (c_P_keepN l dC dI (o := o) (q := q) (n := n) (cW := cW) (wa := wa)) (cwV 1 hts (gd_V mb_190 mb_192 mb_0 mb_22 mb_193) rfl rfl rfl (by decide +kernel) ⟨Nat.le_of_ble_eq_true rfl, Nat.le_of_ble_eq_true rfl⟩) (pw_R_V (va_recv hK hP (ci := ciP) (q0 := 0) rfl rfl) (hP.sub [0, 1] rfl) (hK.sub [0] rfl)) rfl rfl hl.1 rfl (lv_room (Nat.le_of_ble_eq_true rfl)) d_P_make_113 ⟨Nat.le_of_ble_eq_true rfl, Nat.le_of_ble_eq_true rfl⟩) (fun r_113 hr_113 => ?_)
                subst hr_113
                refine vx_ret ?_
                refine W.widen (k := 3) (n := 133) (by omega) (by omega) ?_
                exact W.iret (v := (-1)) hx hb hr (fun t_ ht_ hW_ => ⟨⟨_, (n, wa, Wd), rfl, Or.inl ⟨1, i1, i2, 0, ⟨hn40, by decide, rfl, hi1, hx1, fun _ => ⟨hi2, hx2⟩, fun z_ => absurd z_ (by decide), fun z_ => absurd (show sp_two 1 by unfold sp_two; decide) z_, fun _ => rfl⟩, fun z_ => absurd z_ (by decide), h9, p9, hcan, Or.inr ⟨h60, rfl, rfl, fun _ _ => rfl⟩⟩, by rw [ht_]; exact hP.sub [0, 1] rfl, va_K.moved hW_.alike (hK.sub [0] rfl), hD.sub [0, 1] (by decide) rfl, by rw [ht_]; exact wdAll.moved hW_.alike (cs_keep hAe hoz hqz hS hall)⟩, hS.F ht_⟩) hS.2.2 d_P_make_116
              · subst hr1
                obtain ⟨hcan, h60, p60, hpl9⟩ := hok1
                obtain ⟨hP1_, hK1_, hD1_⟩ := hB_
                rw [ht_] at hP1_
                have hK9 : va_K (dC, dI) vwCl [(cA9, .int)] s := va_K.moved hvm_.symm hK1_
                have hz9 : z0 ≤ a9 := Nat.le_trans hzs (Nat.le_trans hSz (pw_A0 (hD1_.2 0 _ rfl)))
                have hzq9 : z0 ≤ q9 := Nat.le_trans hzs (Nat.le_trans hSz (pw_A0 (hD1_.2 1 _ rfl)))
                obtain ⟨hP, hD⟩ := va_join (wr := [(o, .inr (ciP, [.ref q, .int (nI (n))])), (q, .inl (cW, 40, .inr (.inr (.inr (.inr wa))))), (r_107, .inr (ciD, [.int (nI (u_107.1)), .int (nI (u_107.2.1)), .int (nI (1)), .ref a1, .ref a2, .int (nI (u_107.2.2))]))]) (w1 := [(a9, .inr (ciW, [.int (nI (h9)), .long (lN (pw_b (pw_mk 1 (Wd i1).2.2 (Wd i2).2.2 0) 0 h9)), .int (nI (p9)), .long (lN (pw_b (pw_mk 1 (Wd i1).2.2 (Wd i2).2.2 0) h9 p9)), .int (nI (pw_c (pw_mk 1 (Wd i1).2.2 (Wd i2).2.2 0) h9)), .int (nI (pw_o (pw_mk 1 (Wd i1).2.2 (Wd i2).2.2 0) h9 p9)), .ref q9])), (q9, .inl (cA9, (pw_c (pw_mk 1 (Wd i1).2.2 (Wd i2).2.2 0) h9 + pw_o (pw_mk 1 (Wd i1).2.2 (Wd i2).2.2 0) h9 p9), .inl pl9))]) hP hD [] [0, 1, 2] rfl rfl (by decide) (by decide) hk1_ hFc hP1_ hD1_
                generalize H1 = H at hP hS ⊢
                have hP : va_P (dC, dI) vwCl [(o, .inr (ciP, [.ref q, .int (nI (n))])), (q, .inl (cW, 40, .inr (.inr (.inr (.inr wa))))), (r_107, .inr (ciD, [.int (nI (u_107.1)), .int (nI (u_107.2.1)), .int (nI (1)), .ref a1, .ref a2, .int (nI (u_107.2.2))])), (a9, .inr (ciW, [.int (nI (h9)), .long (lN (pw_b (pw_mk 1 (Wd i1).2.2 (Wd i2).2.2 0) 0 h9)), .int (nI (p9)), .long (lN (pw_b (pw_mk 1 (Wd i1).2.2 (Wd i2).2.2 0) h9 p9)), .int (nI (pw_c (pw_mk 1 (Wd i1).2.2 (Wd i2).2.2 0) h9)), .int (nI (pw_o (pw_mk 1 (Wd i1).2.2 (Wd i2).2.2 0) h9 p9)), .ref q9])), (q9, .inl (cA9, (pw_c (pw_mk 1 (Wd i1).2.2 (Wd i2).2.2 0) h9 + pw_o (pw_mk 1 (Wd i1).2.2 (Wd i2).2.2 0) h9 p9), .inl pl9))] H := hP
                have hD : va_D A [(o, .inr (ciP, [.ref q, .int (nI (n))])), (q, .inl (cW, 40, .inr (.inr (.inr (.inr wa))))), (r_107, .inr (ciD, [.int (nI (u_107.1)), .int (nI (u_107.2.1)), .int (nI (1)), .ref a1, .ref a2, .int (nI (u_107.2.2))])), (a9, .inr (ciW, [.int (nI (h9)), .long (lN (pw_b (pw_mk 1 (Wd i1).2.2 (Wd i2).2.2 0) 0 h9)), .int (nI (p9)), .long (lN (pw_b (pw_mk 1 (Wd i1).2.2 (Wd i2).2.2 0) h9 p9)), .int (nI (pw_c (pw_mk 1 (Wd i1).2.2 (Wd i2).2.2 0) h9)), .int (nI (pw_o (pw_mk 1 (Wd i1).2.2 (Wd i2).2.2 0) h9 p9)), .ref q9])), (q9, .inl (cA9, (pw_c (pw_mk 1 (Wd i1).2.2 (Wd i2).2.2 0) h9 + pw_o (pw_mk 1 (Wd i1).2.2 (Wd i2).2.2 0) h9 p9), .inl pl9))] := hD
                refine pq_top (y := .ref a9) rfl ?_
                have hPc := hP.sub (ws' := [(o, .inr (ciP, [.ref q, .int (nI (n))])), (q, .inl (cW, 40, .inr (.inr (.inr (.inr wa))))), (a9, .inr (ciW, [.int (nI (h9)), .long (lN (pw_b (pw_mk 1 (Wd i1).2.2 (Wd i2).2.2 0) 0 h9)), .int (nI (p9)), .long (lN (pw_b (pw_mk 1 (Wd i1).2.2 (Wd i2).2.2 0) h9 p9)), .int (nI (pw_c (pw_mk 1 (Wd i1).2.2 (Wd i2).2.2 0) h9)), .int (nI (pw_o (pw_mk 1 (Wd i1).2.2 (Wd i2).2.2 0) h9 p9)), .ref q9]))]) [0, 1, 3] rfl
                have hDc := hD.sub (ws' := [(o, .inr (ciP, [.ref q, .int (nI (n))])), (q, .inl (cW, 40, .inr (.inr (.inr (.inr wa))))), (a9, .inr (ciW, [.int (nI (h9)), .long (lN (pw_b (pw_mk 1 (Wd i1).2.2 (Wd i2).2.2 0) 0 h9)), .int (nI (p9)), .long (lN (pw_b (pw_mk 1 (Wd i1).2.2 (Wd i2).2.2 0) h9 p9)), .int (nI (pw_c (pw_mk 1 (Wd i1).2.2 (Wd i2).2.2 0) h9)), .int (nI (pw_o (pw_mk 1 (Wd i1).2.2 (Wd i2).2.2 0) h9 p9)), .ref q9]))]) [0, 1, 3] (by decide) rfl
                have hKc := hK.sub (tys' := [(cW, .object "PeriodWords$Word")]) [0] rfl
                have hFc := va_free (wc := [(o, .inr (ciP, [.ref q, .int (nI (n))])), (q, .inl (cW, 40, .inr (.inr (.inr (.inr wa))))), (a9, .inr (ciW, [.int (nI (h9)), .long (lN (pw_b (pw_mk 1 (Wd i1).2.2 (Wd i2).2.2 0) 0 h9)), .int (nI (p9)), .long (lN (pw_b (pw_mk 1 (Wd i1).2.2 (Wd i2).2.2 0) h9 p9)), .int (nI (pw_c (pw_mk 1 (Wd i1).2.2 (Wd i2).2.2 0) h9)), .int (nI (pw_o (pw_mk 1 (Wd i1).2.2 (Wd i2).2.2 0) h9 p9)), .ref q9]))]) hD hS hA [0, 1, 3] rfl
                refine va_calli (va_runV (As := [.ref a9]) (rest := []) ⟨hx, hb, hml, hown, hts⟩ (c_P_keep l dC dI (o := o) (q := q) (n := n) (cW := cW) (wa := wa) (a := a9) (h := h9) (pp := p9) (qq := q9) (f := (pw_mk 1 (Wd i1).2.2 (Wd i2).2.2 0)) hn40) (cwV 1 hts (gd_V mb_190 mb_192 mb_0 mb_22 mb_193) rfl rfl rfl (by decide +kernel) ⟨Nat.le_of_ble_eq_true rfl, Nat.le_of_ble_eq_true rfl⟩) ⟨md_blind, va_recv hK hP (ci := ciP) (q0 := 0) rfl rfl, fun U hU hW => ⟨rfl, by rw [hU], by rw [hU]; exact hPc, va_K.moved hW.alike hKc, hDc.weaken (fun _ _ _ _ => trivial)⟩⟩ rfl rfl hl.1 rfl (lv_room (Nat.le_of_ble_eq_true rfl)) d_P_make_113 ⟨Nat.le_of_ble_eq_true rfl, Nat.le_of_ble_eq_true rfl⟩) hS (fun q _ h => hFc q h) hFc (fun r_113 u_113 t_ H1 locs ht_ hvm_ hr_113 hB_ hz1_ hk1_ hS => ?_)
                obtain ⟨hra, hrb⟩ := hr_113
                subst hra
                subst hrb
                obtain ⟨hP1_, hK1_, hD1_⟩ := hB_
                rw [ht_] at hP1_
                obtain ⟨hP, hD⟩ := va_join (wr := [(r_107, .inr (ciD, [.int (nI (u_107.1)), .int (nI (u_107.2.1)), .int (nI (1)), .ref a1, .ref a2, .int (nI (u_107.2.2))])), (q9, .inl (cA9, (pw_c (pw_mk 1 (Wd i1).2.2 (Wd i2).2.2 0) h9 + pw_o (pw_mk 1 (Wd i1).2.2 (Wd i2).2.2 0) h9 p9), .inl pl9))]) (w1 := [(o, .inr (ciP, [.ref q, .int (nI (n + 1))])), (q, .inl (cW, 40, .inr (.inr (.inr (.inr (va_up wa n (some a9))))))), (a9, .inr (ciW, [.int (nI (h9)), .long (lN (pw_b (pw_mk 1 (Wd i1).2.2 (Wd i2).2.2 0) 0 h9)), .int (nI (p9)), .long (lN (pw_b (pw_mk 1 (Wd i1).2.2 (Wd i2).2.2 0) h9 p9)), .int (nI (pw_c (pw_mk 1 (Wd i1).2.2 (Wd i2).2.2 0) h9)), .int (nI (pw_o (pw_mk 1 (Wd i1).2.2 (Wd i2).2.2 0) h9 p9)), .ref q9]))]) hP hD [0, 1, 3] [2, 4] rfl rfl (by decide) (by decide) hk1_ hFc hP1_ hD1_
                generalize H1 = H at hP hS ⊢
                have hP : va_P (dC, dI) vwCl [(r_107, .inr (ciD, [.int (nI (u_107.1)), .int (nI (u_107.2.1)), .int (nI (1)), .ref a1, .ref a2, .int (nI (u_107.2.2))])), (q9, .inl (cA9, (pw_c (pw_mk 1 (Wd i1).2.2 (Wd i2).2.2 0) h9 + pw_o (pw_mk 1 (Wd i1).2.2 (Wd i2).2.2 0) h9 p9), .inl pl9)), (o, .inr (ciP, [.ref q, .int (nI (n + 1))])), (q, .inl (cW, 40, .inr (.inr (.inr (.inr (va_up wa n (some a9))))))), (a9, .inr (ciW, [.int (nI (h9)), .long (lN (pw_b (pw_mk 1 (Wd i1).2.2 (Wd i2).2.2 0) 0 h9)), .int (nI (p9)), .long (lN (pw_b (pw_mk 1 (Wd i1).2.2 (Wd i2).2.2 0) h9 p9)), .int (nI (pw_c (pw_mk 1 (Wd i1).2.2 (Wd i2).2.2 0) h9)), .int (nI (pw_o (pw_mk 1 (Wd i1).2.2 (Wd i2).2.2 0) h9 p9)), .ref q9]))] H := hP
                have hD : va_D A [(r_107, .inr (ciD, [.int (nI (u_107.1)), .int (nI (u_107.2.1)), .int (nI (1)), .ref a1, .ref a2, .int (nI (u_107.2.2))])), (q9, .inl (cA9, (pw_c (pw_mk 1 (Wd i1).2.2 (Wd i2).2.2 0) h9 + pw_o (pw_mk 1 (Wd i1).2.2 (Wd i2).2.2 0) h9 p9), .inl pl9)), (o, .inr (ciP, [.ref q, .int (nI (n + 1))])), (q, .inl (cW, 40, .inr (.inr (.inr (.inr (va_up wa n (some a9))))))), (a9, .inr (ciW, [.int (nI (h9)), .long (lN (pw_b (pw_mk 1 (Wd i1).2.2 (Wd i2).2.2 0) 0 h9)), .int (nI (p9)), .long (lN (pw_b (pw_mk 1 (Wd i1).2.2 (Wd i2).2.2 0) h9 p9)), .int (nI (pw_c (pw_mk 1 (Wd i1).2.2 (Wd i2).2.2 0) h9)), .int (nI (pw_o (pw_mk 1 (Wd i1).2.2 (Wd i2).2.2 0) h9 p9)), .ref q9]))] := hD
                refine vx_ret ?_
                refine W.widen (k := 3) (n := 133) (by omega) (by omega) ?_
                exact W.iret (v := (nI (n))) hx hb hr (fun t_ ht_ hW_ => ⟨⟨_, (n + 1, va_up wa n (some a9), fun i => if i = n then (h9, p9, (pw_mk 1 (Wd i1).2.2 (Wd i2).2.2 0)) else Wd i), rfl, Or.inl ⟨1, i1, i2, 0, ⟨hn40, by decide, rfl, hi1, hx1, fun _ => ⟨hi2, hx2⟩, fun z_ => absurd z_ (by decide), fun z_ => absurd (show sp_two 1 by unfold sp_two; decide) z_, fun _ => rfl⟩, fun z_ => absurd z_ (by decide), h9, p9, hcan, Or.inl ⟨h60, p60, rfl, rfl, if_pos rfl, fun i hi => if_neg (Nat.ne_of_lt hi)⟩⟩, by rw [ht_]; exact hP.sub [2, 3] rfl, va_K.moved hW_.alike (hK.sub [0] rfl), hD.sub [2, 3] (by decide) rfl, by rw [ht_]; exact wdAll.moved hW_.alike (cs_new (cs_keep hAe hoz hqz hS hall) ⟨q9, cA9, pl9, hP.sub [4, 1] rfl, hK9, hpl9, ⟨h60, hcan.1, p60, hcan.2.1⟩, hz9, hzq9⟩)⟩, hS.F ht_⟩) hS.2.2 d_P_make_116
            · refine pq_top (y := .null) (by rw [hr2]; rfl) ?_
              refine lv_goto (tgt := 45) hx hb d_P_make_40 (by decide) ?_
              refine lv_astoreN (lv' := [(5, .null), (4, .ref a1), (0, .ref o), (1, .int (nI (1))), (2, .int (nI (i1))), (3, .int (z))]) hx hb d_P_make_45 hl (by decide) rfl (fun ls hl => ?_)
              refine lv_aload hx hb d_P_make_47 (lv_at hl 1 rfl) ?_
              refine lv_ifnull hx hb d_P_make_49 ?_
              refine lv_aloadN hx hb d_P_make_52 (lv_at hl 0 rfl) ?_
              refine lv_ifnonnullN hx hb d_P_make_54 ?_
              refine lv_iconst (v := (-1)) hx hb d_P_make_57 (by decide) ?_
              refine vx_ret ?_
              refine W.widen (k := 3) (n := 133) (by omega) (by omega) ?_
              exact W.iret (v := (-1)) hx hb hr (fun t_ ht_ hW_ => ⟨⟨_, (n, wa, Wd), rfl, Or.inr ⟨fun ⟨k, i, j, d, w_⟩ => by have e_ := sp_mk_u (by decide) w_; subst e_; exact hno2 ⟨j, w_.2.2.2.2.2.1 (by unfold sp_two; decide)⟩, rfl, rfl, fun _ _ => rfl⟩, by rw [ht_]; exact hP.sub [0, 1] rfl, va_K.moved hW_.alike (hK.sub [0] rfl), hD.sub [0, 1] (by decide) rfl, by rw [ht_]; exact wdAll.moved hW_.alike (cs_keep hAe hoz hqz hS hall)⟩, hS.F ht_⟩) hS.2.2 d_P_make_58
          · refine pq_top (y := .null) (by rw [hr1]; rfl) ?_
            refine lv_astoreN (lv' := [(4, .null), (0, .ref o), (1, .int (nI (1))), (2, .int (y)), (3, .int (z))]) hx hb d_P_make_26 hl (by decide) rfl (fun ls hl => ?_)
            refine lv_iload_n hx hb d_P_make_28 rfl (lv_at hl 2 rfl) ?_
            refine vp_callSi (W.runS (As := [.int (nI (1))]) (rest := []) ⟨hx, hb, hml, hown, hts⟩ (c_P_needsTwo l dC dI (how := 1) (by decide)) (va_cwS 1 hts (gd_S mb_252 mb_253 mb_22 mb_254) rfl rfl rfl (by decide +kernel) ⟨Nat.le_of_ble_eq_true rfl, Nat.le_of_ble_eq_true rfl⟩) (pw_R_S pw_P0 (hK.sub [] rfl)) rfl rfl hl.1 rfl (lv_room (Nat.le_of_ble_eq_true rfl)) d_P_make_29 ⟨Nat.le_of_ble_eq_true rfl, Nat.le_of_ble_eq_true rfl⟩) (fun r_29 hr_29 => ?_)
            subst hr_29
            refine pq_top (y := .int (nI (1))) (by first | rfl | decide) ?_
            refine pq_if_eq (tgt := 43) (a := 1) hx hb d_P_make_32 (by decide) (by omega) (fun c_32 => absurd c_32 (by omega)) (fun c_32 => ?_)
            refine lv_aload_n hx hb d_P_make_35 rfl (lv_at hl 1 rfl) ?_
            refine lv_iload_n hx hb d_P_make_36 rfl (lv_at hl 4 rfl) ?_
            refine va_csq (W.runV (As := [.int (z)]) (rest := []) ⟨hx, hb, hml, hown, hts⟩ (c_P_find l dC dI hn (x := z)) (cwV 1 hts (gd_V mb_198 mb_200 mb_1 mb_22 mb_201) rfl rfl rfl (by decide +kernel) ⟨Nat.le_of_ble_eq_true rfl, Nat.le_of_ble_eq_true rfl⟩) (pw_R_V (va_recv hK hP (ci := ciP) (q0 := 0) rfl rfl) hP hK) rfl rfl hl.1 rfl (lv_room (Nat.le_of_ble_eq_true rfl)) d_P_make_37 ⟨Nat.le_of_ble_eq_true rfl, Nat.le_of_ble_eq_true rfl⟩) (fun r_37 hr_37 => ?_)
            rcases hr_37 with ⟨i2, hi2, hx2, hr2⟩ | ⟨hno2, hr2⟩
            · obtain ⟨a2, hwa2, q2, cA2, pl2, hPw2, hKw2, hpl2, hok2, hz2, hzq2⟩ := hall i2 hi2
              have hok2_ := hok2; obtain ⟨hh2, hp02, hp62, hE2⟩ := hok2_
              have ho2 := pw_o_le (Wd i2).2.2 (Wd i2).1 (Wd i2).2.1
              have hc2 := pw_c_le (Wd i2).2.2 (Wd i2).1
              rw [hx2] at hl
              refine pq_top (y := .ref a2) (by rw [hr2, hwa2]; rfl) ?_
              refine lv_goto (tgt := 45) hx hb d_P_make_40 (by decide) ?_
              refine lv_astore (lv' := [(5, .ref a2), (4, .null), (0, .ref o), (1, .int (nI (1))), (2, .int (y)), (3, .int (nI (i2)))]) hx hb d_P_make_45 hl (by decide) rfl (fun ls hl => ?_)
              refine lv_aloadN hx hb d_P_make_47 (lv_at hl 1 rfl) ?_
              refine lv_ifnullN (tgt := 57) hx hb d_P_make_49 (by decide) ?_
              refine lv_iconst (v := (-1)) hx hb d_P_make_57 (by decide) ?_
              refine vx_ret ?_
              refine W.widen (k := 3) (n := 133) (by omega) (by omega) ?_
              exact W.iret (v := (-1)) hx hb hr (fun t_ ht_ hW_ => ⟨⟨_, (n, wa, Wd), rfl, Or.inr ⟨fun ⟨k, i, j, d, w_⟩ => hno1 ⟨i, w_.2.2.2.1, w_.2.2.2.2.1⟩, rfl, rfl, fun _ _ => rfl⟩, by rw [ht_]; exact hP.sub [0, 1] rfl, va_K.moved hW_.alike (hK.sub [0] rfl), hD.sub [0, 1] (by decide) rfl, by rw [ht_]; exact wdAll.moved hW_.alike (cs_keep hAe hoz hqz hS hall)⟩, hS.F ht_⟩) hS.2.2 d_P_make_58
            · refine pq_top (y := .null) (by rw [hr2]; rfl) ?_
              refine lv_goto (tgt := 45) hx hb d_P_make_40 (by decide) ?_
              refine lv_astoreN (lv' := [(5, .null), (4, .null), (0, .ref o), (1, .int (nI (1))), (2, .int (y)), (3, .int (z))]) hx hb d_P_make_45 hl (by decide) rfl (fun ls hl => ?_)
              refine lv_aloadN hx hb d_P_make_47 (lv_at hl 1 rfl) ?_
              refine lv_ifnullN (tgt := 57) hx hb d_P_make_49 (by decide) ?_
              refine lv_iconst (v := (-1)) hx hb d_P_make_57 (by decide) ?_
              refine vx_ret ?_
              refine W.widen (k := 3) (n := 133) (by omega) (by omega) ?_
              exact W.iret (v := (-1)) hx hb hr (fun t_ ht_ hW_ => ⟨⟨_, (n, wa, Wd), rfl, Or.inr ⟨fun ⟨k, i, j, d, w_⟩ => hno1 ⟨i, w_.2.2.2.1, w_.2.2.2.2.1⟩, rfl, rfl, fun _ _ => rfl⟩, by rw [ht_]; exact hP.sub [0, 1] rfl, va_K.moved hW_.alike (hK.sub [0] rfl), hD.sub [0, 1] (by decide) rfl, by rw [ht_]; exact wdAll.moved hW_.alike (cs_keep hAe hoz hqz hS hall)⟩, hS.F ht_⟩) hS.2.2 d_P_make_58
        · refine lv_aload_n hx hb d_P_make_21 rfl (lv_at hl 0 rfl) ?_
          refine lv_iload_n hx hb d_P_make_22 rfl (lv_at hl 2 rfl) ?_
          refine va_csq (W.runV (As := [.int (y)]) (rest := []) ⟨hx, hb, hml, hown, hts⟩ (c_P_find l dC dI hn (x := y)) (cwV 1 hts (gd_V mb_198 mb_200 mb_1 mb_22 mb_201) rfl rfl rfl (by decide +kernel) ⟨Nat.le_of_ble_eq_true rfl, Nat.le_of_ble_eq_true rfl⟩) (pw_R_V (va_recv hK hP (ci := ciP) (q0 := 0) rfl rfl) hP hK) rfl rfl hl.1 rfl (lv_room (Nat.le_of_ble_eq_true rfl)) d_P_make_23 ⟨Nat.le_of_ble_eq_true rfl, Nat.le_of_ble_eq_true rfl⟩) (fun r_23 hr_23 => ?_)
          rcases hr_23 with ⟨i1, hi1, hx1, hr1⟩ | ⟨hno1, hr1⟩
          · obtain ⟨a1, hwa1, q1, cA1, pl1, hPw1, hKw1, hpl1, hok1, hz1, hzq1⟩ := hall i1 hi1
            have hok1_ := hok1; obtain ⟨hh1, hp01, hp61, hE1⟩ := hok1_
            have ho1 := pw_o_le (Wd i1).2.2 (Wd i1).1 (Wd i1).2.1
            have hc1 := pw_c_le (Wd i1).2.2 (Wd i1).1
            rw [hx1] at hl
            refine pq_top (y := .ref a1) (by rw [hr1, hwa1]; rfl) ?_
            refine lv_astore (lv' := [(4, .ref a1), (0, .ref o), (1, .int (nI (2))), (2, .int (nI (i1))), (3, .int (z))]) hx hb d_P_make_26 hl (by decide) rfl (fun ls hl => ?_)
            refine lv_iload_n hx hb d_P_make_28 rfl (lv_at hl 2 rfl) ?_
            refine vp_callSi (W.runS (As := [.int (nI (2))]) (rest := []) ⟨hx, hb, hml, hown, hts⟩ (c_P_needsTwo l dC dI (how := 2) (by decide)) (va_cwS 1 hts (gd_S mb_252 mb_253 mb_22 mb_254) rfl rfl rfl (by decide +kernel) ⟨Nat.le_of_ble_eq_true rfl, Nat.le_of_ble_eq_true rfl⟩) (pw_R_S pw_P0 (hK.sub [] rfl)) rfl rfl hl.1 rfl (lv_room (Nat.le_of_ble_eq_true rfl)) d_P_make_29 ⟨Nat.le_of_ble_eq_true rfl, Nat.le_of_ble_eq_true rfl⟩) (fun r_29 hr_29 => ?_)
            subst hr_29
            refine pq_top (y := .int (nI (1))) (by first | rfl | decide) ?_
            refine pq_if_eq (tgt := 43) (a := 1) hx hb d_P_make_32 (by decide) (by omega) (fun c_32 => absurd c_32 (by omega)) (fun c_32 => ?_)
            refine lv_aload_n hx hb d_P_make_35 rfl (lv_at hl 1 rfl) ?_
            refine lv_iload_n hx hb d_P_make_36 rfl (lv_at hl 4 rfl) ?_
            refine va_csq (W.runV (As := [.int (z)]) (rest := []) ⟨hx, hb, hml, hown, hts⟩ (c_P_find l dC dI hn (x := z)) (cwV 1 hts (gd_V mb_198 mb_200 mb_1 mb_22 mb_201) rfl rfl rfl (by decide +kernel) ⟨Nat.le_of_ble_eq_true rfl, Nat.le_of_ble_eq_true rfl⟩) (pw_R_V (va_recv hK hP (ci := ciP) (q0 := 0) rfl rfl) hP hK) rfl rfl hl.1 rfl (lv_room (Nat.le_of_ble_eq_true rfl)) d_P_make_37 ⟨Nat.le_of_ble_eq_true rfl, Nat.le_of_ble_eq_true rfl⟩) (fun r_37 hr_37 => ?_)
            rcases hr_37 with ⟨i2, hi2, hx2, hr2⟩ | ⟨hno2, hr2⟩
            · obtain ⟨a2, hwa2, q2, cA2, pl2, hPw2, hKw2, hpl2, hok2, hz2, hzq2⟩ := hall i2 hi2
              have hok2_ := hok2; obtain ⟨hh2, hp02, hp62, hE2⟩ := hok2_
              have ho2 := pw_o_le (Wd i2).2.2 (Wd i2).1 (Wd i2).2.1
              have hc2 := pw_c_le (Wd i2).2.2 (Wd i2).1
              rw [hx2] at hl
              refine pq_top (y := .ref a2) (by rw [hr2, hwa2]; rfl) ?_
              refine lv_goto (tgt := 45) hx hb d_P_make_40 (by decide) ?_
              refine lv_astore (lv' := [(5, .ref a2), (4, .ref a1), (0, .ref o), (1, .int (nI (2))), (2, .int (nI (i1))), (3, .int (nI (i2)))]) hx hb d_P_make_45 hl (by decide) rfl (fun ls hl => ?_)
              refine lv_aload hx hb d_P_make_47 (lv_at hl 1 rfl) ?_
              refine lv_ifnull hx hb d_P_make_49 ?_
              refine lv_aload hx hb d_P_make_52 (lv_at hl 0 rfl) ?_
              refine lv_ifnonnull (tgt := 59) hx hb d_P_make_54 (by decide) ?_
              refine lv_iload_n hx hb d_P_make_59 rfl (lv_at hl 3 rfl) ?_
              refine lv_bipush (v := nI 6) hx hb d_P_make_60 (by decide) ?_
              refine pq_icmp_ne (tgt := 77) (a := 2) (b := 6) hx hb d_P_make_62 (by decide) (by omega) (by omega) (fun c_62 => ?_) (fun c_62 => absurd c_62 (by omega))
              refine lv_iload_n hx hb d_P_make_77 rfl (lv_at hl 3 rfl) ?_
              refine lv_iconst (v := nI 5) hx hb d_P_make_78 (by decide) ?_
              refine pq_icmp_ne (tgt := 100) (a := 2) (b := 5) hx hb d_P_make_79 (by decide) (by omega) (by omega) (fun c_79 => ?_) (fun c_79 => absurd c_79 (by omega))
              refine lv_aload_n hx hb d_P_make_100 rfl (lv_at hl 2 rfl) ?_
              refine lv_iload_n hx hb d_P_make_101 rfl (lv_at hl 3 rfl) ?_
              refine lv_aload hx hb d_P_make_102 (lv_at hl 1 rfl) ?_
              refine lv_aload hx hb d_P_make_104 (lv_at hl 0 rfl) ?_
              refine lv_iload_n hx hb d_P_make_106 rfl (lv_at hl 5 rfl) ?_
              have hWW := hPw1.app hPw2
              have hKW := hKw1.app hKw2
              have hPc := hP.sub (ws' := []) [] rfl
              have hDc := hD.sub (ws' := []) [] (by decide) rfl
              have hKc := hK.sub (tys' := []) [] rfl
              have hFc := va_free (wc := []) hD hS hA [] rfl
              refine va_callr (va_runS (As := [.int (nI (2)), .ref a1, .ref a2, .int (nI (i2))]) (rest := [.ref o]) ⟨hx, hb, hml, hown, hts⟩ (c_P_draftOfX l dC dI (a := a1) (q := q1) (cA := cA1) (pl := pl1) (a2 := a2) (q2 := q2) (cA2 := cA2) (pl2 := pl2) hok1 hok2 hpl1 (how := 2) (zz := (nI (i2))) (by decide) (by decide) (fun z_ => absurd z_ (by decide))) (va_cwS 4 hts (gd_S mb_108 mb_109 mb_22 mb_110) rfl rfl rfl (by decide +kernel) ⟨Nat.le_of_ble_eq_true rfl, Nat.le_of_ble_eq_true rfl⟩) ⟨dr_blind, fun U hU hW => ⟨rfl, by rw [hU], by rw [hU]; exact hWW, va_K.moved hW.alike hKW⟩⟩ rfl rfl hl.1 rfl (lv_room (Nat.le_of_ble_eq_true rfl)) d_P_make_107 ⟨Nat.le_of_ble_eq_true rfl, Nat.le_of_ble_eq_true rfl⟩) hS (fun q _ h => hFc q h) hFc (fun u_107 r_107 t_ H1 locs ht_ hvm_ hr_107 hB_ hz1_ hk1_ hS => ?_)
              obtain ⟨hP1_, hK1_, hD1_⟩ := hB_
              rw [ht_] at hP1_
              obtain ⟨hP, hD⟩ := va_join (wr := [(o, .inr (ciP, [.ref q, .int (nI (n))])), (q, .inl (cW, 40, .inr (.inr (.inr (.inr wa)))))]) (w1 := [(r_107, .inr (ciD, [.int (nI (u_107.1)), .int (nI (u_107.2.1)), .int (nI (2)), .ref a1, .ref a2, .int (nI (u_107.2.2))]))]) hP hD [] [0, 1] rfl rfl (by decide) (by decide) hk1_ hFc hP1_ hD1_
              generalize H1 = H at hP hS hz1_ hk1_ ⊢
              have hP : va_P (dC, dI) vwCl [(o, .inr (ciP, [.ref q, .int (nI (n))])), (q, .inl (cW, 40, .inr (.inr (.inr (.inr wa))))), (r_107, .inr (ciD, [.int (nI (u_107.1)), .int (nI (u_107.2.1)), .int (nI (2)), .ref a1, .ref a2, .int (nI (u_107.2.2))]))] H := hP
              have hD : va_D A [(o, .inr (ciP, [.ref q, .int (nI (n))])), (q, .inl (cW, 40, .inr (.inr (.inr (.inr wa))))), (r_107, .inr (ciD, [.int (nI (u_107.1)), .int (nI (u_107.2.1)), .int (nI (2)), .ref a1, .ref a2, .int (nI (u_107.2.2))]))] := hD
              obtain ⟨⟨hd1, hd2, hd3, hd4, hd5⟩, hlt⟩ := hr_107
              have hPw1 := cs_wk hAe hoz hqz hS hz1 hzq1 hPw1
              have hPw2 := cs_wk hAe hoz hqz hS hz2 hzq2 hPw2
              have hPd := hP.sub (ws' := dr r_107 a1 a2 u_107.1 u_107.2.1 2 u_107.2.2) [2] rfl
              have hWW := hPd.app (hPw1.app hPw2)
              have hKW := hKw1.app hKw2
              have hSz := hS.1
              have hPc := hP.sub (ws' := []) [] rfl
              have hDc := hD.sub (ws' := []) [] (by decide) rfl
              have hKc := hK.sub (tys' := []) [] rfl
              have hFc := va_free (wc := []) hD hS hA [] rfl
              refine va_callq (va_runS (As := [.ref r_107]) (rest := [.ref o]) ⟨hx, hb, hml, hown, hts⟩ (c_P_shortestForm l dC dI (a := a1) (q := q1) (cA := cA1) (pl := pl1) (a2 := a2) (q2 := q2) (cA2 := cA2) (pl2 := pl2) hok1 hok2 hpl2 (dd := r_107) (hd := u_107.1) (rd := u_107.2.1) (how := 2) (late := u_107.2.2) (by decide) hd4 (fun z_ => absurd z_ (by decide)) hd1 hd2 hd3 hd5) (va_cwS 1 hts (gd_S mb_163 mb_164 mb_22 mb_165) rfl rfl rfl (by decide +kernel) ⟨Nat.le_of_ble_eq_true rfl, Nat.le_of_ble_eq_true rfl⟩) ⟨dr_blind, fun U hU hW => ⟨rfl, by rw [hU], by rw [hU]; exact hWW, va_K.moved hW.alike hKW⟩⟩ rfl rfl hl.1 rfl (lv_room (Nat.le_of_ble_eq_true rfl)) d_P_make_110 ⟨Nat.le_of_ble_eq_true rfl, Nat.le_of_ble_eq_true rfl⟩) hS (fun q _ h => hFc q h) hFc (fun r_110 u_110 t_ H1 locs ht_ hvm_ hr_110 hB_ hz1_ hk1_ hS => ?_)
              obtain ⟨hr1, hok1⟩ := hr_110
              rw [pw_mk_d (k := 2) (by decide) (Wd i1).2.2 (Wd i2).2.2 u_107.2.2 0] at hok1 hB_
              rcases u_110 with _ | ⟨a9, h9, p9, q9, cA9, pl9⟩
              · subst hr1
                obtain ⟨hP, hD⟩ := va_join (wr := [(o, .inr (ciP, [.ref q, .int (nI (n))])), (q, .inl (cW, 40, .inr (.inr (.inr (.inr wa))))), (r_107, .inr (ciD, [.int (nI (u_107.1)), .int (nI (u_107.2.1)), .int (nI (2)), .ref a1, .ref a2, .int (nI (u_107.2.2))]))]) (w1 := []) hP hD [] [0, 1, 2] rfl rfl (by decide) (by decide) hk1_ hFc pw_P0 pw_D0
                generalize H1 = H at hP hS ⊢
                have hP : va_P (dC, dI) vwCl [(o, .inr (ciP, [.ref q, .int (nI (n))])), (q, .inl (cW, 40, .inr (.inr (.inr (.inr wa))))), (r_107, .inr (ciD, [.int (nI (u_107.1)), .int (nI (u_107.2.1)), .int (nI (2)), .ref a1, .ref a2, .int (nI (u_107.2.2))]))] H := hP
                have hD : va_D A [(o, .inr (ciP, [.ref q, .int (nI (n))])), (q, .inl (cW, 40, .inr (.inr (.inr (.inr wa))))), (r_107, .inr (ciD, [.int (nI (u_107.1)), .int (nI (u_107.2.1)), .int (nI (2)), .ref a1, .ref a2, .int (nI (u_107.2.2))]))] := hD
                obtain ⟨h9, p9, hcan, h60⟩ := hok1
                refine pq_top (y := .null) rfl ?_
                refine vp_callSi (W.runV (As := [.null]) (rest := []) ⟨hx, hb, hml, hown, hts⟩ (c_P_keepN l dC dI (o := o) (q := q) (n := n) (cW := cW) (wa := wa)) (cwV 1 hts (gd_V mb_190 mb_192 mb_0 mb_22 mb_193) rfl rfl rfl (by decide +kernel) ⟨Nat.le_of_ble_eq_true rfl, Nat.le_of_ble_eq_true rfl⟩) (pw_R_V (va_recv hK hP (ci := ciP) (q0 := 0) rfl rfl) (hP.sub [0, 1] rfl) (hK.sub [0] rfl)) rfl rfl hl.1 rfl (lv_room (Nat.le_of_ble_eq_true rfl)) d_P_make_113 ⟨Nat.le_of_ble_eq_true rfl, Nat.le_of_ble_eq_true rfl⟩) (fun r_113 hr_113 => ?_)
                subst hr_113
                refine vx_ret ?_
                refine W.widen (k := 3) (n := 133) (by omega) (by omega) ?_
                exact W.iret (v := (-1)) hx hb hr (fun t_ ht_ hW_ => ⟨⟨_, (n, wa, Wd), rfl, Or.inl ⟨2, i1, i2, 0, ⟨hn40, by decide, rfl, hi1, hx1, fun _ => ⟨hi2, hx2⟩, fun z_ => absurd z_ (by decide), fun z_ => absurd (show sp_two 2 by unfold sp_two; decide) z_, fun _ => rfl⟩, fun z_ => absurd z_ (by decide), h9, p9, hcan, Or.inr ⟨h60, rfl, rfl, fun _ _ => rfl⟩⟩, by rw [ht_]; exact hP.sub [0, 1] rfl, va_K.moved hW_.alike (hK.sub [0] rfl), hD.sub [0, 1] (by decide) rfl, by rw [ht_]; exact wdAll.moved hW_.alike (cs_keep hAe hoz hqz hS hall)⟩, hS.F ht_⟩) hS.2.2 d_P_make_116
              · subst hr1
                obtain ⟨hcan, h60, p60, hpl9⟩ := hok1
                obtain ⟨hP1_, hK1_, hD1_⟩ := hB_
                rw [ht_] at hP1_
                have hK9 : va_K (dC, dI) vwCl [(cA9, .int)] s := va_K.moved hvm_.symm hK1_
                have hz9 : z0 ≤ a9 := Nat.le_trans hzs (Nat.le_trans hSz (pw_A0 (hD1_.2 0 _ rfl)))
                have hzq9 : z0 ≤ q9 := Nat.le_trans hzs (Nat.le_trans hSz (pw_A0 (hD1_.2 1 _ rfl)))
                obtain ⟨hP, hD⟩ := va_join (wr := [(o, .inr (ciP, [.ref q, .int (nI (n))])), (q, .inl (cW, 40, .inr (.inr (.inr (.inr wa))))), (r_107, .inr (ciD, [.int (nI (u_107.1)), .int (nI (u_107.2.1)), .int (nI (2)), .ref a1, .ref a2, .int (nI (u_107.2.2))]))]) (w1 := [(a9, .inr (ciW, [.int (nI (h9)), .long (lN (pw_b (pw_mk 2 (Wd i1).2.2 (Wd i2).2.2 0) 0 h9)), .int (nI (p9)), .long (lN (pw_b (pw_mk 2 (Wd i1).2.2 (Wd i2).2.2 0) h9 p9)), .int (nI (pw_c (pw_mk 2 (Wd i1).2.2 (Wd i2).2.2 0) h9)), .int (nI (pw_o (pw_mk 2 (Wd i1).2.2 (Wd i2).2.2 0) h9 p9)), .ref q9])), (q9, .inl (cA9, (pw_c (pw_mk 2 (Wd i1).2.2 (Wd i2).2.2 0) h9 + pw_o (pw_mk 2 (Wd i1).2.2 (Wd i2).2.2 0) h9 p9), .inl pl9))]) hP hD [] [0, 1, 2] rfl rfl (by decide) (by decide) hk1_ hFc hP1_ hD1_
                generalize H1 = H at hP hS ⊢
                have hP : va_P (dC, dI) vwCl [(o, .inr (ciP, [.ref q, .int (nI (n))])), (q, .inl (cW, 40, .inr (.inr (.inr (.inr wa))))), (r_107, .inr (ciD, [.int (nI (u_107.1)), .int (nI (u_107.2.1)), .int (nI (2)), .ref a1, .ref a2, .int (nI (u_107.2.2))])), (a9, .inr (ciW, [.int (nI (h9)), .long (lN (pw_b (pw_mk 2 (Wd i1).2.2 (Wd i2).2.2 0) 0 h9)), .int (nI (p9)), .long (lN (pw_b (pw_mk 2 (Wd i1).2.2 (Wd i2).2.2 0) h9 p9)), .int (nI (pw_c (pw_mk 2 (Wd i1).2.2 (Wd i2).2.2 0) h9)), .int (nI (pw_o (pw_mk 2 (Wd i1).2.2 (Wd i2).2.2 0) h9 p9)), .ref q9])), (q9, .inl (cA9, (pw_c (pw_mk 2 (Wd i1).2.2 (Wd i2).2.2 0) h9 + pw_o (pw_mk 2 (Wd i1).2.2 (Wd i2).2.2 0) h9 p9), .inl pl9))] H := hP
                have hD : va_D A [(o, .inr (ciP, [.ref q, .int (nI (n))])), (q, .inl (cW, 40, .inr (.inr (.inr (.inr wa))))), (r_107, .inr (ciD, [.int (nI (u_107.1)), .int (nI (u_107.2.1)), .int (nI (2)), .ref a1, .ref a2, .int (nI (u_107.2.2))])), (a9, .inr (ciW, [.int (nI (h9)), .long (lN (pw_b (pw_mk 2 (Wd i1).2.2 (Wd i2).2.2 0) 0 h9)), .int (nI (p9)), .long (lN (pw_b (pw_mk 2 (Wd i1).2.2 (Wd i2).2.2 0) h9 p9)), .int (nI (pw_c (pw_mk 2 (Wd i1).2.2 (Wd i2).2.2 0) h9)), .int (nI (pw_o (pw_mk 2 (Wd i1).2.2 (Wd i2).2.2 0) h9 p9)), .ref q9])), (q9, .inl (cA9, (pw_c (pw_mk 2 (Wd i1).2.2 (Wd i2).2.2 0) h9 + pw_o (pw_mk 2 (Wd i1).2.2 (Wd i2).2.2 0) h9 p9), .inl pl9))] := hD
                refine pq_top (y := .ref a9) rfl ?_
                have hPc := hP.sub (ws' := [(o, .inr (ciP, [.ref q, .int (nI (n))])), (q, .inl (cW, 40, .inr (.inr (.inr (.inr wa))))), (a9, .inr (ciW, [.int (nI (h9)), .long (lN (pw_b (pw_mk 2 (Wd i1).2.2 (Wd i2).2.2 0) 0 h9)), .int (nI (p9)), .long (lN (pw_b (pw_mk 2 (Wd i1).2.2 (Wd i2).2.2 0) h9 p9)), .int (nI (pw_c (pw_mk 2 (Wd i1).2.2 (Wd i2).2.2 0) h9)), .int (nI (pw_o (pw_mk 2 (Wd i1).2.2 (Wd i2).2.2 0) h9 p9)), .ref q9]))]) [0, 1, 3] rfl
                have hDc := hD.sub (ws' := [(o, .inr (ciP, [.ref q, .int (nI (n))])), (q, .inl (cW, 40, .inr (.inr (.inr (.inr wa))))), (a9, .inr (ciW, [.int (nI (h9)), .long (lN (pw_b (pw_mk 2 (Wd i1).2.2 (Wd i2).2.2 0) 0 h9)), .int (nI (p9)), .long (lN (pw_b (pw_mk 2 (Wd i1).2.2 (Wd i2).2.2 0) h9 p9)), .int (nI (pw_c (pw_mk 2 (Wd i1).2.2 (Wd i2).2.2 0) h9)), .int (nI (pw_o (pw_mk 2 (Wd i1).2.2 (Wd i2).2.2 0) h9 p9)), .ref q9]))]) [0, 1, 3] (by decide) rfl
                have hKc := hK.sub (tys' := [(cW, .object "PeriodWords$Word")]) [0] rfl
                have hFc := va_free (wc := [(o, .inr (ciP, [.ref q, .int (nI (n))])), (q, .inl (cW, 40, .inr (.inr (.inr (.inr wa))))), (a9, .inr (ciW, [.int (nI (h9)), .long (lN (pw_b (pw_mk 2 (Wd i1).2.2 (Wd i2).2.2 0) 0 h9)), .int (nI (p9)), .long (lN (pw_b (pw_mk 2 (Wd i1).2.2 (Wd i2).2.2 0) h9 p9)), .int (nI (pw_c (pw_mk 2 (Wd i1).2.2 (Wd i2).2.2 0) h9)), .int (nI (pw_o (pw_mk 2 (Wd i1).2.2 (Wd i2).2.2 0) h9 p9)), .ref q9]))]) hD hS hA [0, 1, 3] rfl
                refine va_calli (va_runV (As := [.ref a9]) (rest := []) ⟨hx, hb, hml, hown, hts⟩ (c_P_keep l dC dI (o := o) (q := q) (n := n) (cW := cW) (wa := wa) (a := a9) (h := h9) (pp := p9) (qq := q9) (f := (pw_mk 2 (Wd i1).2.2 (Wd i2).2.2 0)) hn40) (cwV 1 hts (gd_V mb_190 mb_192 mb_0 mb_22 mb_193) rfl rfl rfl (by decide +kernel) ⟨Nat.le_of_ble_eq_true rfl, Nat.le_of_ble_eq_true rfl⟩) ⟨md_blind, va_recv hK hP (ci := ciP) (q0 := 0) rfl rfl, fun U hU hW => ⟨rfl, by rw [hU], by rw [hU]; exact hPc, va_K.moved hW.alike hKc, hDc.weaken (fun _ _ _ _ => trivial)⟩⟩ rfl rfl hl.1 rfl (lv_room (Nat.le_of_ble_eq_true rfl)) d_P_make_113 ⟨Nat.le_of_ble_eq_true rfl, Nat.le_of_ble_eq_true rfl⟩) hS (fun q _ h => hFc q h) hFc (fun r_113 u_113 t_ H1 locs ht_ hvm_ hr_113 hB_ hz1_ hk1_ hS => ?_)
                obtain ⟨hra, hrb⟩ := hr_113
                subst hra
                subst hrb
                obtain ⟨hP1_, hK1_, hD1_⟩ := hB_
                rw [ht_] at hP1_
                obtain ⟨hP, hD⟩ := va_join (wr := [(r_107, .inr (ciD, [.int (nI (u_107.1)), .int (nI (u_107.2.1)), .int (nI (2)), .ref a1, .ref a2, .int (nI (u_107.2.2))])), (q9, .inl (cA9, (pw_c (pw_mk 2 (Wd i1).2.2 (Wd i2).2.2 0) h9 + pw_o (pw_mk 2 (Wd i1).2.2 (Wd i2).2.2 0) h9 p9), .inl pl9))]) (w1 := [(o, .inr (ciP, [.ref q, .int (nI (n + 1))])), (q, .inl (cW, 40, .inr (.inr (.inr (.inr (va_up wa n (some a9))))))), (a9, .inr (ciW, [.int (nI (h9)), .long (lN (pw_b (pw_mk 2 (Wd i1).2.2 (Wd i2).2.2 0) 0 h9)), .int (nI (p9)), .long (lN (pw_b (pw_mk 2 (Wd i1).2.2 (Wd i2).2.2 0) h9 p9)), .int (nI (pw_c (pw_mk 2 (Wd i1).2.2 (Wd i2).2.2 0) h9)), .int (nI (pw_o (pw_mk 2 (Wd i1).2.2 (Wd i2).2.2 0) h9 p9)), .ref q9]))]) hP hD [0, 1, 3] [2, 4] rfl rfl (by decide) (by decide) hk1_ hFc hP1_ hD1_
                generalize H1 = H at hP hS ⊢
                have hP : va_P (dC, dI) vwCl [(r_107, .inr (ciD, [.int (nI (u_107.1)), .int (nI (u_107.2.1)), .int (nI (2)), .ref a1, .ref a2, .int (nI (u_107.2.2))])), (q9, .inl (cA9, (pw_c (pw_mk 2 (Wd i1).2.2 (Wd i2).2.2 0) h9 + pw_o (pw_mk 2 (Wd i1).2.2 (Wd i2).2.2 0) h9 p9), .inl pl9)), (o, .inr (ciP, [.ref q, .int (nI (n + 1))])), (q, .inl (cW, 40, .inr (.inr (.inr (.inr (va_up wa n (some a9))))))), (a9, .inr (ciW, [.int (nI (h9)), .long (lN (pw_b (pw_mk 2 (Wd i1).2.2 (Wd i2).2.2 0) 0 h9)), .int (nI (p9)), .long (lN (pw_b (pw_mk 2 (Wd i1).2.2 (Wd i2).2.2 0) h9 p9)), .int (nI (pw_c (pw_mk 2 (Wd i1).2.2 (Wd i2).2.2 0) h9)), .int (nI (pw_o (pw_mk 2 (Wd i1).2.2 (Wd i2).2.2 0) h9 p9)), .ref q9]))] H := hP
                have hD : va_D A [(r_107, .inr (ciD, [.int (nI (u_107.1)), .int (nI (u_107.2.1)), .int (nI (2)), .ref a1, .ref a2, .int (nI (u_107.2.2))])), (q9, .inl (cA9, (pw_c (pw_mk 2 (Wd i1).2.2 (Wd i2).2.2 0) h9 + pw_o (pw_mk 2 (Wd i1).2.2 (Wd i2).2.2 0) h9 p9), .inl pl9)), (o, .inr (ciP, [.ref q, .int (nI (n + 1))])), (q, .inl (cW, 40, .inr (.inr (.inr (.inr (va_up wa n (some a9))))))), (a9, .inr (ciW, [.int (nI (h9)), .long (lN (pw_b (pw_mk 2 (Wd i1).2.2 (Wd i2).2.2 0) 0 h9)), .int (nI (p9)), .long (lN (pw_b (pw_mk 2 (Wd i1).2.2 (Wd i2).2.2 0) h9 p9)), .int (nI (pw_c (pw_mk 2 (Wd i1).2.2 (Wd i2).2.2 0) h9)), .int (nI (pw_o (pw_mk 2 (Wd i1).2.2 (Wd i2).2.2 0) h9 p9)), .ref q9]))] := hD
                refine vx_ret ?_
                refine W.widen (k := 3) (n := 133) (by omega) (by omega) ?_
                exact W.iret (v := (nI (n))) hx hb hr (fun t_ ht_ hW_ => ⟨⟨_, (n + 1, va_up wa n (some a9), fun i => if i = n then (h9, p9, (pw_mk 2 (Wd i1).2.2 (Wd i2).2.2 0)) else Wd i), rfl, Or.inl ⟨2, i1, i2, 0, ⟨hn40, by decide, rfl, hi1, hx1, fun _ => ⟨hi2, hx2⟩, fun z_ => absurd z_ (by decide), fun z_ => absurd (show sp_two 2 by unfold sp_two; decide) z_, fun _ => rfl⟩, fun z_ => absurd z_ (by decide), h9, p9, hcan, Or.inl ⟨h60, p60, rfl, rfl, if_pos rfl, fun i hi => if_neg (Nat.ne_of_lt hi)⟩⟩, by rw [ht_]; exact hP.sub [2, 3] rfl, va_K.moved hW_.alike (hK.sub [0] rfl), hD.sub [2, 3] (by decide) rfl, by rw [ht_]; exact wdAll.moved hW_.alike (cs_new (cs_keep hAe hoz hqz hS hall) ⟨q9, cA9, pl9, hP.sub [4, 1] rfl, hK9, hpl9, ⟨h60, hcan.1, p60, hcan.2.1⟩, hz9, hzq9⟩)⟩, hS.F ht_⟩) hS.2.2 d_P_make_116
            · refine pq_top (y := .null) (by rw [hr2]; rfl) ?_
              refine lv_goto (tgt := 45) hx hb d_P_make_40 (by decide) ?_
              refine lv_astoreN (lv' := [(5, .null), (4, .ref a1), (0, .ref o), (1, .int (nI (2))), (2, .int (nI (i1))), (3, .int (z))]) hx hb d_P_make_45 hl (by decide) rfl (fun ls hl => ?_)
              refine lv_aload hx hb d_P_make_47 (lv_at hl 1 rfl) ?_
              refine lv_ifnull hx hb d_P_make_49 ?_
              refine lv_aloadN hx hb d_P_make_52 (lv_at hl 0 rfl) ?_
              refine lv_ifnonnullN hx hb d_P_make_54 ?_
              refine lv_iconst (v := (-1)) hx hb d_P_make_57 (by decide) ?_
              refine vx_ret ?_
              refine W.widen (k := 3) (n := 133) (by omega) (by omega) ?_
              exact W.iret (v := (-1)) hx hb hr (fun t_ ht_ hW_ => ⟨⟨_, (n, wa, Wd), rfl, Or.inr ⟨fun ⟨k, i, j, d, w_⟩ => by have e_ := sp_mk_u (by decide) w_; subst e_; exact hno2 ⟨j, w_.2.2.2.2.2.1 (by unfold sp_two; decide)⟩, rfl, rfl, fun _ _ => rfl⟩, by rw [ht_]; exact hP.sub [0, 1] rfl, va_K.moved hW_.alike (hK.sub [0] rfl), hD.sub [0, 1] (by decide) rfl, by rw [ht_]; exact wdAll.moved hW_.alike (cs_keep hAe hoz hqz hS hall)⟩, hS.F ht_⟩) hS.2.2 d_P_make_58
          · refine pq_top (y := .null) (by rw [hr1]; rfl) ?_
            refine lv_astoreN (lv' := [(4, .null), (0, .ref o), (1, .int (nI (2))), (2, .int (y)), (3, .int (z))]) hx hb d_P_make_26 hl (by decide) rfl (fun ls hl => ?_)
            refine lv_iload_n hx hb d_P_make_28 rfl (lv_at hl 2 rfl) ?_
            refine vp_callSi (W.runS (As := [.int (nI (2))]) (rest := []) ⟨hx, hb, hml, hown, hts⟩ (c_P_needsTwo l dC dI (how := 2) (by decide)) (va_cwS 1 hts (gd_S mb_252 mb_253 mb_22 mb_254) rfl rfl rfl (by decide +kernel) ⟨Nat.le_of_ble_eq_true rfl, Nat.le_of_ble_eq_true rfl⟩) (pw_R_S pw_P0 (hK.sub [] rfl)) rfl rfl hl.1 rfl (lv_room (Nat.le_of_ble_eq_true rfl)) d_P_make_29 ⟨Nat.le_of_ble_eq_true rfl, Nat.le_of_ble_eq_true rfl⟩) (fun r_29 hr_29 => ?_)
            subst hr_29
            refine pq_top (y := .int (nI (1))) (by first | rfl | decide) ?_
            refine pq_if_eq (tgt := 43) (a := 1) hx hb d_P_make_32 (by decide) (by omega) (fun c_32 => absurd c_32 (by omega)) (fun c_32 => ?_)
            refine lv_aload_n hx hb d_P_make_35 rfl (lv_at hl 1 rfl) ?_
            refine lv_iload_n hx hb d_P_make_36 rfl (lv_at hl 4 rfl) ?_
            refine va_csq (W.runV (As := [.int (z)]) (rest := []) ⟨hx, hb, hml, hown, hts⟩ (c_P_find l dC dI hn (x := z)) (cwV 1 hts (gd_V mb_198 mb_200 mb_1 mb_22 mb_201) rfl rfl rfl (by decide +kernel) ⟨Nat.le_of_ble_eq_true rfl, Nat.le_of_ble_eq_true rfl⟩) (pw_R_V (va_recv hK hP (ci := ciP) (q0 := 0) rfl rfl) hP hK) rfl rfl hl.1 rfl (lv_room (Nat.le_of_ble_eq_true rfl)) d_P_make_37 ⟨Nat.le_of_ble_eq_true rfl, Nat.le_of_ble_eq_true rfl⟩) (fun r_37 hr_37 => ?_)
            rcases hr_37 with ⟨i2, hi2, hx2, hr2⟩ | ⟨hno2, hr2⟩
            · obtain ⟨a2, hwa2, q2, cA2, pl2, hPw2, hKw2, hpl2, hok2, hz2, hzq2⟩ := hall i2 hi2
              have hok2_ := hok2; obtain ⟨hh2, hp02, hp62, hE2⟩ := hok2_
              have ho2 := pw_o_le (Wd i2).2.2 (Wd i2).1 (Wd i2).2.1
              have hc2 := pw_c_le (Wd i2).2.2 (Wd i2).1
              rw [hx2] at hl
              refine pq_top (y := .ref a2) (by rw [hr2, hwa2]; rfl) ?_
              refine lv_goto (tgt := 45) hx hb d_P_make_40 (by decide) ?_
              refine lv_astore (lv' := [(5, .ref a2), (4, .null), (0, .ref o), (1, .int (nI (2))), (2, .int (y)), (3, .int (nI (i2)))]) hx hb d_P_make_45 hl (by decide) rfl (fun ls hl => ?_)
              refine lv_aloadN hx hb d_P_make_47 (lv_at hl 1 rfl) ?_
              refine lv_ifnullN (tgt := 57) hx hb d_P_make_49 (by decide) ?_
              refine lv_iconst (v := (-1)) hx hb d_P_make_57 (by decide) ?_
              refine vx_ret ?_
              refine W.widen (k := 3) (n := 133) (by omega) (by omega) ?_
              exact W.iret (v := (-1)) hx hb hr (fun t_ ht_ hW_ => ⟨⟨_, (n, wa, Wd), rfl, Or.inr ⟨fun ⟨k, i, j, d, w_⟩ => hno1 ⟨i, w_.2.2.2.1, w_.2.2.2.2.1⟩, rfl, rfl, fun _ _ => rfl⟩, by rw [ht_]; exact hP.sub [0, 1] rfl, va_K.moved hW_.alike (hK.sub [0] rfl), hD.sub [0, 1] (by decide) rfl, by rw [ht_]; exact wdAll.moved hW_.alike (cs_keep hAe hoz hqz hS hall)⟩, hS.F ht_⟩) hS.2.2 d_P_make_58
            · refine pq_top (y := .null) (by rw [hr2]; rfl) ?_
              refine lv_goto (tgt := 45) hx hb d_P_make_40 (by decide) ?_
              refine lv_astoreN (lv' := [(5, .null), (4, .null), (0, .ref o), (1, .int (nI (2))), (2, .int (y)), (3, .int (z))]) hx hb d_P_make_45 hl (by decide) rfl (fun ls hl => ?_)
              refine lv_aloadN hx hb d_P_make_47 (lv_at hl 1 rfl) ?_
              refine lv_ifnullN (tgt := 57) hx hb d_P_make_49 (by decide) ?_
              refine lv_iconst (v := (-1)) hx hb d_P_make_57 (by decide) ?_
              refine vx_ret ?_
              refine W.widen (k := 3) (n := 133) (by omega) (by omega) ?_
              exact W.iret (v := (-1)) hx hb hr (fun t_ ht_ hW_ => ⟨⟨_, (n, wa, Wd), rfl, Or.inr ⟨fun ⟨k, i, j, d, w_⟩ => hno1 ⟨i, w_.2.2.2.1, w_.2.2.2.2.1⟩, rfl, rfl, fun _ _ => rfl⟩, by rw [ht_]; exact hP.sub [0, 1] rfl, va_K.moved hW_.alike (hK.sub [0] rfl), hD.sub [0, 1] (by decide) rfl, by rw [ht_]; exact wdAll.moved hW_.alike (cs_keep hAe hoz hqz hS hall)⟩, hS.F ht_⟩) hS.2.2 d_P_make_58
        · refine lv_aload_n hx hb d_P_make_21 rfl (lv_at hl 0 rfl) ?_
          refine lv_iload_n hx hb d_P_make_22 rfl (lv_at hl 2 rfl) ?_
          refine va_csq (W.runV (As := [.int (y)]) (rest := []) ⟨hx, hb, hml, hown, hts⟩ (c_P_find l dC dI hn (x := y)) (cwV 1 hts (gd_V mb_198 mb_200 mb_1 mb_22 mb_201) rfl rfl rfl (by decide +kernel) ⟨Nat.le_of_ble_eq_true rfl, Nat.le_of_ble_eq_true rfl⟩) (pw_R_V (va_recv hK hP (ci := ciP) (q0 := 0) rfl rfl) hP hK) rfl rfl hl.1 rfl (lv_room (Nat.le_of_ble_eq_true rfl)) d_P_make_23 ⟨Nat.le_of_ble_eq_true rfl, Nat.le_of_ble_eq_true rfl⟩) (fun r_23 hr_23 => ?_)
          rcases hr_23 with ⟨i1, hi1, hx1, hr1⟩ | ⟨hno1, hr1⟩
          · obtain ⟨a1, hwa1, q1, cA1, pl1, hPw1, hKw1, hpl1, hok1, hz1, hzq1⟩ := hall i1 hi1
            have hok1_ := hok1; obtain ⟨hh1, hp01, hp61, hE1⟩ := hok1_
            have ho1 := pw_o_le (Wd i1).2.2 (Wd i1).1 (Wd i1).2.1
            have hc1 := pw_c_le (Wd i1).2.2 (Wd i1).1
            rw [hx1] at hl
            refine pq_top (y := .ref a1) (by rw [hr1, hwa1]; rfl) ?_
            refine lv_astore (lv' := [(4, .ref a1), (0, .ref o), (1, .int (nI (3))), (2, .int (nI (i1))), (3, .int (z))]) hx hb d_P_make_26 hl (by decide) rfl (fun ls hl => ?_)
            refine lv_iload_n hx hb d_P_make_28 rfl (lv_at hl 2 rfl) ?_
            refine vp_callSi (W.runS (As := [.int (nI (3))]) (rest := []) ⟨hx, hb, hml, hown, hts⟩ (c_P_needsTwo l dC dI (how := 3) (by decide)) (va_cwS 1 hts (gd_S mb_252 mb_253 mb_22 mb_254) rfl rfl rfl (by decide +kernel) ⟨Nat.le_of_ble_eq_true rfl, Nat.le_of_ble_eq_true rfl⟩) (pw_R_S pw_P0 (hK.sub [] rfl)) rfl rfl hl.1 rfl (lv_room (Nat.le_of_ble_eq_true rfl)) d_P_make_29 ⟨Nat.le_of_ble_eq_true rfl, Nat.le_of_ble_eq_true rfl⟩) (fun r_29 hr_29 => ?_)
            subst hr_29
            refine pq_top (y := .int (nI (0))) (by first | rfl | decide) ?_
            refine pq_if_eq (tgt := 43) (a := 0) hx hb d_P_make_32 (by decide) (by omega) (fun c_32 => ?_) (fun c_32 => absurd c_32 (by omega))
            refine lv_aload hx hb d_P_make_43 (lv_at hl 0 rfl) ?_
            refine lv_astore (lv' := [(5, .ref a1), (4, .ref a1), (0, .ref o), (1, .int (nI (3))), (2, .int (nI (i1))), (3, .int (z))]) hx hb d_P_make_45 hl (by decide) rfl (fun ls hl => ?_)
            refine lv_aload hx hb d_P_make_47 (lv_at hl 1 rfl) ?_
            refine lv_ifnull hx hb d_P_make_49 ?_
            refine lv_aload hx hb d_P_make_52 (lv_at hl 0 rfl) ?_
            refine lv_ifnonnull (tgt := 59) hx hb d_P_make_54 (by decide) ?_
            refine lv_iload_n hx hb d_P_make_59 rfl (lv_at hl 3 rfl) ?_
            refine lv_bipush (v := nI 6) hx hb d_P_make_60 (by decide) ?_
            refine pq_icmp_ne (tgt := 77) (a := 3) (b := 6) hx hb d_P_make_62 (by decide) (by omega) (by omega) (fun c_62 => ?_) (fun c_62 => absurd c_62 (by omega))
            refine lv_iload_n hx hb d_P_make_77 rfl (lv_at hl 3 rfl) ?_
            refine lv_iconst (v := nI 5) hx hb d_P_make_78 (by decide) ?_
            refine pq_icmp_ne (tgt := 100) (a := 3) (b := 5) hx hb d_P_make_79 (by decide) (by omega) (by omega) (fun c_79 => ?_) (fun c_79 => absurd c_79 (by omega))
            refine lv_aload_n hx hb d_P_make_100 rfl (lv_at hl 2 rfl) ?_
            refine lv_iload_n hx hb d_P_make_101 rfl (lv_at hl 3 rfl) ?_
            refine lv_aload hx hb d_P_make_102 (lv_at hl 1 rfl) ?_
            refine lv_aload hx hb d_P_make_104 (lv_at hl 0 rfl) ?_
            refine lv_iload_n hx hb d_P_make_106 rfl (lv_at hl 5 rfl) ?_
            have hWW := hPw1.app hPw1
            have hKW := hKw1.app hKw1
            have hPc := hP.sub (ws' := []) [] rfl
            have hDc := hD.sub (ws' := []) [] (by decide) rfl
            have hKc := hK.sub (tys' := []) [] rfl
            have hFc := va_free (wc := []) hD hS hA [] rfl
            refine va_callr (va_runS (As := [.int (nI (3)), .ref a1, .ref a1, .int (z)]) (rest := [.ref o]) ⟨hx, hb, hml, hown, hts⟩ (c_P_draftOfX l dC dI (a := a1) (q := q1) (cA := cA1) (pl := pl1) (a2 := a1) (q2 := q1) (cA2 := cA1) (pl2 := pl1) hok1 hok1 hpl1 (how := 3) (zz := (z)) (by decide) (by decide) (fun z_ => absurd z_ (by decide))) (va_cwS 4 hts (gd_S mb_108 mb_109 mb_22 mb_110) rfl rfl rfl (by decide +kernel) ⟨Nat.le_of_ble_eq_true rfl, Nat.le_of_ble_eq_true rfl⟩) ⟨dr_blind, fun U hU hW => ⟨rfl, by rw [hU], by rw [hU]; exact hWW, va_K.moved hW.alike hKW⟩⟩ rfl rfl hl.1 rfl (lv_room (Nat.le_of_ble_eq_true rfl)) d_P_make_107 ⟨Nat.le_of_ble_eq_true rfl, Nat.le_of_ble_eq_true rfl⟩) hS (fun q _ h => hFc q h) hFc (fun u_107 r_107 t_ H1 locs ht_ hvm_ hr_107 hB_ hz1_ hk1_ hS => ?_)
            obtain ⟨hP1_, hK1_, hD1_⟩ := hB_
            rw [ht_] at hP1_
            obtain ⟨hP, hD⟩ := va_join (wr := [(o, .inr (ciP, [.ref q, .int (nI (n))])), (q, .inl (cW, 40, .inr (.inr (.inr (.inr wa)))))]) (w1 := [(r_107, .inr (ciD, [.int (nI (u_107.1)), .int (nI (u_107.2.1)), .int (nI (3)), .ref a1, .ref a1, .int (nI (u_107.2.2))]))]) hP hD [] [0, 1] rfl rfl (by decide) (by decide) hk1_ hFc hP1_ hD1_
            generalize H1 = H at hP hS hz1_ hk1_ ⊢
            have hP : va_P (dC, dI) vwCl [(o, .inr (ciP, [.ref q, .int (nI (n))])), (q, .inl (cW, 40, .inr (.inr (.inr (.inr wa))))), (r_107, .inr (ciD, [.int (nI (u_107.1)), .int (nI (u_107.2.1)), .int (nI (3)), .ref a1, .ref a1, .int (nI (u_107.2.2))]))] H := hP
            have hD : va_D A [(o, .inr (ciP, [.ref q, .int (nI (n))])), (q, .inl (cW, 40, .inr (.inr (.inr (.inr wa))))), (r_107, .inr (ciD, [.int (nI (u_107.1)), .int (nI (u_107.2.1)), .int (nI (3)), .ref a1, .ref a1, .int (nI (u_107.2.2))]))] := hD
            obtain ⟨⟨hd1, hd2, hd3, hd4, hd5⟩, hlt⟩ := hr_107
            have hPw1 := cs_wk hAe hoz hqz hS hz1 hzq1 hPw1
            have hPd := hP.sub (ws' := dr r_107 a1 a1 u_107.1 u_107.2.1 3 u_107.2.2) [2] rfl
            have hWW := hPd.app (hPw1.app hPw1)
            have hKW := hKw1.app hKw1
            have hSz := hS.1
            have hPc := hP.sub (ws' := []) [] rfl
            have hDc := hD.sub (ws' := []) [] (by decide) rfl
            have hKc := hK.sub (tys' := []) [] rfl
            have hFc := va_free (wc := []) hD hS hA [] rfl
            refine va_callq (va_runS (As := [.ref r_107]) (rest := [.ref o]) ⟨hx, hb, hml, hown, hts⟩ (c_P_shortestForm l dC dI (a := a1) (q := q1) (cA := cA1) (pl := pl1) (a2 := a1) (q2 := q1) (cA2 := cA1) (pl2 := pl1) hok1 hok1 hpl1 (dd := r_107) (hd := u_107.1) (rd := u_107.2.1) (how := 3) (late := u_107.2.2) (by decide) hd4 (fun z_ => absurd z_ (by decide)) hd1 hd2 hd3 hd5) (va_cwS 1 hts (gd_S mb_163 mb_164 mb_22 mb_165) rfl rfl rfl (by decide +kernel) ⟨Nat.le_of_ble_eq_true rfl, Nat.le_of_ble_eq_true rfl⟩) ⟨dr_blind, fun U hU hW => ⟨rfl, by rw [hU], by rw [hU]; exact hWW, va_K.moved hW.alike hKW⟩⟩ rfl rfl hl.1 rfl (lv_room (Nat.le_of_ble_eq_true rfl)) d_P_make_110 ⟨Nat.le_of_ble_eq_true rfl, Nat.le_of_ble_eq_true rfl⟩) hS (fun q _ h => hFc q h) hFc (fun r_110 u_110 t_ H1 locs ht_ hvm_ hr_110 hB_ hz1_ hk1_ hS => ?_)
            obtain ⟨hr1, hok1⟩ := hr_110
            rw [pw_mk_d (k := 3) (by decide) (Wd i1).2.2 (Wd i1).2.2 u_107.2.2 0] at hok1 hB_
            rcases u_110 with _ | ⟨a9, h9, p9, q9, cA9, pl9⟩
            · subst hr1
              obtain ⟨hP, hD⟩ := va_join (wr := [(o, .inr (ciP, [.ref q, .int (nI (n))])), (q, .inl (cW, 40, .inr (.inr (.inr (.inr wa))))), (r_107, .inr (ciD, [.int (nI (u_107.1)), .int (nI (u_107.2.1)), .int (nI (3)), .ref a1, .ref a1, .int (nI (u_107.2.2))]))]) (w1 := []) hP hD [] [0, 1, 2] rfl rfl (by decide) (by decide) hk1_ hFc pw_P0 pw_D0
              generalize H1 = H at hP hS ⊢
              have hP : va_P (dC, dI) vwCl [(o, .inr (ciP, [.ref q, .int (nI (n))])), (q, .inl (cW, 40, .inr (.inr (.inr (.inr wa))))), (r_107, .inr (ciD, [.int (nI (u_107.1)), .int (nI (u_107.2.1)), .int (nI (3)), .ref a1, .ref a1, .int (nI (u_107.2.2))]))] H := hP
              have hD : va_D A [(o, .inr (ciP, [.ref q, .int (nI (n))])), (q, .inl (cW, 40, .inr (.inr (.inr (.inr wa))))), (r_107, .inr (ciD, [.int (nI (u_107.1)), .int (nI (u_107.2.1)), .int (nI (3)), .ref a1, .ref a1, .int (nI (u_107.2.2))]))] := hD
              obtain ⟨h9, p9, hcan, h60⟩ := hok1
              refine pq_top (y := .null) rfl ?_
              refine vp_callSi (W.runV (As := [.null]) (rest := []) ⟨hx, hb, hml, hown, hts⟩ (c_P_keepN l dC dI (o := o) (q := q) (n := n) (cW := cW) (wa := wa)) (cwV 1 hts (gd_V mb_190 mb_192 mb_0 mb_22 mb_193) rfl rfl rfl (by decide +kernel) ⟨Nat.le_of_ble_eq_true rfl, Nat.le_of_ble_eq_true rfl⟩) (pw_R_V (va_recv hK hP (ci := ciP) (q0 := 0) rfl rfl) (hP.sub [0, 1] rfl) (hK.sub [0] rfl)) rfl rfl hl.1 rfl (lv_room (Nat.le_of_ble_eq_true rfl)) d_P_make_113 ⟨Nat.le_of_ble_eq_true rfl, Nat.le_of_ble_eq_true rfl⟩) (fun r_113 hr_113 => ?_)
              subst hr_113
              refine vx_ret ?_
              refine W.widen (k := 3) (n := 133) (by omega) (by omega) ?_
              exact W.iret (v := (-1)) hx hb hr (fun t_ ht_ hW_ => ⟨⟨_, (n, wa, Wd), rfl, Or.inl ⟨3, i1, i1, 0, ⟨hn40, by decide, rfl, hi1, hx1, fun z_ => absurd z_ (by unfold sp_two; decide), fun z_ => absurd z_ (by decide), fun _ => rfl, fun _ => rfl⟩, fun z_ => absurd z_ (by decide), h9, p9, hcan, Or.inr ⟨h60, rfl, rfl, fun _ _ => rfl⟩⟩, by rw [ht_]; exact hP.sub [0, 1] rfl, va_K.moved hW_.alike (hK.sub [0] rfl), hD.sub [0, 1] (by decide) rfl, by rw [ht_]; exact wdAll.moved hW_.alike (cs_keep hAe hoz hqz hS hall)⟩, hS.F ht_⟩) hS.2.2 d_P_make_116
            · subst hr1
              obtain ⟨hcan, h60, p60, hpl9⟩ := hok1
              obtain ⟨hP1_, hK1_, hD1_⟩ := hB_
              rw [ht_] at hP1_
              have hK9 : va_K (dC, dI) vwCl [(cA9, .int)] s := va_K.moved hvm_.symm hK1_
              have hz9 : z0 ≤ a9 := Nat.le_trans hzs (Nat.le_trans hSz (pw_A0 (hD1_.2 0 _ rfl)))
              have hzq9 : z0 ≤ q9 := Nat.le_trans hzs (Nat.le_trans hSz (pw_A0 (hD1_.2 1 _ rfl)))
              obtain ⟨hP, hD⟩ := va_join (wr := [(o, .inr (ciP, [.ref q, .int (nI (n))])), (q, .inl (cW, 40, .inr (.inr (.inr (.inr wa))))), (r_107, .inr (ciD, [.int (nI (u_107.1)), .int (nI (u_107.2.1)), .int (nI (3)), .ref a1, .ref a1, .int (nI (u_107.2.2))]))]) (w1 := [(a9, .inr (ciW, [.int (nI (h9)), .long (lN (pw_b (pw_mk 3 (Wd i1).2.2 (Wd i1).2.2 0) 0 h9)), .int (nI (p9)), .long (lN (pw_b (pw_mk 3 (Wd i1).2.2 (Wd i1).2.2 0) h9 p9)), .int (nI (pw_c (pw_mk 3 (Wd i1).2.2 (Wd i1).2.2 0) h9)), .int (nI (pw_o (pw_mk 3 (Wd i1).2.2 (Wd i1).2.2 0) h9 p9)), .ref q9])), (q9, .inl (cA9, (pw_c (pw_mk 3 (Wd i1).2.2 (Wd i1).2.2 0) h9 + pw_o (pw_mk 3 (Wd i1).2.2 (Wd i1).2.2 0) h9 p9), .inl pl9))]) hP hD [] [0, 1, 2] rfl rfl (by decide) (by decide) hk1_ hFc hP1_ hD1_
              generalize H1 = H at hP hS ⊢
              have hP : va_P (dC, dI) vwCl [(o, .inr (ciP, [.ref q, .int (nI (n))])), (q, .inl (cW, 40, .inr (.inr (.inr (.inr wa))))), (r_107, .inr (ciD, [.int (nI (u_107.1)), .int (nI (u_107.2.1)), .int (nI (3)), .ref a1, .ref a1, .int (nI (u_107.2.2))])), (a9, .inr (ciW, [.int (nI (h9)), .long (lN (pw_b (pw_mk 3 (Wd i1).2.2 (Wd i1).2.2 0) 0 h9)), .int (nI (p9)), .long (lN (pw_b (pw_mk 3 (Wd i1).2.2 (Wd i1).2.2 0) h9 p9)), .int (nI (pw_c (pw_mk 3 (Wd i1).2.2 (Wd i1).2.2 0) h9)), .int (nI (pw_o (pw_mk 3 (Wd i1).2.2 (Wd i1).2.2 0) h9 p9)), .ref q9])), (q9, .inl (cA9, (pw_c (pw_mk 3 (Wd i1).2.2 (Wd i1).2.2 0) h9 + pw_o (pw_mk 3 (Wd i1).2.2 (Wd i1).2.2 0) h9 p9), .inl pl9))] H := hP
              have hD : va_D A [(o, .inr (ciP, [.ref q, .int (nI (n))])), (q, .inl (cW, 40, .inr (.inr (.inr (.inr wa))))), (r_107, .inr (ciD, [.int (nI (u_107.1)), .int (nI (u_107.2.1)), .int (nI (3)), .ref a1, .ref a1, .int (nI (u_107.2.2))])), (a9, .inr (ciW, [.int (nI (h9)), .long (lN (pw_b (pw_mk 3 (Wd i1).2.2 (Wd i1).2.2 0) 0 h9)), .int (nI (p9)), .long (lN (pw_b (pw_mk 3 (Wd i1).2.2 (Wd i1).2.2 0) h9 p9)), .int (nI (pw_c (pw_mk 3 (Wd i1).2.2 (Wd i1).2.2 0) h9)), .int (nI (pw_o (pw_mk 3 (Wd i1).2.2 (Wd i1).2.2 0) h9 p9)), .ref q9])), (q9, .inl (cA9, (pw_c (pw_mk 3 (Wd i1).2.2 (Wd i1).2.2 0) h9 + pw_o (pw_mk 3 (Wd i1).2.2 (Wd i1).2.2 0) h9 p9), .inl pl9))] := hD
              refine pq_top (y := .ref a9) rfl ?_
              have hPc := hP.sub (ws' := [(o, .inr (ciP, [.ref q, .int (nI (n))])), (q, .inl (cW, 40, .inr (.inr (.inr (.inr wa))))), (a9, .inr (ciW, [.int (nI (h9)), .long (lN (pw_b (pw_mk 3 (Wd i1).2.2 (Wd i1).2.2 0) 0 h9)), .int (nI (p9)), .long (lN (pw_b (pw_mk 3 (Wd i1).2.2 (Wd i1).2.2 0) h9 p9)), .int (nI (pw_c (pw_mk 3 (Wd i1).2.2 (Wd i1).2.2 0) h9)), .int (nI (pw_o (pw_mk 3 (Wd i1).2.2 (Wd i1).2.2 0) h9 p9)), .ref q9]))]) [0, 1, 3] rfl
              have hDc := hD.sub (ws' := [(o, .inr (ciP, [.ref q, .int (nI (n))])), (q, .inl (cW, 40, .inr (.inr (.inr (.inr wa))))), (a9, .inr (ciW, [.int (nI (h9)), .long (lN (pw_b (pw_mk 3 (Wd i1).2.2 (Wd i1).2.2 0) 0 h9)), .int (nI (p9)), .long (lN (pw_b (pw_mk 3 (Wd i1).2.2 (Wd i1).2.2 0) h9 p9)), .int (nI (pw_c (pw_mk 3 (Wd i1).2.2 (Wd i1).2.2 0) h9)), .int (nI (pw_o (pw_mk 3 (Wd i1).2.2 (Wd i1).2.2 0) h9 p9)), .ref q9]))]) [0, 1, 3] (by decide) rfl
              have hKc := hK.sub (tys' := [(cW, .object "PeriodWords$Word")]) [0] rfl
              have hFc := va_free (wc := [(o, .inr (ciP, [.ref q, .int (nI (n))])), (q, .inl (cW, 40, .inr (.inr (.inr (.inr wa))))), (a9, .inr (ciW, [.int (nI (h9)), .long (lN (pw_b (pw_mk 3 (Wd i1).2.2 (Wd i1).2.2 0) 0 h9)), .int (nI (p9)), .long (lN (pw_b (pw_mk 3 (Wd i1).2.2 (Wd i1).2.2 0) h9 p9)), .int (nI (pw_c (pw_mk 3 (Wd i1).2.2 (Wd i1).2.2 0) h9)), .int (nI (pw_o (pw_mk 3 (Wd i1).2.2 (Wd i1).2.2 0) h9 p9)), .ref q9]))]) hD hS hA [0, 1, 3] rfl
              refine va_calli (va_runV (As := [.ref a9]) (rest := []) ⟨hx, hb, hml, hown, hts⟩ (c_P_keep l dC dI (o := o) (q := q) (n := n) (cW := cW) (wa := wa) (a := a9) (h := h9) (pp := p9) (qq := q9) (f := (pw_mk 3 (Wd i1).2.2 (Wd i1).2.2 0)) hn40) (cwV 1 hts (gd_V mb_190 mb_192 mb_0 mb_22 mb_193) rfl rfl rfl (by decide +kernel) ⟨Nat.le_of_ble_eq_true rfl, Nat.le_of_ble_eq_true rfl⟩) ⟨md_blind, va_recv hK hP (ci := ciP) (q0 := 0) rfl rfl, fun U hU hW => ⟨rfl, by rw [hU], by rw [hU]; exact hPc, va_K.moved hW.alike hKc, hDc.weaken (fun _ _ _ _ => trivial)⟩⟩ rfl rfl hl.1 rfl (lv_room (Nat.le_of_ble_eq_true rfl)) d_P_make_113 ⟨Nat.le_of_ble_eq_true rfl, Nat.le_of_ble_eq_true rfl⟩) hS (fun q _ h => hFc q h) hFc (fun r_113 u_113 t_ H1 locs ht_ hvm_ hr_113 hB_ hz1_ hk1_ hS => ?_)
              obtain ⟨hra, hrb⟩ := hr_113
              subst hra
              subst hrb
              obtain ⟨hP1_, hK1_, hD1_⟩ := hB_
              rw [ht_] at hP1_
              obtain ⟨hP, hD⟩ := va_join (wr := [(r_107, .inr (ciD, [.int (nI (u_107.1)), .int (nI (u_107.2.1)), .int (nI (3)), .ref a1, .ref a1, .int (nI (u_107.2.2))])), (q9, .inl (cA9, (pw_c (pw_mk 3 (Wd i1).2.2 (Wd i1).2.2 0) h9 + pw_o (pw_mk 3 (Wd i1).2.2 (Wd i1).2.2 0) h9 p9), .inl pl9))]) (w1 := [(o, .inr (ciP, [.ref q, .int (nI (n + 1))])), (q, .inl (cW, 40, .inr (.inr (.inr (.inr (va_up wa n (some a9))))))), (a9, .inr (ciW, [.int (nI (h9)), .long (lN (pw_b (pw_mk 3 (Wd i1).2.2 (Wd i1).2.2 0) 0 h9)), .int (nI (p9)), .long (lN (pw_b (pw_mk 3 (Wd i1).2.2 (Wd i1).2.2 0) h9 p9)), .int (nI (pw_c (pw_mk 3 (Wd i1).2.2 (Wd i1).2.2 0) h9)), .int (nI (pw_o (pw_mk 3 (Wd i1).2.2 (Wd i1).2.2 0) h9 p9)), .ref q9]))]) hP hD [0, 1, 3] [2, 4] rfl rfl (by decide) (by decide) hk1_ hFc hP1_ hD1_
              generalize H1 = H at hP hS ⊢
              have hP : va_P (dC, dI) vwCl [(r_107, .inr (ciD, [.int (nI (u_107.1)), .int (nI (u_107.2.1)), .int (nI (3)), .ref a1, .ref a1, .int (nI (u_107.2.2))])), (q9, .inl (cA9, (pw_c (pw_mk 3 (Wd i1).2.2 (Wd i1).2.2 0) h9 + pw_o (pw_mk 3 (Wd i1).2.2 (Wd i1).2.2 0) h9 p9), .inl pl9)), (o, .inr (ciP, [.ref q, .int (nI (n + 1))])), (q, .inl (cW, 40, .inr (.inr (.inr (.inr (va_up wa n (some a9))))))), (a9, .inr (ciW, [.int (nI (h9)), .long (lN (pw_b (pw_mk 3 (Wd i1).2.2 (Wd i1).2.2 0) 0 h9)), .int (nI (p9)), .long (lN (pw_b (pw_mk 3 (Wd i1).2.2 (Wd i1).2.2 0) h9 p9)), .int (nI (pw_c (pw_mk 3 (Wd i1).2.2 (Wd i1).2.2 0) h9)), .int (nI (pw_o (pw_mk 3 (Wd i1).2.2 (Wd i1).2.2 0) h9 p9)), .ref q9]))] H := hP
              have hD : va_D A [(r_107, .inr (ciD, [.int (nI (u_107.1)), .int (nI (u_107.2.1)), .int (nI (3)), .ref a1, .ref a1, .int (nI (u_107.2.2))])), (q9, .inl (cA9, (pw_c (pw_mk 3 (Wd i1).2.2 (Wd i1).2.2 0) h9 + pw_o (pw_mk 3 (Wd i1).2.2 (Wd i1).2.2 0) h9 p9), .inl pl9)), (o, .inr (ciP, [.ref q, .int (nI (n + 1))])), (q, .inl (cW, 40, .inr (.inr (.inr (.inr (va_up wa n (some a9))))))), (a9, .inr (ciW, [.int (nI (h9)), .long (lN (pw_b (pw_mk 3 (Wd i1).2.2 (Wd i1).2.2 0) 0 h9)), .int (nI (p9)), .long (lN (pw_b (pw_mk 3 (Wd i1).2.2 (Wd i1).2.2 0) h9 p9)), .int (nI (pw_c (pw_mk 3 (Wd i1).2.2 (Wd i1).2.2 0) h9)), .int (nI (pw_o (pw_mk 3 (Wd i1).2.2 (Wd i1).2.2 0) h9 p9)), .ref q9]))] := hD
              refine vx_ret ?_
              refine W.widen (k := 3) (n := 133) (by omega) (by omega) ?_
              exact W.iret (v := (nI (n))) hx hb hr (fun t_ ht_ hW_ => ⟨⟨_, (n + 1, va_up wa n (some a9), fun i => if i = n then (h9, p9, (pw_mk 3 (Wd i1).2.2 (Wd i1).2.2 0)) else Wd i), rfl, Or.inl ⟨3, i1, i1, 0, ⟨hn40, by decide, rfl, hi1, hx1, fun z_ => absurd z_ (by unfold sp_two; decide), fun z_ => absurd z_ (by decide), fun _ => rfl, fun _ => rfl⟩, fun z_ => absurd z_ (by decide), h9, p9, hcan, Or.inl ⟨h60, p60, rfl, rfl, if_pos rfl, fun i hi => if_neg (Nat.ne_of_lt hi)⟩⟩, by rw [ht_]; exact hP.sub [2, 3] rfl, va_K.moved hW_.alike (hK.sub [0] rfl), hD.sub [2, 3] (by decide) rfl, by rw [ht_]; exact wdAll.moved hW_.alike (cs_new (cs_keep hAe hoz hqz hS hall) ⟨q9, cA9, pl9, hP.sub [4, 1] rfl, hK9, hpl9, ⟨h60, hcan.1, p60, hcan.2.1⟩, hz9, hzq9⟩)⟩, hS.F ht_⟩) hS.2.2 d_P_make_116
          · refine pq_top (y := .null) (by rw [hr1]; rfl) ?_
            refine lv_astoreN (lv' := [(4, .null), (0, .ref o), (1, .int (nI (3))), (2, .int (y)), (3, .int (z))]) hx hb d_P_make_26 hl (by decide) rfl (fun ls hl => ?_)
            refine lv_iload_n hx hb d_P_make_28 rfl (lv_at hl 2 rfl) ?_
            refine vp_callSi (W.runS (As := [.int (nI (3))]) (rest := []) ⟨hx, hb, hml, hown, hts⟩ (c_P_needsTwo l dC dI (how := 3) (by decide)) (va_cwS 1 hts (gd_S mb_252 mb_253 mb_22 mb_254) rfl rfl rfl (by decide +kernel) ⟨Nat.le_of_ble_eq_true rfl, Nat.le_of_ble_eq_true rfl⟩) (pw_R_S pw_P0 (hK.sub [] rfl)) rfl rfl hl.1 rfl (lv_room (Nat.le_of_ble_eq_true rfl)) d_P_make_29 ⟨Nat.le_of_ble_eq_true rfl, Nat.le_of_ble_eq_true rfl⟩) (fun r_29 hr_29 => ?_)
            subst hr_29
            refine pq_top (y := .int (nI (0))) (by first | rfl | decide) ?_
            refine pq_if_eq (tgt := 43) (a := 0) hx hb d_P_make_32 (by decide) (by omega) (fun c_32 => ?_) (fun c_32 => absurd c_32 (by omega))
            refine lv_aloadN hx hb d_P_make_43 (lv_at hl 0 rfl) ?_
            refine lv_astoreN (lv' := [(5, .null), (4, .null), (0, .ref o), (1, .int (nI (3))), (2, .int (y)), (3, .int (z))]) hx hb d_P_make_45 hl (by decide) rfl (fun ls hl => ?_)
            refine lv_aloadN hx hb d_P_make_47 (lv_at hl 1 rfl) ?_
            refine lv_ifnullN (tgt := 57) hx hb d_P_make_49 (by decide) ?_
            refine lv_iconst (v := (-1)) hx hb d_P_make_57 (by decide) ?_
            refine vx_ret ?_
            refine W.widen (k := 3) (n := 133) (by omega) (by omega) ?_
            exact W.iret (v := (-1)) hx hb hr (fun t_ ht_ hW_ => ⟨⟨_, (n, wa, Wd), rfl, Or.inr ⟨fun ⟨k, i, j, d, w_⟩ => hno1 ⟨i, w_.2.2.2.1, w_.2.2.2.2.1⟩, rfl, rfl, fun _ _ => rfl⟩, by rw [ht_]; exact hP.sub [0, 1] rfl, va_K.moved hW_.alike (hK.sub [0] rfl), hD.sub [0, 1] (by decide) rfl, by rw [ht_]; exact wdAll.moved hW_.alike (cs_keep hAe hoz hqz hS hall)⟩, hS.F ht_⟩) hS.2.2 d_P_make_58
        · refine lv_aload_n hx hb d_P_make_21 rfl (lv_at hl 0 rfl) ?_
          refine lv_iload_n hx hb d_P_make_22 rfl (lv_at hl 2 rfl) ?_
          refine va_csq (W.runV (As := [.int (y)]) (rest := []) ⟨hx, hb, hml, hown, hts⟩ (c_P_find l dC dI hn (x := y)) (cwV 1 hts (gd_V mb_198 mb_200 mb_1 mb_22 mb_201) rfl rfl rfl (by decide +kernel) ⟨Nat.le_of_ble_eq_true rfl, Nat.le_of_ble_eq_true rfl⟩) (pw_R_V (va_recv hK hP (ci := ciP) (q0 := 0) rfl rfl) hP hK) rfl rfl hl.1 rfl (lv_room (Nat.le_of_ble_eq_true rfl)) d_P_make_23 ⟨Nat.le_of_ble_eq_true rfl, Nat.le_of_ble_eq_true rfl⟩) (fun r_23 hr_23 => ?_)
          rcases hr_23 with ⟨i1, hi1, hx1, hr1⟩ | ⟨hno1, hr1⟩
          · obtain ⟨a1, hwa1, q1, cA1, pl1, hPw1, hKw1, hpl1, hok1, hz1, hzq1⟩ := hall i1 hi1
            have hok1_ := hok1; obtain ⟨hh1, hp01, hp61, hE1⟩ := hok1_
            have ho1 := pw_o_le (Wd i1).2.2 (Wd i1).1 (Wd i1).2.1
            have hc1 := pw_c_le (Wd i1).2.2 (Wd i1).1
            rw [hx1] at hl
            refine pq_top (y := .ref a1) (by rw [hr1, hwa1]; rfl) ?_
            refine lv_astore (lv' := [(4, .ref a1), (0, .ref o), (1, .int (nI (4))), (2, .int (nI (i1))), (3, .int (z))]) hx hb d_P_make_26 hl (by decide) rfl (fun ls hl => ?_)
            refine lv_iload_n hx hb d_P_make_28 rfl (lv_at hl 2 rfl) ?_
            refine vp_callSi (W.runS (As := [.int (nI (4))]) (rest := []) ⟨hx, hb, hml, hown, hts⟩ (c_P_needsTwo l dC dI (how := 4) (by decide)) (va_cwS 1 hts (gd_S mb_252 mb_253 mb_22 mb_254) rfl rfl rfl (by decide +kernel) ⟨Nat.le_of_ble_eq_true rfl, Nat.le_of_ble_eq_true rfl⟩) (pw_R_S pw_P0 (hK.sub [] rfl)) rfl rfl hl.1 rfl (lv_room (Nat.le_of_ble_eq_true rfl)) d_P_make_29 ⟨Nat.le_of_ble_eq_true rfl, Nat.le_of_ble_eq_true rfl⟩) (fun r_29 hr_29 => ?_)
            subst hr_29
            refine pq_top (y := .int (nI (1))) (by first | rfl | decide) ?_
            refine pq_if_eq (tgt := 43) (a := 1) hx hb d_P_make_32 (by decide) (by omega) (fun c_32 => absurd c_32 (by omega)) (fun c_32 => ?_)
            refine lv_aload_n hx hb d_P_make_35 rfl (lv_at hl 1 rfl) ?_
            refine lv_iload_n hx hb d_P_make_36 rfl (lv_at hl 4 rfl) ?_
            refine va_csq (W.runV (As := [.int (z)]) (rest := []) ⟨hx, hb, hml, hown, hts⟩ (c_P_find l dC dI hn (x := z)) (cwV 1 hts (gd_V mb_198 mb_200 mb_1 mb_22 mb_201) rfl rfl rfl (by decide +kernel) ⟨Nat.le_of_ble_eq_true rfl, Nat.le_of_ble_eq_true rfl⟩) (pw_R_V (va_recv hK hP (ci := ciP) (q0 := 0) rfl rfl) hP hK) rfl rfl hl.1 rfl (lv_room (Nat.le_of_ble_eq_true rfl)) d_P_make_37 ⟨Nat.le_of_ble_eq_true rfl, Nat.le_of_ble_eq_true rfl⟩) (fun r_37 hr_37 => ?_)
            rcases hr_37 with ⟨i2, hi2, hx2, hr2⟩ | ⟨hno2, hr2⟩
            · obtain ⟨a2, hwa2, q2, cA2, pl2, hPw2, hKw2, hpl2, hok2, hz2, hzq2⟩ := hall i2 hi2
              have hok2_ := hok2; obtain ⟨hh2, hp02, hp62, hE2⟩ := hok2_
              have ho2 := pw_o_le (Wd i2).2.2 (Wd i2).1 (Wd i2).2.1
              have hc2 := pw_c_le (Wd i2).2.2 (Wd i2).1
              rw [hx2] at hl
              refine pq_top (y := .ref a2) (by rw [hr2, hwa2]; rfl) ?_
              refine lv_goto (tgt := 45) hx hb d_P_make_40 (by decide) ?_
              refine lv_astore (lv' := [(5, .ref a2), (4, .ref a1), (0, .ref o), (1, .int (nI (4))), (2, .int (nI (i1))), (3, .int (nI (i2)))]) hx hb d_P_make_45 hl (by decide) rfl (fun ls hl => ?_)
              refine lv_aload hx hb d_P_make_47 (lv_at hl 1 rfl) ?_
              refine lv_ifnull hx hb d_P_make_49 ?_
              refine lv_aload hx hb d_P_make_52 (lv_at hl 0 rfl) ?_
              refine lv_ifnonnull (tgt := 59) hx hb d_P_make_54 (by decide) ?_
              refine lv_iload_n hx hb d_P_make_59 rfl (lv_at hl 3 rfl) ?_
              refine lv_bipush (v := nI 6) hx hb d_P_make_60 (by decide) ?_
              refine pq_icmp_ne (tgt := 77) (a := 4) (b := 6) hx hb d_P_make_62 (by decide) (by omega) (by omega) (fun c_62 => ?_) (fun c_62 => absurd c_62 (by omega))
              refine lv_iload_n hx hb d_P_make_77 rfl (lv_at hl 3 rfl) ?_
              refine lv_iconst (v := nI 5) hx hb d_P_make_78 (by decide) ?_
              refine pq_icmp_ne (tgt := 100) (a := 4) (b := 5) hx hb d_P_make_79 (by decide) (by omega) (by omega) (fun c_79 => ?_) (fun c_79 => absurd c_79 (by omega))
              refine lv_aload_n hx hb d_P_make_100 rfl (lv_at hl 2 rfl) ?_
              refine lv_iload_n hx hb d_P_make_101 rfl (lv_at hl 3 rfl) ?_
              refine lv_aload hx hb d_P_make_102 (lv_at hl 1 rfl) ?_
              refine lv_aload hx hb d_P_make_104 (lv_at hl 0 rfl) ?_
              refine lv_iload_n hx hb d_P_make_106 rfl (lv_at hl 5 rfl) ?_
              have hWW := hPw1.app hPw2
              have hKW := hKw1.app hKw2
              have hPc := hP.sub (ws' := []) [] rfl
              have hDc := hD.sub (ws' := []) [] (by decide) rfl
              have hKc := hK.sub (tys' := []) [] rfl
              have hFc := va_free (wc := []) hD hS hA [] rfl
              refine va_callr (va_runS (As := [.int (nI (4)), .ref a1, .ref a2, .int (nI (i2))]) (rest := [.ref o]) ⟨hx, hb, hml, hown, hts⟩ (c_P_draftOfX l dC dI (a := a1) (q := q1) (cA := cA1) (pl := pl1) (a2 := a2) (q2 := q2) (cA2 := cA2) (pl2 := pl2) hok1 hok2 hpl1 (how := 4) (zz := (nI (i2))) (by decide) (by decide) (fun z_ => absurd z_ (by decide))) (va_cwS 4 hts (gd_S mb_108 mb_109 mb_22 mb_110) rfl rfl rfl (by decide +kernel) ⟨Nat.le_of_ble_eq_true rfl, Nat.le_of_ble_eq_true rfl⟩) ⟨dr_blind, fun U hU hW => ⟨rfl, by rw [hU], by rw [hU]; exact hWW, va_K.moved hW.alike hKW⟩⟩ rfl rfl hl.1 rfl (lv_room (Nat.le_of_ble_eq_true rfl)) d_P_make_107 ⟨Nat.le_of_ble_eq_true rfl, Nat.le_of_ble_eq_true rfl⟩) hS (fun q _ h => hFc q h) hFc (fun u_107 r_107 t_ H1 locs ht_ hvm_ hr_107 hB_ hz1_ hk1_ hS => ?_)
              obtain ⟨hP1_, hK1_, hD1_⟩ := hB_
              rw [ht_] at hP1_
              obtain ⟨hP, hD⟩ := va_join (wr := [(o, .inr (ciP, [.ref q, .int (nI (n))])), (q, .inl (cW, 40, .inr (.inr (.inr (.inr wa)))))]) (w1 := [(r_107, .inr (ciD, [.int (nI (u_107.1)), .int (nI (u_107.2.1)), .int (nI (4)), .ref a1, .ref a2, .int (nI (u_107.2.2))]))]) hP hD [] [0, 1] rfl rfl (by decide) (by decide) hk1_ hFc hP1_ hD1_
              generalize H1 = H at hP hS hz1_ hk1_ ⊢
              have hP : va_P (dC, dI) vwCl [(o, .inr (ciP, [.ref q, .int (nI (n))])), (q, .inl (cW, 40, .inr (.inr (.inr (.inr wa))))), (r_107, .inr (ciD, [.int (nI (u_107.1)), .int (nI (u_107.2.1)), .int (nI (4)), .ref a1, .ref a2, .int (nI (u_107.2.2))]))] H := hP
              have hD : va_D A [(o, .inr (ciP, [.ref q, .int (nI (n))])), (q, .inl (cW, 40, .inr (.inr (.inr (.inr wa))))), (r_107, .inr (ciD, [.int (nI (u_107.1)), .int (nI (u_107.2.1)), .int (nI (4)), .ref a1, .ref a2, .int (nI (u_107.2.2))]))] := hD
              obtain ⟨⟨hd1, hd2, hd3, hd4, hd5⟩, hlt⟩ := hr_107
              have hPw1 := cs_wk hAe hoz hqz hS hz1 hzq1 hPw1
              have hPw2 := cs_wk hAe hoz hqz hS hz2 hzq2 hPw2
              have hPd := hP.sub (ws' := dr r_107 a1 a2 u_107.1 u_107.2.1 4 u_107.2.2) [2] rfl
              have hWW := hPd.app (hPw1.app hPw2)
              have hKW := hKw1.app hKw2
              have hSz := hS.1
              have hPc := hP.sub (ws' := []) [] rfl
              have hDc := hD.sub (ws' := []) [] (by decide) rfl
              have hKc := hK.sub (tys' := []) [] rfl
              have hFc := va_free (wc := []) hD hS hA [] rfl
              refine va_callq (va_runS (As := [.ref r_107]) (rest := [.ref o]) ⟨hx, hb, hml, hown, hts⟩ (c_P_shortestForm l dC dI (a := a1) (q := q1) (cA := cA1) (pl := pl1) (a2 := a2) (q2 := q2) (cA2 := cA2) (pl2 := pl2) hok1 hok2 hpl2 (dd := r_107) (hd := u_107.1) (rd := u_107.2.1) (how := 4) (late := u_107.2.2) (by decide) hd4 (fun z_ => absurd z_ (by decide)) hd1 hd2 hd3 hd5) (va_cwS 1 hts (gd_S mb_163 mb_164 mb_22 mb_165) rfl rfl rfl (by decide +kernel) ⟨Nat.le_of_ble_eq_true rfl, Nat.le_of_ble_eq_true rfl⟩) ⟨dr_blind, fun U hU hW => ⟨rfl, by rw [hU], by rw [hU]; exact hWW, va_K.moved hW.alike hKW⟩⟩ rfl rfl hl.1 rfl (lv_room (Nat.le_of_ble_eq_true rfl)) d_P_make_110 ⟨Nat.le_of_ble_eq_true rfl, Nat.le_of_ble_eq_true rfl⟩) hS (fun q _ h => hFc q h) hFc (fun r_110 u_110 t_ H1 locs ht_ hvm_ hr_110 hB_ hz1_ hk1_ hS => ?_)
              obtain ⟨hr1, hok1⟩ := hr_110
              rw [pw_mk_d (k := 4) (by decide) (Wd i1).2.2 (Wd i2).2.2 u_107.2.2 0] at hok1 hB_
              rcases u_110 with _ | ⟨a9, h9, p9, q9, cA9, pl9⟩
              · subst hr1
                obtain ⟨hP, hD⟩ := va_join (wr := [(o, .inr (ciP, [.ref q, .int (nI (n))])), (q, .inl (cW, 40, .inr (.inr (.inr (.inr wa))))), (r_107, .inr (ciD, [.int (nI (u_107.1)), .int (nI (u_107.2.1)), .int (nI (4)), .ref a1, .ref a2, .int (nI (u_107.2.2))]))]) (w1 := []) hP hD [] [0, 1, 2] rfl rfl (by decide) (by decide) hk1_ hFc pw_P0 pw_D0
                generalize H1 = H at hP hS ⊢
                have hP : va_P (dC, dI) vwCl [(o, .inr (ciP, [.ref q, .int (nI (n))])), (q, .inl (cW, 40, .inr (.inr (.inr (.inr wa))))), (r_107, .inr (ciD, [.int (nI (u_107.1)), .int (nI (u_107.2.1)), .int (nI (4)), .ref a1, .ref a2, .int (nI (u_107.2.2))]))] H := hP
                have hD : va_D A [(o, .inr (ciP, [.ref q, .int (nI (n))])), (q, .inl (cW, 40, .inr (.inr (.inr (.inr wa))))), (r_107, .inr (ciD, [.int (nI (u_107.1)), .int (nI (u_107.2.1)), .int (nI (4)), .ref a1, .ref a2, .int (nI (u_107.2.2))]))] := hD
                obtain ⟨h9, p9, hcan, h60⟩ := hok1
                refine pq_top (y := .null) rfl ?_
                refine vp_callSi (W.runV (As := [.null]) (rest := []) ⟨hx, hb, hml, hown, hts⟩ (c_P_keepN l dC dI (o := o) (q := q) (n := n) (cW := cW) (wa := wa)) (cwV 1 hts (gd_V mb_190 mb_192 mb_0 mb_22 mb_193) rfl rfl rfl (by decide +kernel) ⟨Nat.le_of_ble_eq_true rfl, Nat.le_of_ble_eq_true rfl⟩) (pw_R_V (va_recv hK hP (ci := ciP) (q0 := 0) rfl rfl) (hP.sub [0, 1] rfl) (hK.sub [0] rfl)) rfl rfl hl.1 rfl (lv_room (Nat.le_of_ble_eq_true rfl)) d_P_make_113 ⟨Nat.le_of_ble_eq_true rfl, Nat.le_of_ble_eq_true rfl⟩) (fun r_113 hr_113 => ?_)
                subst hr_113
                refine vx_ret ?_
                refine W.widen (k := 3) (n := 133) (by omega) (by omega) ?_
                exact W.iret (v := (-1)) hx hb hr (fun t_ ht_ hW_ => ⟨⟨_, (n, wa, Wd), rfl, Or.inl ⟨4, i1, i2, 0, ⟨hn40, by decide, rfl, hi1, hx1, fun _ => ⟨hi2, hx2⟩, fun z_ => absurd z_ (by decide), fun z_ => absurd (show sp_two 4 by unfold sp_two; decide) z_, fun _ => rfl⟩, fun z_ => absurd z_ (by decide), h9, p9, hcan, Or.inr ⟨h60, rfl, rfl, fun _ _ => rfl⟩⟩, by rw [ht_]; exact hP.sub [0, 1] rfl, va_K.moved hW_.alike (hK.sub [0] rfl), hD.sub [0, 1] (by decide) rfl, by rw [ht_]; exact wdAll.moved hW_.alike (cs_keep hAe hoz hqz hS hall)⟩, hS.F ht_⟩) hS.2.2 d_P_make_116
              · subst hr1
                obtain ⟨hcan, h60, p60, hpl9⟩ := hok1
                obtain ⟨hP1_, hK1_, hD1_⟩ := hB_
                rw [ht_] at hP1_
                have hK9 : va_K (dC, dI) vwCl [(cA9, .int)] s := va_K.moved hvm_.symm hK1_
                have hz9 : z0 ≤ a9 := Nat.le_trans hzs (Nat.le_trans hSz (pw_A0 (hD1_.2 0 _ rfl)))
                have hzq9 : z0 ≤ q9 := Nat.le_trans hzs (Nat.le_trans hSz (pw_A0 (hD1_.2 1 _ rfl)))
                obtain ⟨hP, hD⟩ := va_join (wr := [(o, .inr (ciP, [.ref q, .int (nI (n))])), (q, .inl (cW, 40, .inr (.inr (.inr (.inr wa))))), (r_107, .inr (ciD, [.int (nI (u_107.1)), .int (nI (u_107.2.1)), .int (nI (4)), .ref a1, .ref a2, .int (nI (u_107.2.2))]))]) (w1 := [(a9, .inr (ciW, [.int (nI (h9)), .long (lN (pw_b (pw_mk 4 (Wd i1).2.2 (Wd i2).2.2 0) 0 h9)), .int (nI (p9)), .long (lN (pw_b (pw_mk 4 (Wd i1).2.2 (Wd i2).2.2 0) h9 p9)), .int (nI (pw_c (pw_mk 4 (Wd i1).2.2 (Wd i2).2.2 0) h9)), .int (nI (pw_o (pw_mk 4 (Wd i1).2.2 (Wd i2).2.2 0) h9 p9)), .ref q9])), (q9, .inl (cA9, (pw_c (pw_mk 4 (Wd i1).2.2 (Wd i2).2.2 0) h9 + pw_o (pw_mk 4 (Wd i1).2.2 (Wd i2).2.2 0) h9 p9), .inl pl9))]) hP hD [] [0, 1, 2] rfl rfl (by decide) (by decide) hk1_ hFc hP1_ hD1_
                generalize H1 = H at hP hS ⊢
                have hP : va_P (dC, dI) vwCl [(o, .inr (ciP, [.ref q, .int (nI (n))])), (q, .inl (cW, 40, .inr (.inr (.inr (.inr wa))))), (r_107, .inr (ciD, [.int (nI (u_107.1)), .int (nI (u_107.2.1)), .int (nI (4)), .ref a1, .ref a2, .int (nI (u_107.2.2))])), (a9, .inr (ciW, [.int (nI (h9)), .long (lN (pw_b (pw_mk 4 (Wd i1).2.2 (Wd i2).2.2 0) 0 h9)), .int (nI (p9)), .long (lN (pw_b (pw_mk 4 (Wd i1).2.2 (Wd i2).2.2 0) h9 p9)), .int (nI (pw_c (pw_mk 4 (Wd i1).2.2 (Wd i2).2.2 0) h9)), .int (nI (pw_o (pw_mk 4 (Wd i1).2.2 (Wd i2).2.2 0) h9 p9)), .ref q9])), (q9, .inl (cA9, (pw_c (pw_mk 4 (Wd i1).2.2 (Wd i2).2.2 0) h9 + pw_o (pw_mk 4 (Wd i1).2.2 (Wd i2).2.2 0) h9 p9), .inl pl9))] H := hP
                have hD : va_D A [(o, .inr (ciP, [.ref q, .int (nI (n))])), (q, .inl (cW, 40, .inr (.inr (.inr (.inr wa))))), (r_107, .inr (ciD, [.int (nI (u_107.1)), .int (nI (u_107.2.1)), .int (nI (4)), .ref a1, .ref a2, .int (nI (u_107.2.2))])), (a9, .inr (ciW, [.int (nI (h9)), .long (lN (pw_b (pw_mk 4 (Wd i1).2.2 (Wd i2).2.2 0) 0 h9)), .int (nI (p9)), .long (lN (pw_b (pw_mk 4 (Wd i1).2.2 (Wd i2).2.2 0) h9 p9)), .int (nI (pw_c (pw_mk 4 (Wd i1).2.2 (Wd i2).2.2 0) h9)), .int (nI (pw_o (pw_mk 4 (Wd i1).2.2 (Wd i2).2.2 0) h9 p9)), .ref q9])), (q9, .inl (cA9, (pw_c (pw_mk 4 (Wd i1).2.2 (Wd i2).2.2 0) h9 + pw_o (pw_mk 4 (Wd i1).2.2 (Wd i2).2.2 0) h9 p9), .inl pl9))] := hD
                refine pq_top (y := .ref a9) rfl ?_
                have hPc := hP.sub (ws' := [(o, .inr (ciP, [.ref q, .int (nI (n))])), (q, .inl (cW, 40, .inr (.inr (.inr (.inr wa))))), (a9, .inr (ciW, [.int (nI (h9)), .long (lN (pw_b (pw_mk 4 (Wd i1).2.2 (Wd i2).2.2 0) 0 h9)), .int (nI (p9)), .long (lN (pw_b (pw_mk 4 (Wd i1).2.2 (Wd i2).2.2 0) h9 p9)), .int (nI (pw_c (pw_mk 4 (Wd i1).2.2 (Wd i2).2.2 0) h9)), .int (nI (pw_o (pw_mk 4 (Wd i1).2.2 (Wd i2).2.2 0) h9 p9)), .ref q9]))]) [0, 1, 3] rfl
                have hDc := hD.sub (ws' := [(o, .inr (ciP, [.ref q, .int (nI (n))])), (q, .inl (cW, 40, .inr (.inr (.inr (.inr wa))))), (a9, .inr (ciW, [.int (nI (h9)), .long (lN (pw_b (pw_mk 4 (Wd i1).2.2 (Wd i2).2.2 0) 0 h9)), .int (nI (p9)), .long (lN (pw_b (pw_mk 4 (Wd i1).2.2 (Wd i2).2.2 0) h9 p9)), .int (nI (pw_c (pw_mk 4 (Wd i1).2.2 (Wd i2).2.2 0) h9)), .int (nI (pw_o (pw_mk 4 (Wd i1).2.2 (Wd i2).2.2 0) h9 p9)), .ref q9]))]) [0, 1, 3] (by decide) rfl
                have hKc := hK.sub (tys' := [(cW, .object "PeriodWords$Word")]) [0] rfl
                have hFc := va_free (wc := [(o, .inr (ciP, [.ref q, .int (nI (n))])), (q, .inl (cW, 40, .inr (.inr (.inr (.inr wa))))), (a9, .inr (ciW, [.int (nI (h9)), .long (lN (pw_b (pw_mk 4 (Wd i1).2.2 (Wd i2).2.2 0) 0 h9)), .int (nI (p9)), .long (lN (pw_b (pw_mk 4 (Wd i1).2.2 (Wd i2).2.2 0) h9 p9)), .int (nI (pw_c (pw_mk 4 (Wd i1).2.2 (Wd i2).2.2 0) h9)), .int (nI (pw_o (pw_mk 4 (Wd i1).2.2 (Wd i2).2.2 0) h9 p9)), .ref q9]))]) hD hS hA [0, 1, 3] rfl
                refine va_calli (va_runV (As := [.ref a9]) (rest := []) ⟨hx, hb, hml, hown, hts⟩ (c_P_keep l dC dI (o := o) (q := q) (n := n) (cW := cW) (wa := wa) (a := a9) (h := h9) (pp := p9) (qq := q9) (f := (pw_mk 4 (Wd i1).2.2 (Wd i2).2.2 0)) hn40) (cwV 1 hts (gd_V mb_190 mb_192 mb_0 mb_22 mb_193) rfl rfl rfl (by decide +kernel) ⟨Nat.le_of_ble_eq_true rfl, Nat.le_of_ble_eq_true rfl⟩) ⟨md_blind, va_recv hK hP (ci := ciP) (q0 := 0) rfl rfl, fun U hU hW => ⟨rfl, by rw [hU], by rw [hU]; exact hPc, va_K.moved hW.alike hKc, hDc.weaken (fun _ _ _ _ => trivial)⟩⟩ rfl rfl hl.1 rfl (lv_room (Nat.le_of_ble_eq_true rfl)) d_P_make_113 ⟨Nat.le_of_ble_eq_true rfl, Nat.le_of_ble_eq_true rfl⟩) hS (fun q _ h => hFc q h) hFc (fun r_113 u_113 t_ H1 locs ht_ hvm_ hr_113 hB_ hz1_ hk1_ hS => ?_)
                obtain ⟨hra, hrb⟩ := hr_113
                subst hra
                subst hrb
                obtain ⟨hP1_, hK1_, hD1_⟩ := hB_
                rw [ht_] at hP1_
                obtain ⟨hP, hD⟩ := va_join (wr := [(r_107, .inr (ciD, [.int (nI (u_107.1)), .int (nI (u_107.2.1)), .int (nI (4)), .ref a1, .ref a2, .int (nI (u_107.2.2))])), (q9, .inl (cA9, (pw_c (pw_mk 4 (Wd i1).2.2 (Wd i2).2.2 0) h9 + pw_o (pw_mk 4 (Wd i1).2.2 (Wd i2).2.2 0) h9 p9), .inl pl9))]) (w1 := [(o, .inr (ciP, [.ref q, .int (nI (n + 1))])), (q, .inl (cW, 40, .inr (.inr (.inr (.inr (va_up wa n (some a9))))))), (a9, .inr (ciW, [.int (nI (h9)), .long (lN (pw_b (pw_mk 4 (Wd i1).2.2 (Wd i2).2.2 0) 0 h9)), .int (nI (p9)), .long (lN (pw_b (pw_mk 4 (Wd i1).2.2 (Wd i2).2.2 0) h9 p9)), .int (nI (pw_c (pw_mk 4 (Wd i1).2.2 (Wd i2).2.2 0) h9)), .int (nI (pw_o (pw_mk 4 (Wd i1).2.2 (Wd i2).2.2 0) h9 p9)), .ref q9]))]) hP hD [0, 1, 3] [2, 4] rfl rfl (by decide) (by decide) hk1_ hFc hP1_ hD1_
                generalize H1 = H at hP hS ⊢
                have hP : va_P (dC, dI) vwCl [(r_107, .inr (ciD, [.int (nI (u_107.1)), .int (nI (u_107.2.1)), .int (nI (4)), .ref a1, .ref a2, .int (nI (u_107.2.2))])), (q9, .inl (cA9, (pw_c (pw_mk 4 (Wd i1).2.2 (Wd i2).2.2 0) h9 + pw_o (pw_mk 4 (Wd i1).2.2 (Wd i2).2.2 0) h9 p9), .inl pl9)), (o, .inr (ciP, [.ref q, .int (nI (n + 1))])), (q, .inl (cW, 40, .inr (.inr (.inr (.inr (va_up wa n (some a9))))))), (a9, .inr (ciW, [.int (nI (h9)), .long (lN (pw_b (pw_mk 4 (Wd i1).2.2 (Wd i2).2.2 0) 0 h9)), .int (nI (p9)), .long (lN (pw_b (pw_mk 4 (Wd i1).2.2 (Wd i2).2.2 0) h9 p9)), .int (nI (pw_c (pw_mk 4 (Wd i1).2.2 (Wd i2).2.2 0) h9)), .int (nI (pw_o (pw_mk 4 (Wd i1).2.2 (Wd i2).2.2 0) h9 p9)), .ref q9]))] H := hP
                have hD : va_D A [(r_107, .inr (ciD, [.int (nI (u_107.1)), .int (nI (u_107.2.1)), .int (nI (4)), .ref a1, .ref a2, .int (nI (u_107.2.2))])), (q9, .inl (cA9, (pw_c (pw_mk 4 (Wd i1).2.2 (Wd i2).2.2 0) h9 + pw_o (pw_mk 4 (Wd i1).2.2 (Wd i2).2.2 0) h9 p9), .inl pl9)), (o, .inr (ciP, [.ref q, .int (nI (n + 1))])), (q, .inl (cW, 40, .inr (.inr (.inr (.inr (va_up wa n (some a9))))))), (a9, .inr (ciW, [.int (nI (h9)), .long (lN (pw_b (pw_mk 4 (Wd i1).2.2 (Wd i2).2.2 0) 0 h9)), .int (nI (p9)), .long (lN (pw_b (pw_mk 4 (Wd i1).2.2 (Wd i2).2.2 0) h9 p9)), .int (nI (pw_c (pw_mk 4 (Wd i1).2.2 (Wd i2).2.2 0) h9)), .int (nI (pw_o (pw_mk 4 (Wd i1).2.2 (Wd i2).2.2 0) h9 p9)), .ref q9]))] := hD
                refine vx_ret ?_
                refine W.widen (k := 3) (n := 133) (by omega) (by omega) ?_
                exact W.iret (v := (nI (n))) hx hb hr (fun t_ ht_ hW_ => ⟨⟨_, (n + 1, va_up wa n (some a9), fun i => if i = n then (h9, p9, (pw_mk 4 (Wd i1).2.2 (Wd i2).2.2 0)) else Wd i), rfl, Or.inl ⟨4, i1, i2, 0, ⟨hn40, by decide, rfl, hi1, hx1, fun _ => ⟨hi2, hx2⟩, fun z_ => absurd z_ (by decide), fun z_ => absurd (show sp_two 4 by unfold sp_two; decide) z_, fun _ => rfl⟩, fun z_ => absurd z_ (by decide), h9, p9, hcan, Or.inl ⟨h60, p60, rfl, rfl, if_pos rfl, fun i hi => if_neg (Nat.ne_of_lt hi)⟩⟩, by rw [ht_]; exact hP.sub [2, 3] rfl, va_K.moved hW_.alike (hK.sub [0] rfl), hD.sub [2, 3] (by decide) rfl, by rw [ht_]; exact wdAll.moved hW_.alike (cs_new (cs_keep hAe hoz hqz hS hall) ⟨q9, cA9, pl9, hP.sub [4, 1] rfl, hK9, hpl9, ⟨h60, hcan.1, p60, hcan.2.1⟩, hz9, hzq9⟩)⟩, hS.F ht_⟩) hS.2.2 d_P_make_116
            · refine pq_top (y := .null) (by rw [hr2]; rfl) ?_
              refine lv_goto (tgt := 45) hx hb d_P_make_40 (by decide) ?_
              refine lv_astoreN (lv' := [(5, .null), (4, .ref a1), (0, .ref o), (1, .int (nI (4))), (2, .int (nI (i1))), (3, .int (z))]) hx hb d_P_make_45 hl (by decide) rfl (fun ls hl => ?_)
              refine lv_aload hx hb d_P_make_47 (lv_at hl 1 rfl) ?_
              refine lv_ifnull hx hb d_P_make_49 ?_
              refine lv_aloadN hx hb d_P_make_52 (lv_at hl 0 rfl) ?_
              refine lv_ifnonnullN hx hb d_P_make_54 ?_
              refine lv_iconst (v := (-1)) hx hb d_P_make_57 (by decide) ?_
              refine vx_ret ?_
              refine W.widen (k := 3) (n := 133) (by omega) (by omega) ?_
              exact W.iret (v := (-1)) hx hb hr (fun t_ ht_ hW_ => ⟨⟨_, (n, wa, Wd), rfl, Or.inr ⟨fun ⟨k, i, j, d, w_⟩ => by have e_ := sp_mk_u (by decide) w_; subst e_; exact hno2 ⟨j, w_.2.2.2.2.2.1 (by unfold sp_two; decide)⟩, rfl, rfl, fun _ _ => rfl⟩, by rw [ht_]; exact hP.sub [0, 1] rfl, va_K.moved hW_.alike (hK.sub [0] rfl), hD.sub [0, 1] (by decide) rfl, by rw [ht_]; exact wdAll.moved hW_.alike (cs_keep hAe hoz hqz hS hall)⟩, hS.F ht_⟩) hS.2.2 d_P_make_58
          · refine pq_top (y := .null) (by rw [hr1]; rfl) ?_
            refine lv_astoreN (lv' := [(4, .null), (0, .ref o), (1, .int (nI (4))), (2, .int (y)), (3, .int (z))]) hx hb d_P_make_26 hl (by decide) rfl (fun ls hl => ?_)
            refine lv_iload_n hx hb d_P_make_28 rfl (lv_at hl 2 rfl) ?_
            refine vp_callSi (W.runS (As := [.int (nI (4))]) (rest := []) ⟨hx, hb, hml, hown, hts⟩ (c_P_needsTwo l dC dI (how := 4) (by decide)) (va_cwS 1 hts (gd_S mb_252 mb_253 mb_22 mb_254) rfl rfl rfl (by decide +kernel) ⟨Nat.le_of_ble_eq_true rfl, Nat.le_of_ble_eq_true rfl⟩) (pw_R_S pw_P0 (hK.sub [] rfl)) rfl rfl hl.1 rfl (lv_room (Nat.le_of_ble_eq_true rfl)) d_P_make_29 ⟨Nat.le_of_ble_eq_true rfl, Nat.le_of_ble_eq_true rfl⟩) (fun r_29 hr_29 => ?_)
            subst hr_29
            refine pq_top (y := .int (nI (1))) (by first | rfl | decide) ?_
            refine pq_if_eq (tgt := 43) (a := 1) hx hb d_P_make_32 (by decide) (by omega) (fun c_32 => absurd c_32 (by omega)) (fun c_32 => ?_)
            refine lv_aload_n hx hb d_P_make_35 rfl (lv_at hl 1 rfl) ?_
            refine lv_iload_n hx hb d_P_make_36 rfl (lv_at hl 4 rfl) ?_
            refine va_csq (W.runV (As := [.int (z)]) (rest := []) ⟨hx, hb, hml, hown, hts⟩ (c_P_find l dC dI hn (x := z)) (cwV 1 hts (gd_V mb_198 mb_200 mb_1 mb_22 mb_201) rfl rfl rfl (by decide +kernel) ⟨Nat.le_of_ble_eq_true rfl, Nat.le_of_ble_eq_true rfl⟩) (pw_R_V (va_recv hK hP (ci := ciP) (q0 := 0) rfl rfl) hP hK) rfl rfl hl.1 rfl (lv_room (Nat.le_of_ble_eq_true rfl)) d_P_make_37 ⟨Nat.le_of_ble_eq_true rfl, Nat.le_of_ble_eq_true rfl⟩) (fun r_37 hr_37 => ?_)
            rcases hr_37 with ⟨i2, hi2, hx2, hr2⟩ | ⟨hno2, hr2⟩
            · obtain ⟨a2, hwa2, q2, cA2, pl2, hPw2, hKw2, hpl2, hok2, hz2, hzq2⟩ := hall i2 hi2
              have hok2_ := hok2; obtain ⟨hh2, hp02, hp62, hE2⟩ := hok2_
              have ho2 := pw_o_le (Wd i2).2.2 (Wd i2).1 (Wd i2).2.1
              have hc2 := pw_c_le (Wd i2).2.2 (Wd i2).1
              rw [hx2] at hl
              refine pq_top (y := .ref a2) (by rw [hr2, hwa2]; rfl) ?_
              refine lv_goto (tgt := 45) hx hb d_P_make_40 (by decide) ?_
              refine lv_astore (lv' := [(5, .ref a2), (4, .null), (0, .ref o), (1, .int (nI (4))), (2, .int (y)), (3, .int (nI (i2)))]) hx hb d_P_make_45 hl (by decide) rfl (fun ls hl => ?_)
              refine lv_aloadN hx hb d_P_make_47 (lv_at hl 1 rfl) ?_
              refine lv_ifnullN (tgt := 57) hx hb d_P_make_49 (by decide) ?_
              refine lv_iconst (v := (-1)) hx hb d_P_make_57 (by decide) ?_
              refine vx_ret ?_
              refine W.widen (k := 3) (n := 133) (by omega) (by omega) ?_
              exact W.iret (v := (-1)) hx hb hr (fun t_ ht_ hW_ => ⟨⟨_, (n, wa, Wd), rfl, Or.inr ⟨fun ⟨k, i, j, d, w_⟩ => hno1 ⟨i, w_.2.2.2.1, w_.2.2.2.2.1⟩, rfl, rfl, fun _ _ => rfl⟩, by rw [ht_]; exact hP.sub [0, 1] rfl, va_K.moved hW_.alike (hK.sub [0] rfl), hD.sub [0, 1] (by decide) rfl, by rw [ht_]; exact wdAll.moved hW_.alike (cs_keep hAe hoz hqz hS hall)⟩, hS.F ht_⟩) hS.2.2 d_P_make_58
            · refine pq_top (y := .null) (by rw [hr2]; rfl) ?_
              refine lv_goto (tgt := 45) hx hb d_P_make_40 (by decide) ?_
              refine lv_astoreN (lv' := [(5, .null), (4, .null), (0, .ref o), (1, .int (nI (4))), (2, .int (y)), (3, .int (z))]) hx hb d_P_make_45 hl (by decide) rfl (fun ls hl => ?_)
              refine lv_aloadN hx hb d_P_make_47 (lv_at hl 1 rfl) ?_
              refine lv_ifnullN (tgt := 57) hx hb d_P_make_49 (by decide) ?_
              refine lv_iconst (v := (-1)) hx hb d_P_make_57 (by decide) ?_
              refine vx_ret ?_
              refine W.widen (k := 3) (n := 133) (by omega) (by omega) ?_
              exact W.iret (v := (-1)) hx hb hr (fun t_ ht_ hW_ => ⟨⟨_, (n, wa, Wd), rfl, Or.inr ⟨fun ⟨k, i, j, d, w_⟩ => hno1 ⟨i, w_.2.2.2.1, w_.2.2.2.2.1⟩, rfl, rfl, fun _ _ => rfl⟩, by rw [ht_]; exact hP.sub [0, 1] rfl, va_K.moved hW_.alike (hK.sub [0] rfl), hD.sub [0, 1] (by decide) rfl, by rw [ht_]; exact wdAll.moved hW_.alike (cs_keep hAe hoz hqz hS hall)⟩, hS.F ht_⟩) hS.2.2 d_P_make_58
        · refine lv_aload_n hx hb d_P_make_21 rfl (lv_at hl 0 rfl) ?_
          refine lv_iload_n hx hb d_P_make_22 rfl (lv_at hl 2 rfl) ?_
          refine va_csq (W.runV (As := [.int (y)]) (rest := []) ⟨hx, hb, hml, hown, hts⟩ (c_P_find l dC dI hn (x := y)) (cwV 1 hts (gd_V mb_198 mb_200 mb_1 mb_22 mb_201) rfl rfl rfl (by decide +kernel) ⟨Nat.le_of_ble_eq_true rfl, Nat.le_of_ble_eq_true rfl⟩) (pw_R_V (va_recv hK hP (ci := ciP) (q0 := 0) rfl rfl) hP hK) rfl rfl hl.1 rfl (lv_room (Nat.le_of_ble_eq_true rfl)) d_P_make_23 ⟨Nat.le_of_ble_eq_true rfl, Nat.le_of_ble_eq_true rfl⟩) (fun r_23 hr_23 => ?_)
          rcases hr_23 with ⟨i1, hi1, hx1, hr1⟩ | ⟨hno1, hr1⟩
          · obtain ⟨a1, hwa1, q1, cA1, pl1, hPw1, hKw1, hpl1, hok1, hz1, hzq1⟩ := hall i1 hi1
            have hok1_ := hok1; obtain ⟨hh1, hp01, hp61, hE1⟩ := hok1_
            have ho1 := pw_o_le (Wd i1).2.2 (Wd i1).1 (Wd i1).2.1
            have hc1 := pw_c_le (Wd i1).2.2 (Wd i1).1
            rw [hx1] at hl
            refine pq_top (y := .ref a1) (by rw [hr1, hwa1]; rfl) ?_
            refine lv_astore (lv' := [(4, .ref a1), (0, .ref o), (1, .int (nI (5))), (2, .int (nI (i1))), (3, .int (z))]) hx hb d_P_make_26 hl (by decide) rfl (fun ls hl => ?_)
            refine lv_iload_n hx hb d_P_make_28 rfl (lv_at hl 2 rfl) ?_
            refine vp_callSi (W.runS (As := [.int (nI (5))]) (rest := []) ⟨hx, hb, hml, hown, hts⟩ (c_P_needsTwo l dC dI (how := 5) (by decide)) (va_cwS 1 hts (gd_S mb_252 mb_253 mb_22 mb_254) rfl rfl rfl (by decide +kernel) ⟨Nat.le_of_ble_eq_true rfl, Nat.le_of_ble_eq_true rfl⟩) (pw_R_S pw_P0 (hK.sub [] rfl)) rfl rfl hl.1 rfl (lv_room (Nat.le_of_ble_eq_true rfl)) d_P_make_29 ⟨Nat.le_of_ble_eq_true rfl, Nat.le_of_ble_eq_true rfl⟩) (fun r_29 hr_29 => ?_)
            subst hr_29
            refine pq_top (y := .int (nI (1))) (by first | rfl | decide) ?_
            refine pq_if_eq (tgt := 43) (a := 1) hx hb d_P_make_32 (by decide) (by omega) (fun c_32 => absurd c_32 (by omega)) (fun c_32 => ?_)
            refine lv_aload_n hx hb d_P_make_35 rfl (lv_at hl 1 rfl) ?_
            refine lv_iload_n hx hb d_P_make_36 rfl (lv_at hl 4 rfl) ?_
            refine va_csq (W.runV (As := [.int (z)]) (rest := []) ⟨hx, hb, hml, hown, hts⟩ (c_P_find l dC dI hn (x := z)) (cwV 1 hts (gd_V mb_198 mb_200 mb_1 mb_22 mb_201) rfl rfl rfl (by decide +kernel) ⟨Nat.le_of_ble_eq_true rfl, Nat.le_of_ble_eq_true rfl⟩) (pw_R_V (va_recv hK hP (ci := ciP) (q0 := 0) rfl rfl) hP hK) rfl rfl hl.1 rfl (lv_room (Nat.le_of_ble_eq_true rfl)) d_P_make_37 ⟨Nat.le_of_ble_eq_true rfl, Nat.le_of_ble_eq_true rfl⟩) (fun r_37 hr_37 => ?_)
            rcases hr_37 with ⟨i2, hi2, hx2, hr2⟩ | ⟨hno2, hr2⟩
            · obtain ⟨a2, hwa2, q2, cA2, pl2, hPw2, hKw2, hpl2, hok2, hz2, hzq2⟩ := hall i2 hi2
              have hok2_ := hok2; obtain ⟨hh2, hp02, hp62, hE2⟩ := hok2_
              have ho2 := pw_o_le (Wd i2).2.2 (Wd i2).1 (Wd i2).2.1
              have hc2 := pw_c_le (Wd i2).2.2 (Wd i2).1
              rw [hx2] at hl
              refine pq_top (y := .ref a2) (by rw [hr2, hwa2]; rfl) ?_
              refine lv_goto (tgt := 45) hx hb d_P_make_40 (by decide) ?_
              refine lv_astore (lv' := [(5, .ref a2), (4, .ref a1), (0, .ref o), (1, .int (nI (5))), (2, .int (nI (i1))), (3, .int (nI (i2)))]) hx hb d_P_make_45 hl (by decide) rfl (fun ls hl => ?_)
              refine lv_aload hx hb d_P_make_47 (lv_at hl 1 rfl) ?_
              refine lv_ifnull hx hb d_P_make_49 ?_
              refine lv_aload hx hb d_P_make_52 (lv_at hl 0 rfl) ?_
              refine lv_ifnonnull (tgt := 59) hx hb d_P_make_54 (by decide) ?_
              refine lv_iload_n hx hb d_P_make_59 rfl (lv_at hl 3 rfl) ?_
              refine lv_bipush (v := nI 6) hx hb d_P_make_60 (by decide) ?_
              refine pq_icmp_ne (tgt := 77) (a := 5) (b := 6) hx hb d_P_make_62 (by decide) (by omega) (by omega) (fun c_62 => ?_) (fun c_62 => absurd c_62 (by omega))
              refine lv_iload_n hx hb d_P_make_77 rfl (lv_at hl 3 rfl) ?_
              refine lv_iconst (v := nI 5) hx hb d_P_make_78 (by decide) ?_
              refine pq_icmp_ne (tgt := 100) (a := 5) (b := 5) hx hb d_P_make_79 (by decide) (by omega) (by omega) (fun c_79 => absurd c_79 (by omega)) (fun c_79 => ?_)
              refine lv_aload hx hb d_P_make_82 (lv_at hl 0 rfl) ?_
              refine va_get (D := (dC, dI)) (ci := ciW) (v := .int (nI (pw_o (Wd i2).2.2 (Wd i2).1 (Wd i2).2.1))) (C := R_W) (T := F_W) (N := 7) hx hb hts (fun w h => List.mem_cons_of_mem _ (in_W w h)) hown hKw2 hPw2 0 rfl rfl 5 (by decide) (hts (.fieldLink R_P 42 "PeriodWords$Word" "ringOnes" "I") (List.mem_cons_of_mem _ mb_90)) (fun _ h9 => h9) rfl d_P_make_84 ?_
              refine pq_if_ne (tgt := 100) (a := (pw_o (Wd i2).2.2 (Wd i2).1 (Wd i2).2.1)) hx hb d_P_make_87 (by decide) (by omega) (fun c_87 => ?_) (fun c_87 => ?_)
              · refine lv_aload_n hx hb d_P_make_100 rfl (lv_at hl 2 rfl) ?_
                refine lv_iload_n hx hb d_P_make_101 rfl (lv_at hl 3 rfl) ?_
                refine lv_aload hx hb d_P_make_102 (lv_at hl 1 rfl) ?_
                refine lv_aload hx hb d_P_make_104 (lv_at hl 0 rfl) ?_
                refine lv_iload_n hx hb d_P_make_106 rfl (lv_at hl 5 rfl) ?_
                have hWW := hPw1.app hPw2
                have hKW := hKw1.app hKw2
                have hPc := hP.sub (ws' := []) [] rfl
                have hDc := hD.sub (ws' := []) [] (by decide) rfl
                have hKc := hK.sub (tys' := []) [] rfl
                have hFc := va_free (wc := []) hD hS hA [] rfl
                refine va_callr (va_runS (As := [.int (nI (5)), .ref a1, .ref a2, .int (nI (i2))]) (rest := [.ref o]) ⟨hx, hb, hml, hown, hts⟩ (c_P_draftOfX l dC dI (a := a1) (q := q1) (cA := cA1) (pl := pl1) (a2 := a2) (q2 := q2) (cA2 := cA2) (pl2 := pl2) hok1 hok2 hpl1 (how := 5) (zz := (nI (i2))) (by decide) (by decide) (fun _ => c_87)) (va_cwS 4 hts (gd_S mb_108 mb_109 mb_22 mb_110) rfl rfl rfl (by decide +kernel) ⟨Nat.le_of_ble_eq_true rfl, Nat.le_of_ble_eq_true rfl⟩) ⟨dr_blind, fun U hU hW => ⟨rfl, by rw [hU], by rw [hU]; exact hWW, va_K.moved hW.alike hKW⟩⟩ rfl rfl hl.1 rfl (lv_room (Nat.le_of_ble_eq_true rfl)) d_P_make_107 ⟨Nat.le_of_ble_eq_true rfl, Nat.le_of_ble_eq_true rfl⟩) hS (fun q _ h => hFc q h) hFc (fun u_107 r_107 t_ H1 locs ht_ hvm_ hr_107 hB_ hz1_ hk1_ hS => ?_)
                obtain ⟨hP1_, hK1_, hD1_⟩ := hB_
                rw [ht_] at hP1_
                obtain ⟨hP, hD⟩ := va_join (wr := [(o, .inr (ciP, [.ref q, .int (nI (n))])), (q, .inl (cW, 40, .inr (.inr (.inr (.inr wa)))))]) (w1 := [(r_107, .inr (ciD, [.int (nI (u_107.1)), .int (nI (u_107.2.1)), .int (nI (5)), .ref a1, .ref a2, .int (nI (u_107.2.2))]))]) hP hD [] [0, 1] rfl rfl (by decide) (by decide) hk1_ hFc hP1_ hD1_
                generalize H1 = H at hP hS hz1_ hk1_ ⊢
                have hP : va_P (dC, dI) vwCl [(o, .inr (ciP, [.ref q, .int (nI (n))])), (q, .inl (cW, 40, .inr (.inr (.inr (.inr wa))))), (r_107, .inr (ciD, [.int (nI (u_107.1)), .int (nI (u_107.2.1)), .int (nI (5)), .ref a1, .ref a2, .int (nI (u_107.2.2))]))] H := hP
                have hD : va_D A [(o, .inr (ciP, [.ref q, .int (nI (n))])), (q, .inl (cW, 40, .inr (.inr (.inr (.inr wa))))), (r_107, .inr (ciD, [.int (nI (u_107.1)), .int (nI (u_107.2.1)), .int (nI (5)), .ref a1, .ref a2, .int (nI (u_107.2.2))]))] := hD
                obtain ⟨⟨hd1, hd2, hd3, hd4, hd5⟩, hlt⟩ := hr_107
                have hPw1 := cs_wk hAe hoz hqz hS hz1 hzq1 hPw1
                have hPw2 := cs_wk hAe hoz hqz hS hz2 hzq2 hPw2
                have hPd := hP.sub (ws' := dr r_107 a1 a2 u_107.1 u_107.2.1 5 u_107.2.2) [2] rfl
                have hWW := hPd.app (hPw1.app hPw2)
                have hKW := hKw1.app hKw2
                have hSz := hS.1
                have hPc := hP.sub (ws' := []) [] rfl
                have hDc := hD.sub (ws' := []) [] (by decide) rfl
                have hKc := hK.sub (tys' := []) [] rfl
                have hFc := va_free (wc := []) hD hS hA [] rfl
                refine va_callq (va_runS (As := [.ref r_107]) (rest := [.ref o]) ⟨hx, hb, hml, hown, hts⟩ (c_P_shortestForm l dC dI (a := a1) (q := q1) (cA := cA1) (pl := pl1) (a2 := a2) (q2 := q2) (cA2 := cA2) (pl2 := pl2) hok1 hok2 hpl2 (dd := r_107) (hd := u_107.1) (rd := u_107.2.1) (how := 5) (late := u_107.2.2) (by decide) hd4 (fun _ => c_87) hd1 hd2 hd3 hd5) (va_cwS 1 hts (gd_S mb_163 mb_164 mb_22 mb_165) rfl rfl rfl (by decide +kernel) ⟨Nat.le_of_ble_eq_true rfl, Nat.le_of_ble_eq_true rfl⟩) ⟨dr_blind, fun U hU hW => ⟨rfl, by rw [hU], by rw [hU]; exact hWW, va_K.moved hW.alike hKW⟩⟩ rfl rfl hl.1 rfl (lv_room (Nat.le_of_ble_eq_true rfl)) d_P_make_110 ⟨Nat.le_of_ble_eq_true rfl, Nat.le_of_ble_eq_true rfl⟩) hS (fun q _ h => hFc q h) hFc (fun r_110 u_110 t_ H1 locs ht_ hvm_ hr_110 hB_ hz1_ hk1_ hS => ?_)
                obtain ⟨hr1, hok1⟩ := hr_110
                rw [pw_mk_d (k := 5) (by decide) (Wd i1).2.2 (Wd i2).2.2 u_107.2.2 0] at hok1 hB_
                rcases u_110 with _ | ⟨a9, h9, p9, q9, cA9, pl9⟩
                · subst hr1
                  obtain ⟨hP, hD⟩ := va_join (wr := [(o, .inr (ciP, [.ref q, .int (nI (n))])), (q, .inl (cW, 40, .inr (.inr (.inr (.inr wa))))), (r_107, .inr (ciD, [.int (nI (u_107.1)), .int (nI (u_107.2.1)), .int (nI (5)), .ref a1, .ref a2, .int (nI (u_107.2.2))]))]) (w1 := []) hP hD [] [0, 1, 2] rfl rfl (by decide) (by decide) hk1_ hFc pw_P0 pw_D0
                  generalize H1 = H at hP hS ⊢
                  have hP : va_P (dC, dI) vwCl [(o, .inr (ciP, [.ref q, .int (nI (n))])), (q, .inl (cW, 40, .inr (.inr (.inr (.inr wa))))), (r_107, .inr (ciD, [.int (nI (u_107.1)), .int (nI (u_107.2.1)), .int (nI (5)), .ref a1, .ref a2, .int (nI (u_107.2.2))]))] H := hP
                  have hD : va_D A [(o, .inr (ciP, [.ref q, .int (nI (n))])), (q, .inl (cW, 40, .inr (.inr (.inr (.inr wa))))), (r_107, .inr (ciD, [.int (nI (u_107.1)), .int (nI (u_107.2.1)), .int (nI (5)), .ref a1, .ref a2, .int (nI (u_107.2.2))]))] := hD
                  obtain ⟨h9, p9, hcan, h60⟩ := hok1
                  refine pq_top (y := .null) rfl ?_
                  refine vp_callSi (W.runV (As := [.null]) (rest := []) ⟨hx, hb, hml, hown, hts⟩ (c_P_keepN l dC dI (o := o) (q := q) (n := n) (cW := cW) (wa := wa)) (cwV 1 hts (gd_V mb_190 mb_192 mb_0 mb_22 mb_193) rfl rfl rfl (by decide +kernel) ⟨Nat.le_of_ble_eq_true rfl, Nat.le_of_ble_eq_true rfl⟩) (pw_R_V (va_recv hK hP (ci := ciP) (q0 := 0) rfl rfl) (hP.sub [0, 1] rfl) (hK.sub [0] rfl)) rfl rfl hl.1 rfl (lv_room (Nat.le_of_ble_eq_true rfl)) d_P_make_113 ⟨Nat.le_of_ble_eq_true rfl, Nat.le_of_ble_eq_true rfl⟩) (fun r_113 hr_113 => ?_)
                  subst hr_113
                  refine vx_ret ?_
                  refine W.widen (k := 3) (n := 133) (by omega) (by omega) ?_
                  exact W.iret (v := (-1)) hx hb hr (fun t_ ht_ hW_ => ⟨⟨_, (n, wa, Wd), rfl, Or.inl ⟨5, i1, i2, 0, ⟨hn40, by decide, rfl, hi1, hx1, fun _ => ⟨hi2, hx2⟩, fun z_ => absurd z_ (by decide), fun z_ => absurd (show sp_two 5 by unfold sp_two; decide) z_, fun _ => rfl⟩, fun _ => c_87, h9, p9, hcan, Or.inr ⟨h60, rfl, rfl, fun _ _ => rfl⟩⟩, by rw [ht_]; exact hP.sub [0, 1] rfl, va_K.moved hW_.alike (hK.sub [0] rfl), hD.sub [0, 1] (by decide) rfl, by rw [ht_]; exact wdAll.moved hW_.alike (cs_keep hAe hoz hqz hS hall)⟩, hS.F ht_⟩) hS.2.2 d_P_make_116
                · subst hr1
                  obtain ⟨hcan, h60, p60, hpl9⟩ := hok1
                  obtain ⟨hP1_, hK1_, hD1_⟩ := hB_
                  rw [ht_] at hP1_
                  have hK9 : va_K (dC, dI) vwCl [(cA9, .int)] s := va_K.moved hvm_.symm hK1_
                  have hz9 : z0 ≤ a9 := Nat.le_trans hzs (Nat.le_trans hSz (pw_A0 (hD1_.2 0 _ rfl)))
                  have hzq9 : z0 ≤ q9 := Nat.le_trans hzs (Nat.le_trans hSz (pw_A0 (hD1_.2 1 _ rfl)))
                  obtain ⟨hP, hD⟩ := va_join (wr := [(o, .inr (ciP, [.ref q, .int (nI (n))])), (q, .inl (cW, 40, .inr (.inr (.inr (.inr wa))))), (r_107, .inr (ciD, [.int (nI (u_107.1)), .int (nI (u_107.2.1)), .int (nI (5)), .ref a1, .ref a2, .int (nI (u_107.2.2))]))]) (w1 := [(a9, .inr (ciW, [.int (nI (h9)), .long (lN (pw_b (pw_mk 5 (Wd i1).2.2 (Wd i2).2.2 0) 0 h9)), .int (nI (p9)), .long (lN (pw_b (pw_mk 5 (Wd i1).2.2 (Wd i2).2.2 0) h9 p9)), .int (nI (pw_c (pw_mk 5 (Wd i1).2.2 (Wd i2).2.2 0) h9)), .int (nI (pw_o (pw_mk 5 (Wd i1).2.2 (Wd i2).2.2 0) h9 p9)), .ref q9])), (q9, .inl (cA9, (pw_c (pw_mk 5 (Wd i1).2.2 (Wd i2).2.2 0) h9 + pw_o (pw_mk 5 (Wd i1).2.2 (Wd i2).2.2 0) h9 p9), .inl pl9))]) hP hD [] [0, 1, 2] rfl rfl (by decide) (by decide) hk1_ hFc hP1_ hD1_
                  generalize H1 = H at hP hS ⊢
                  have hP : va_P (dC, dI) vwCl [(o, .inr (ciP, [.ref q, .int (nI (n))])), (q, .inl (cW, 40, .inr (.inr (.inr (.inr wa))))), (r_107, .inr (ciD, [.int (nI (u_107.1)), .int (nI (u_107.2.1)), .int (nI (5)), .ref a1, .ref a2, .int (nI (u_107.2.2))])), (a9, .inr (ciW, [.int (nI (h9)), .long (lN (pw_b (pw_mk 5 (Wd i1).2.2 (Wd i2).2.2 0) 0 h9)), .int (nI (p9)), .long (lN (pw_b (pw_mk 5 (Wd i1).2.2 (Wd i2).2.2 0) h9 p9)), .int (nI (pw_c (pw_mk 5 (Wd i1).2.2 (Wd i2).2.2 0) h9)), .int (nI (pw_o (pw_mk 5 (Wd i1).2.2 (Wd i2).2.2 0) h9 p9)), .ref q9])), (q9, .inl (cA9, (pw_c (pw_mk 5 (Wd i1).2.2 (Wd i2).2.2 0) h9 + pw_o (pw_mk 5 (Wd i1).2.2 (Wd i2).2.2 0) h9 p9), .inl pl9))] H := hP
                  have hD : va_D A [(o, .inr (ciP, [.ref q, .int (nI (n))])), (q, .inl (cW, 40, .inr (.inr (.inr (.inr wa))))), (r_107, .inr (ciD, [.int (nI (u_107.1)), .int (nI (u_107.2.1)), .int (nI (5)), .ref a1, .ref a2, .int (nI (u_107.2.2))])), (a9, .inr (ciW, [.int (nI (h9)), .long (lN (pw_b (pw_mk 5 (Wd i1).2.2 (Wd i2).2.2 0) 0 h9)), .int (nI (p9)), .long (lN (pw_b (pw_mk 5 (Wd i1).2.2 (Wd i2).2.2 0) h9 p9)), .int (nI (pw_c (pw_mk 5 (Wd i1).2.2 (Wd i2).2.2 0) h9)), .int (nI (pw_o (pw_mk 5 (Wd i1).2.2 (Wd i2).2.2 0) h9 p9)), .ref q9])), (q9, .inl (cA9, (pw_c (pw_mk 5 (Wd i1).2.2 (Wd i2).2.2 0) h9 + pw_o (pw_mk 5 (Wd i1).2.2 (Wd i2).2.2 0) h9 p9), .inl pl9))] := hD
                  refine pq_top (y := .ref a9) rfl ?_
                  have hPc := hP.sub (ws' := [(o, .inr (ciP, [.ref q, .int (nI (n))])), (q, .inl (cW, 40, .inr (.inr (.inr (.inr wa))))), (a9, .inr (ciW, [.int (nI (h9)), .long (lN (pw_b (pw_mk 5 (Wd i1).2.2 (Wd i2).2.2 0) 0 h9)), .int (nI (p9)), .long (lN (pw_b (pw_mk 5 (Wd i1).2.2 (Wd i2).2.2 0) h9 p9)), .int (nI (pw_c (pw_mk 5 (Wd i1).2.2 (Wd i2).2.2 0) h9)), .int (nI (pw_o (pw_mk 5 (Wd i1).2.2 (Wd i2).2.2 0) h9 p9)), .ref q9]))]) [0, 1, 3] rfl
                  have hDc := hD.sub (ws' := [(o, .inr (ciP, [.ref q, .int (nI (n))])), (q, .inl (cW, 40, .inr (.inr (.inr (.inr wa))))), (a9, .inr (ciW, [.int (nI (h9)), .long (lN (pw_b (pw_mk 5 (Wd i1).2.2 (Wd i2).2.2 0) 0 h9)), .int (nI (p9)), .long (lN (pw_b (pw_mk 5 (Wd i1).2.2 (Wd i2).2.2 0) h9 p9)), .int (nI (pw_c (pw_mk 5 (Wd i1).2.2 (Wd i2).2.2 0) h9)), .int (nI (pw_o (pw_mk 5 (Wd i1).2.2 (Wd i2).2.2 0) h9 p9)), .ref q9]))]) [0, 1, 3] (by decide) rfl
                  have hKc := hK.sub (tys' := [(cW, .object "PeriodWords$Word")]) [0] rfl
                  have hFc := va_free (wc := [(o, .inr (ciP, [.ref q, .int (nI (n))])), (q, .inl (cW, 40, .inr (.inr (.inr (.inr wa))))), (a9, .inr (ciW, [.int (nI (h9)), .long (lN (pw_b (pw_mk 5 (Wd i1).2.2 (Wd i2).2.2 0) 0 h9)), .int (nI (p9)), .long (lN (pw_b (pw_mk 5 (Wd i1).2.2 (Wd i2).2.2 0) h9 p9)), .int (nI (pw_c (pw_mk 5 (Wd i1).2.2 (Wd i2).2.2 0) h9)), .int (nI (pw_o (pw_mk 5 (Wd i1).2.2 (Wd i2).2.2 0) h9 p9)), .ref q9]))]) hD hS hA [0, 1, 3] rfl
                  refine va_calli (va_runV (As := [.ref a9]) (rest := []) ⟨hx, hb, hml, hown, hts⟩ (c_P_keep l dC dI (o := o) (q := q) (n := n) (cW := cW) (wa := wa) (a := a9) (h := h9) (pp := p9) (qq := q9) (f := (pw_mk 5 (Wd i1).2.2 (Wd i2).2.2 0)) hn40) (cwV 1 hts (gd_V mb_190 mb_192 mb_0 mb_22 mb_193) rfl rfl rfl (by decide +kernel) ⟨Nat.le_of_ble_eq_true rfl, Nat.le_of_ble_eq_true rfl⟩) ⟨md_blind, va_recv hK hP (ci := ciP) (q0 := 0) rfl rfl, fun U hU hW => ⟨rfl, by rw [hU], by rw [hU]; exact hPc, va_K.moved hW.alike hKc, hDc.weaken (fun _ _ _ _ => trivial)⟩⟩ rfl rfl hl.1 rfl (lv_room (Nat.le_of_ble_eq_true rfl)) d_P_make_113 ⟨Nat.le_of_ble_eq_true rfl, Nat.le_of_ble_eq_true rfl⟩) hS (fun q _ h => hFc q h) hFc (fun r_113 u_113 t_ H1 locs ht_ hvm_ hr_113 hB_ hz1_ hk1_ hS => ?_)
                  obtain ⟨hra, hrb⟩ := hr_113
                  subst hra
                  subst hrb
                  obtain ⟨hP1_, hK1_, hD1_⟩ := hB_
                  rw [ht_] at hP1_
                  obtain ⟨hP, hD⟩ := va_join (wr := [(r_107, .inr (ciD, [.int (nI (u_107.1)), .int (nI (u_107.2.1)), .int (nI (5)), .ref a1, .ref a2, .int (nI (u_107.2.2))])), (q9, .inl (cA9, (pw_c (pw_mk 5 (Wd i1).2.2 (Wd i2).2.2 0) h9 + pw_o (pw_mk 5 (Wd i1).2.2 (Wd i2).2.2 0) h9 p9), .inl pl9))]) (w1 := [(o, .inr (ciP, [.ref q, .int (nI (n + 1))])), (q, .inl (cW, 40, .inr (.inr (.inr (.inr (va_up wa n (some a9))))))), (a9, .inr (ciW, [.int (nI (h9)), .long (lN (pw_b (pw_mk 5 (Wd i1).2.2 (Wd i2).2.2 0) 0 h9)), .int (nI (p9)), .long (lN (pw_b (pw_mk 5 (Wd i1).2.2 (Wd i2).2.2 0) h9 p9)), .int (nI (pw_c (pw_mk 5 (Wd i1).2.2 (Wd i2).2.2 0) h9)), .int (nI (pw_o (pw_mk 5 (Wd i1).2.2 (Wd i2).2.2 0) h9 p9)), .ref q9]))]) hP hD [0, 1, 3] [2, 4] rfl rfl (by decide) (by decide) hk1_ hFc hP1_ hD1_
                  generalize H1 = H at hP hS ⊢
                  have hP : va_P (dC, dI) vwCl [(r_107, .inr (ciD, [.int (nI (u_107.1)), .int (nI (u_107.2.1)), .int (nI (5)), .ref a1, .ref a2, .int (nI (u_107.2.2))])), (q9, .inl (cA9, (pw_c (pw_mk 5 (Wd i1).2.2 (Wd i2).2.2 0) h9 + pw_o (pw_mk 5 (Wd i1).2.2 (Wd i2).2.2 0) h9 p9), .inl pl9)), (o, .inr (ciP, [.ref q, .int (nI (n + 1))])), (q, .inl (cW, 40, .inr (.inr (.inr (.inr (va_up wa n (some a9))))))), (a9, .inr (ciW, [.int (nI (h9)), .long (lN (pw_b (pw_mk 5 (Wd i1).2.2 (Wd i2).2.2 0) 0 h9)), .int (nI (p9)), .long (lN (pw_b (pw_mk 5 (Wd i1).2.2 (Wd i2).2.2 0) h9 p9)), .int (nI (pw_c (pw_mk 5 (Wd i1).2.2 (Wd i2).2.2 0) h9)), .int (nI (pw_o (pw_mk 5 (Wd i1).2.2 (Wd i2).2.2 0) h9 p9)), .ref q9]))] H := hP
                  have hD : va_D A [(r_107, .inr (ciD, [.int (nI (u_107.1)), .int (nI (u_107.2.1)), .int (nI (5)), .ref a1, .ref a2, .int (nI (u_107.2.2))])), (q9, .inl (cA9, (pw_c (pw_mk 5 (Wd i1).2.2 (Wd i2).2.2 0) h9 + pw_o (pw_mk 5 (Wd i1).2.2 (Wd i2).2.2 0) h9 p9), .inl pl9)), (o, .inr (ciP, [.ref q, .int (nI (n + 1))])), (q, .inl (cW, 40, .inr (.inr (.inr (.inr (va_up wa n (some a9))))))), (a9, .inr (ciW, [.int (nI (h9)), .long (lN (pw_b (pw_mk 5 (Wd i1).2.2 (Wd i2).2.2 0) 0 h9)), .int (nI (p9)), .long (lN (pw_b (pw_mk 5 (Wd i1).2.2 (Wd i2).2.2 0) h9 p9)), .int (nI (pw_c (pw_mk 5 (Wd i1).2.2 (Wd i2).2.2 0) h9)), .int (nI (pw_o (pw_mk 5 (Wd i1).2.2 (Wd i2).2.2 0) h9 p9)), .ref q9]))] := hD
                  refine vx_ret ?_
                  refine W.widen (k := 3) (n := 133) (by omega) (by omega) ?_
                  exact W.iret (v := (nI (n))) hx hb hr (fun t_ ht_ hW_ => ⟨⟨_, (n + 1, va_up wa n (some a9), fun i => if i = n then (h9, p9, (pw_mk 5 (Wd i1).2.2 (Wd i2).2.2 0)) else Wd i), rfl, Or.inl ⟨5, i1, i2, 0, ⟨hn40, by decide, rfl, hi1, hx1, fun _ => ⟨hi2, hx2⟩, fun z_ => absurd z_ (by decide), fun z_ => absurd (show sp_two 5 by unfold sp_two; decide) z_, fun _ => rfl⟩, fun _ => c_87, h9, p9, hcan, Or.inl ⟨h60, p60, rfl, rfl, if_pos rfl, fun i hi => if_neg (Nat.ne_of_lt hi)⟩⟩, by rw [ht_]; exact hP.sub [2, 3] rfl, va_K.moved hW_.alike (hK.sub [0] rfl), hD.sub [2, 3] (by decide) rfl, by rw [ht_]; exact wdAll.moved hW_.alike (cs_new (cs_keep hAe hoz hqz hS hall) ⟨q9, cA9, pl9, hP.sub [4, 1] rfl, hK9, hpl9, ⟨h60, hcan.1, p60, hcan.2.1⟩, hz9, hzq9⟩)⟩, hS.F ht_⟩) hS.2.2 d_P_make_116
              · obtain ⟨sa_, hstr_⟩ := htx.2.2.2 (47, "b has 1s with an end") (by simp)
                exact tx_throw (cls := "java/lang/IllegalArgumentException") (Y1 := "java/lang/RuntimeException") (names := ["java/lang/Exception"]) (ix := 7) (bs := prog_8_method_2_code) (ik := 45) (is := 47) (ic := 49) (text := "b has 1s with an end") (sa := sa_) (A := A) hx hb hst tx_I0 hown (by decide +kernel) (by decide +kernel) (by decide +kernel) (hts (.classLink R_P 45 "java/lang/IllegalArgumentException") (List.mem_cons_of_mem _ mb_255)) (hts (.initialized "java/lang/IllegalArgumentException") (List.mem_cons_of_mem _ mb_31)) hstr_ (tx_hat hts htx tx_I1 tx_I2) tx_I3 (htx.2.1.narrow hAz) (htx.2.2.1.narrow hAz) hS (hl.1.trans hml.symm) d_P_make_90 d_P_make_93 d_P_make_94 d_P_make_96 d_P_make_99 (fun x_ hx_ => (hxt x_ hx_).elim) (Nat.le_of_ble_eq_true rfl) (Nat.le_of_ble_eq_true rfl) (Nat.le_of_ble_eq_true rfl) (Nat.le_of_ble_eq_true rfl) hlocks (fun t_ hv_ hz_ hk_ => ⟨(), ⟨i1, i2, 0, ⟨hn40, by decide, rfl, hi1, hx1, fun _ => ⟨hi2, hx2⟩, fun z_ => absurd z_ (by decide), fun z_ => absurd (show sp_two 5 by unfold sp_two; decide) z_, fun _ => rfl⟩, c_87⟩, ⟨rfl, tx_Pk hP hk_, va_K.moved hv_ hK, hD, wdAll.moved hv_ (wdAll.kept (fun q_ _ h_ => hk_ q_ h_) hall)⟩, hz_, fun q_ h1_ _ => hk_ q_ h1_⟩) (fun z_ hz_ => absurd hz_ List.not_mem_nil) (by decide) (by decide)
            · refine pq_top (y := .null) (by rw [hr2]; rfl) ?_
              refine lv_goto (tgt := 45) hx hb d_P_make_40 (by decide) ?_
              refine lv_astoreN (lv' := [(5, .null), (4, .ref a1), (0, .ref o), (1, .int (nI (5))), (2, .int (nI (i1))), (3, .int (z))]) hx hb d_P_make_45 hl (by decide) rfl (fun ls hl => ?_)
              refine lv_aload hx hb d_P_make_47 (lv_at hl 1 rfl) ?_
              refine lv_ifnull hx hb d_P_make_49 ?_
              refine lv_aloadN hx hb d_P_make_52 (lv_at hl 0 rfl) ?_
              refine lv_ifnonnullN hx hb d_P_make_54 ?_
              refine lv_iconst (v := (-1)) hx hb d_P_make_57 (by decide) ?_
              refine vx_ret ?_
              refine W.widen (k := 3) (n := 133) (by omega) (by omega) ?_
              exact W.iret (v := (-1)) hx hb hr (fun t_ ht_ hW_ => ⟨⟨_, (n, wa, Wd), rfl, Or.inr ⟨fun ⟨k, i, j, d, w_⟩ => by have e_ := sp_mk_u (by decide) w_; subst e_; exact hno2 ⟨j, w_.2.2.2.2.2.1 (by unfold sp_two; decide)⟩, rfl, rfl, fun _ _ => rfl⟩, by rw [ht_]; exact hP.sub [0, 1] rfl, va_K.moved hW_.alike (hK.sub [0] rfl), hD.sub [0, 1] (by decide) rfl, by rw [ht_]; exact wdAll.moved hW_.alike (cs_keep hAe hoz hqz hS hall)⟩, hS.F ht_⟩) hS.2.2 d_P_make_58
          · refine pq_top (y := .null) (by rw [hr1]; rfl) ?_
            refine lv_astoreN (lv' := [(4, .null), (0, .ref o), (1, .int (nI (5))), (2, .int (y)), (3, .int (z))]) hx hb d_P_make_26 hl (by decide) rfl (fun ls hl => ?_)
            refine lv_iload_n hx hb d_P_make_28 rfl (lv_at hl 2 rfl) ?_
            refine vp_callSi (W.runS (As := [.int (nI (5))]) (rest := []) ⟨hx, hb, hml, hown, hts⟩ (c_P_needsTwo l dC dI (how := 5) (by decide)) (va_cwS 1 hts (gd_S mb_252 mb_253 mb_22 mb_254) rfl rfl rfl (by decide +kernel) ⟨Nat.le_of_ble_eq_true rfl, Nat.le_of_ble_eq_true rfl⟩) (pw_R_S pw_P0 (hK.sub [] rfl)) rfl rfl hl.1 rfl (lv_room (Nat.le_of_ble_eq_true rfl)) d_P_make_29 ⟨Nat.le_of_ble_eq_true rfl, Nat.le_of_ble_eq_true rfl⟩) (fun r_29 hr_29 => ?_)
            subst hr_29
            refine pq_top (y := .int (nI (1))) (by first | rfl | decide) ?_
            refine pq_if_eq (tgt := 43) (a := 1) hx hb d_P_make_32 (by decide) (by omega) (fun c_32 => absurd c_32 (by omega)) (fun c_32 => ?_)
            refine lv_aload_n hx hb d_P_make_35 rfl (lv_at hl 1 rfl) ?_
            refine lv_iload_n hx hb d_P_make_36 rfl (lv_at hl 4 rfl) ?_
            refine va_csq (W.runV (As := [.int (z)]) (rest := []) ⟨hx, hb, hml, hown, hts⟩ (c_P_find l dC dI hn (x := z)) (cwV 1 hts (gd_V mb_198 mb_200 mb_1 mb_22 mb_201) rfl rfl rfl (by decide +kernel) ⟨Nat.le_of_ble_eq_true rfl, Nat.le_of_ble_eq_true rfl⟩) (pw_R_V (va_recv hK hP (ci := ciP) (q0 := 0) rfl rfl) hP hK) rfl rfl hl.1 rfl (lv_room (Nat.le_of_ble_eq_true rfl)) d_P_make_37 ⟨Nat.le_of_ble_eq_true rfl, Nat.le_of_ble_eq_true rfl⟩) (fun r_37 hr_37 => ?_)
            rcases hr_37 with ⟨i2, hi2, hx2, hr2⟩ | ⟨hno2, hr2⟩
            · obtain ⟨a2, hwa2, q2, cA2, pl2, hPw2, hKw2, hpl2, hok2, hz2, hzq2⟩ := hall i2 hi2
              have hok2_ := hok2; obtain ⟨hh2, hp02, hp62, hE2⟩ := hok2_
              have ho2 := pw_o_le (Wd i2).2.2 (Wd i2).1 (Wd i2).2.1
              have hc2 := pw_c_le (Wd i2).2.2 (Wd i2).1
              rw [hx2] at hl
              refine pq_top (y := .ref a2) (by rw [hr2, hwa2]; rfl) ?_
              refine lv_goto (tgt := 45) hx hb d_P_make_40 (by decide) ?_
              refine lv_astore (lv' := [(5, .ref a2), (4, .null), (0, .ref o), (1, .int (nI (5))), (2, .int (y)), (3, .int (nI (i2)))]) hx hb d_P_make_45 hl (by decide) rfl (fun ls hl => ?_)
              refine lv_aloadN hx hb d_P_make_47 (lv_at hl 1 rfl) ?_
              refine lv_ifnullN (tgt := 57) hx hb d_P_make_49 (by decide) ?_
              refine lv_iconst (v := (-1)) hx hb d_P_make_57 (by decide) ?_
              refine vx_ret ?_
              refine W.widen (k := 3) (n := 133) (by omega) (by omega) ?_
              exact W.iret (v := (-1)) hx hb hr (fun t_ ht_ hW_ => ⟨⟨_, (n, wa, Wd), rfl, Or.inr ⟨fun ⟨k, i, j, d, w_⟩ => hno1 ⟨i, w_.2.2.2.1, w_.2.2.2.2.1⟩, rfl, rfl, fun _ _ => rfl⟩, by rw [ht_]; exact hP.sub [0, 1] rfl, va_K.moved hW_.alike (hK.sub [0] rfl), hD.sub [0, 1] (by decide) rfl, by rw [ht_]; exact wdAll.moved hW_.alike (cs_keep hAe hoz hqz hS hall)⟩, hS.F ht_⟩) hS.2.2 d_P_make_58
            · refine pq_top (y := .null) (by rw [hr2]; rfl) ?_
              refine lv_goto (tgt := 45) hx hb d_P_make_40 (by decide) ?_
              refine lv_astoreN (lv' := [(5, .null), (4, .null), (0, .ref o), (1, .int (nI (5))), (2, .int (y)), (3, .int (z))]) hx hb d_P_make_45 hl (by decide) rfl (fun ls hl => ?_)
              refine lv_aloadN hx hb d_P_make_47 (lv_at hl 1 rfl) ?_
              refine lv_ifnullN (tgt := 57) hx hb d_P_make_49 (by decide) ?_
              refine lv_iconst (v := (-1)) hx hb d_P_make_57 (by decide) ?_
              refine vx_ret ?_
              refine W.widen (k := 3) (n := 133) (by omega) (by omega) ?_
              exact W.iret (v := (-1)) hx hb hr (fun t_ ht_ hW_ => ⟨⟨_, (n, wa, Wd), rfl, Or.inr ⟨fun ⟨k, i, j, d, w_⟩ => hno1 ⟨i, w_.2.2.2.1, w_.2.2.2.2.1⟩, rfl, rfl, fun _ _ => rfl⟩, by rw [ht_]; exact hP.sub [0, 1] rfl, va_K.moved hW_.alike (hK.sub [0] rfl), hD.sub [0, 1] (by decide) rfl, by rw [ht_]; exact wdAll.moved hW_.alike (cs_keep hAe hoz hqz hS hall)⟩, hS.F ht_⟩) hS.2.2 d_P_make_58
        · refine lv_aload_n hx hb d_P_make_21 rfl (lv_at hl 0 rfl) ?_
          refine lv_iload_n hx hb d_P_make_22 rfl (lv_at hl 2 rfl) ?_
          refine va_csq (W.runV (As := [.int (y)]) (rest := []) ⟨hx, hb, hml, hown, hts⟩ (c_P_find l dC dI hn (x := y)) (cwV 1 hts (gd_V mb_198 mb_200 mb_1 mb_22 mb_201) rfl rfl rfl (by decide +kernel) ⟨Nat.le_of_ble_eq_true rfl, Nat.le_of_ble_eq_true rfl⟩) (pw_R_V (va_recv hK hP (ci := ciP) (q0 := 0) rfl rfl) hP hK) rfl rfl hl.1 rfl (lv_room (Nat.le_of_ble_eq_true rfl)) d_P_make_23 ⟨Nat.le_of_ble_eq_true rfl, Nat.le_of_ble_eq_true rfl⟩) (fun r_23 hr_23 => ?_)
          rcases hr_23 with ⟨i1, hi1, hx1, hr1⟩ | ⟨hno1, hr1⟩
          · obtain ⟨a1, hwa1, q1, cA1, pl1, hPw1, hKw1, hpl1, hok1, hz1, hzq1⟩ := hall i1 hi1
            have hok1_ := hok1; obtain ⟨hh1, hp01, hp61, hE1⟩ := hok1_
            have ho1 := pw_o_le (Wd i1).2.2 (Wd i1).1 (Wd i1).2.1
            have hc1 := pw_c_le (Wd i1).2.2 (Wd i1).1
            rw [hx1] at hl
            refine pq_top (y := .ref a1) (by rw [hr1, hwa1]; rfl) ?_
            refine lv_astore (lv' := [(4, .ref a1), (0, .ref o), (1, .int (nI (6))), (2, .int (nI (i1))), (3, .int (z))]) hx hb d_P_make_26 hl (by decide) rfl (fun ls hl => ?_)
            refine lv_iload_n hx hb d_P_make_28 rfl (lv_at hl 2 rfl) ?_
            refine vp_callSi (W.runS (As := [.int (nI (6))]) (rest := []) ⟨hx, hb, hml, hown, hts⟩ (c_P_needsTwo l dC dI (how := 6) (by decide)) (va_cwS 1 hts (gd_S mb_252 mb_253 mb_22 mb_254) rfl rfl rfl (by decide +kernel) ⟨Nat.le_of_ble_eq_true rfl, Nat.le_of_ble_eq_true rfl⟩) (pw_R_S pw_P0 (hK.sub [] rfl)) rfl rfl hl.1 rfl (lv_room (Nat.le_of_ble_eq_true rfl)) d_P_make_29 ⟨Nat.le_of_ble_eq_true rfl, Nat.le_of_ble_eq_true rfl⟩) (fun r_29 hr_29 => ?_)
            subst hr_29
            refine pq_top (y := .int (nI (0))) (by first | rfl | decide) ?_
            refine pq_if_eq (tgt := 43) (a := 0) hx hb d_P_make_32 (by decide) (by omega) (fun c_32 => ?_) (fun c_32 => absurd c_32 (by omega))
            refine lv_aload hx hb d_P_make_43 (lv_at hl 0 rfl) ?_
            refine lv_astore (lv' := [(5, .ref a1), (4, .ref a1), (0, .ref o), (1, .int (nI (6))), (2, .int (nI (i1))), (3, .int (z))]) hx hb d_P_make_45 hl (by decide) rfl (fun ls hl => ?_)
            refine lv_aload hx hb d_P_make_47 (lv_at hl 1 rfl) ?_
            refine lv_ifnull hx hb d_P_make_49 ?_
            refine lv_aload hx hb d_P_make_52 (lv_at hl 0 rfl) ?_
            refine lv_ifnonnull (tgt := 59) hx hb d_P_make_54 (by decide) ?_
            refine lv_iload_n hx hb d_P_make_59 rfl (lv_at hl 3 rfl) ?_
            refine lv_bipush (v := nI 6) hx hb d_P_make_60 (by decide) ?_
            refine pq_icmp_ne (tgt := 77) (a := 6) (b := 6) hx hb d_P_make_62 (by decide) (by omega) (by omega) (fun c_62 => absurd c_62 (by omega)) (fun c_62 => ?_)
            refine lv_iload_n hx hb d_P_make_65 rfl (lv_at hl 5 rfl) ?_
            refine lv_if_lt (tgt := 75) hx hb d_P_make_66 (by decide) (fun c_66 => ?_) (fun c_66 => ?_)
            · refine lv_iconst (v := (-1)) hx hb d_P_make_75 (by decide) ?_
              refine vx_ret ?_
              refine W.widen (k := 3) (n := 133) (by omega) (by omega) ?_
              exact W.iret (v := (-1)) hx hb hr (fun t_ ht_ hW_ => ⟨⟨_, (n, wa, Wd), rfl, Or.inr ⟨fun ⟨k, i, j, d, w_⟩ => by have e_ := sp_mk_u (by decide) w_; subst e_; obtain ⟨e1_, e2_⟩ := w_.2.2.2.2.2.2.1 rfl; subst e2_; first | exact nI_pos (by omega) c_66 | exact c_72 (nI_le e1_ (by omega)), rfl, rfl, fun _ _ => rfl⟩, by rw [ht_]; exact hP.sub [0, 1] rfl, va_K.moved hW_.alike (hK.sub [0] rfl), hD.sub [0, 1] (by decide) rfl, by rw [ht_]; exact wdAll.moved hW_.alike (cs_keep hAe hoz hqz hS hall)⟩, hS.F ht_⟩) hS.2.2 d_P_make_76
            · refine lv_iload_n hx hb d_P_make_69 rfl (lv_at hl 5 rfl) ?_
              refine lv_bipush (v := nI 30) hx hb d_P_make_70 (by decide) ?_
              refine lv_icmp_le (tgt := 77) hx hb d_P_make_72 (by decide) (fun c_72 => ?_) (fun c_72 => ?_)
              · obtain ⟨jd, hjd, e3_⟩ := pq_in_of (N := 30) (by decide) (by rw [nI_0]; exact c_66) (Int32.not_lt.mpr c_72)
                subst e3_
                refine lv_iload_n hx hb d_P_make_77 rfl (lv_at hl 3 rfl) ?_
                refine lv_iconst (v := nI 5) hx hb d_P_make_78 (by decide) ?_
                refine pq_icmp_ne (tgt := 100) (a := 6) (b := 5) hx hb d_P_make_79 (by decide) (by omega) (by omega) (fun c_79 => ?_) (fun c_79 => absurd c_79 (by omega))
                refine lv_aload_n hx hb d_P_make_100 rfl (lv_at hl 2 rfl) ?_
                refine lv_iload_n hx hb d_P_make_101 rfl (lv_at hl 3 rfl) ?_
                refine lv_aload hx hb d_P_make_102 (lv_at hl 1 rfl) ?_
                refine lv_aload hx hb d_P_make_104 (lv_at hl 0 rfl) ?_
                refine lv_iload_n hx hb d_P_make_106 rfl (lv_at hl 5 rfl) ?_
                have hWW := hPw1.app hPw1
                have hKW := hKw1.app hKw1
                have hPc := hP.sub (ws' := []) [] rfl
                have hDc := hD.sub (ws' := []) [] (by decide) rfl
                have hKc := hK.sub (tys' := []) [] rfl
                have hFc := va_free (wc := []) hD hS hA [] rfl
                refine va_callr (va_runS (As := [.int (nI (6)), .ref a1, .ref a1, .int (nI (jd))]) (rest := [.ref o]) ⟨hx, hb, hml, hown, hts⟩ (c_P_draftOf l dC dI (a := a1) (q := q1) (cA := cA1) (pl := pl1) (a2 := a1) (q2 := q1) (cA2 := cA1) (pl2 := pl1) hok1 hok1 hpl1 (how := 6) (late := jd) (by decide) hjd (fun z_ => absurd z_ (by decide))) (va_cwS 4 hts (gd_S mb_108 mb_109 mb_22 mb_110) rfl rfl rfl (by decide +kernel) ⟨Nat.le_of_ble_eq_true rfl, Nat.le_of_ble_eq_true rfl⟩) ⟨dr_blind, fun U hU hW => ⟨rfl, by rw [hU], by rw [hU]; exact hWW, va_K.moved hW.alike hKW⟩⟩ rfl rfl hl.1 rfl (lv_room (Nat.le_of_ble_eq_true rfl)) d_P_make_107 ⟨Nat.le_of_ble_eq_true rfl, Nat.le_of_ble_eq_true rfl⟩) hS (fun q _ h => hFc q h) hFc (fun u_107 r_107 t_ H1 locs ht_ hvm_ hr_107 hB_ hz1_ hk1_ hS => ?_)
                obtain ⟨hP1_, hK1_, hD1_⟩ := hB_
                rw [ht_] at hP1_
                obtain ⟨hP, hD⟩ := va_join (wr := [(o, .inr (ciP, [.ref q, .int (nI (n))])), (q, .inl (cW, 40, .inr (.inr (.inr (.inr wa)))))]) (w1 := [(r_107, .inr (ciD, [.int (nI (u_107.1)), .int (nI (u_107.2.1)), .int (nI (6)), .ref a1, .ref a1, .int (nI (u_107.2.2))]))]) hP hD [] [0, 1] rfl rfl (by decide) (by decide) hk1_ hFc hP1_ hD1_
                generalize H1 = H at hP hS hz1_ hk1_ ⊢
                have hP : va_P (dC, dI) vwCl [(o, .inr (ciP, [.ref q, .int (nI (n))])), (q, .inl (cW, 40, .inr (.inr (.inr (.inr wa))))), (r_107, .inr (ciD, [.int (nI (u_107.1)), .int (nI (u_107.2.1)), .int (nI (6)), .ref a1, .ref a1, .int (nI (u_107.2.2))]))] H := hP
                have hD : va_D A [(o, .inr (ciP, [.ref q, .int (nI (n))])), (q, .inl (cW, 40, .inr (.inr (.inr (.inr wa))))), (r_107, .inr (ciD, [.int (nI (u_107.1)), .int (nI (u_107.2.1)), .int (nI (6)), .ref a1, .ref a1, .int (nI (u_107.2.2))]))] := hD
                obtain ⟨⟨hd1, hd2, hd3, hd4, hd5⟩, hlt⟩ := hr_107
                have hPw1 := cs_wk hAe hoz hqz hS hz1 hzq1 hPw1
                have hPd := hP.sub (ws' := dr r_107 a1 a1 u_107.1 u_107.2.1 6 u_107.2.2) [2] rfl
                have hWW := hPd.app (hPw1.app hPw1)
                have hKW := hKw1.app hKw1
                have hSz := hS.1
                have hPc := hP.sub (ws' := []) [] rfl
                have hDc := hD.sub (ws' := []) [] (by decide) rfl
                have hKc := hK.sub (tys' := []) [] rfl
                have hFc := va_free (wc := []) hD hS hA [] rfl
                refine va_callq (va_runS (As := [.ref r_107]) (rest := [.ref o]) ⟨hx, hb, hml, hown, hts⟩ (c_P_shortestForm l dC dI (a := a1) (q := q1) (cA := cA1) (pl := pl1) (a2 := a1) (q2 := q1) (cA2 := cA1) (pl2 := pl1) hok1 hok1 hpl1 (dd := r_107) (hd := u_107.1) (rd := u_107.2.1) (how := 6) (late := u_107.2.2) (by decide) hd4 (fun z_ => absurd z_ (by decide)) hd1 hd2 hd3 hd5) (va_cwS 1 hts (gd_S mb_163 mb_164 mb_22 mb_165) rfl rfl rfl (by decide +kernel) ⟨Nat.le_of_ble_eq_true rfl, Nat.le_of_ble_eq_true rfl⟩) ⟨dr_blind, fun U hU hW => ⟨rfl, by rw [hU], by rw [hU]; exact hWW, va_K.moved hW.alike hKW⟩⟩ rfl rfl hl.1 rfl (lv_room (Nat.le_of_ble_eq_true rfl)) d_P_make_110 ⟨Nat.le_of_ble_eq_true rfl, Nat.le_of_ble_eq_true rfl⟩) hS (fun q _ h => hFc q h) hFc (fun r_110 u_110 t_ H1 locs ht_ hvm_ hr_110 hB_ hz1_ hk1_ hS => ?_)
                obtain ⟨hr1, hok1⟩ := hr_110
                rw [hlt rfl] at hok1 hB_
                rcases u_110 with _ | ⟨a9, h9, p9, q9, cA9, pl9⟩
                · subst hr1
                  obtain ⟨hP, hD⟩ := va_join (wr := [(o, .inr (ciP, [.ref q, .int (nI (n))])), (q, .inl (cW, 40, .inr (.inr (.inr (.inr wa))))), (r_107, .inr (ciD, [.int (nI (u_107.1)), .int (nI (u_107.2.1)), .int (nI (6)), .ref a1, .ref a1, .int (nI (u_107.2.2))]))]) (w1 := []) hP hD [] [0, 1, 2] rfl rfl (by decide) (by decide) hk1_ hFc pw_P0 pw_D0
                  generalize H1 = H at hP hS ⊢
                  have hP : va_P (dC, dI) vwCl [(o, .inr (ciP, [.ref q, .int (nI (n))])), (q, .inl (cW, 40, .inr (.inr (.inr (.inr wa))))), (r_107, .inr (ciD, [.int (nI (u_107.1)), .int (nI (u_107.2.1)), .int (nI (6)), .ref a1, .ref a1, .int (nI (u_107.2.2))]))] H := hP
                  have hD : va_D A [(o, .inr (ciP, [.ref q, .int (nI (n))])), (q, .inl (cW, 40, .inr (.inr (.inr (.inr wa))))), (r_107, .inr (ciD, [.int (nI (u_107.1)), .int (nI (u_107.2.1)), .int (nI (6)), .ref a1, .ref a1, .int (nI (u_107.2.2))]))] := hD
                  obtain ⟨h9, p9, hcan, h60⟩ := hok1
                  refine pq_top (y := .null) rfl ?_
                  refine vp_callSi (W.runV (As := [.null]) (rest := []) ⟨hx, hb, hml, hown, hts⟩ (c_P_keepN l dC dI (o := o) (q := q) (n := n) (cW := cW) (wa := wa)) (cwV 1 hts (gd_V mb_190 mb_192 mb_0 mb_22 mb_193) rfl rfl rfl (by decide +kernel) ⟨Nat.le_of_ble_eq_true rfl, Nat.le_of_ble_eq_true rfl⟩) (pw_R_V (va_recv hK hP (ci := ciP) (q0 := 0) rfl rfl) (hP.sub [0, 1] rfl) (hK.sub [0] rfl)) rfl rfl hl.1 rfl (lv_room (Nat.le_of_ble_eq_true rfl)) d_P_make_113 ⟨Nat.le_of_ble_eq_true rfl, Nat.le_of_ble_eq_true rfl⟩) (fun r_113 hr_113 => ?_)
                  subst hr_113
                  refine vx_ret ?_
                  refine W.widen (k := 3) (n := 133) (by omega) (by omega) ?_
                  exact W.iret (v := (-1)) hx hb hr (fun t_ ht_ hW_ => ⟨⟨_, (n, wa, Wd), rfl, Or.inl ⟨6, i1, i1, jd, ⟨hn40, by decide, rfl, hi1, hx1, fun z_ => absurd z_ (by unfold sp_two; decide), fun _ => ⟨hjd, rfl⟩, fun _ => rfl, fun z_ => absurd rfl z_⟩, fun z_ => absurd z_ (by decide), h9, p9, hcan, Or.inr ⟨h60, rfl, rfl, fun _ _ => rfl⟩⟩, by rw [ht_]; exact hP.sub [0, 1] rfl, va_K.moved hW_.alike (hK.sub [0] rfl), hD.sub [0, 1] (by decide) rfl, by rw [ht_]; exact wdAll.moved hW_.alike (cs_keep hAe hoz hqz hS hall)⟩, hS.F ht_⟩) hS.2.2 d_P_make_116
                · subst hr1
                  obtain ⟨hcan, h60, p60, hpl9⟩ := hok1
                  obtain ⟨hP1_, hK1_, hD1_⟩ := hB_
                  rw [ht_] at hP1_
                  have hK9 : va_K (dC, dI) vwCl [(cA9, .int)] s := va_K.moved hvm_.symm hK1_
                  have hz9 : z0 ≤ a9 := Nat.le_trans hzs (Nat.le_trans hSz (pw_A0 (hD1_.2 0 _ rfl)))
                  have hzq9 : z0 ≤ q9 := Nat.le_trans hzs (Nat.le_trans hSz (pw_A0 (hD1_.2 1 _ rfl)))
                  obtain ⟨hP, hD⟩ := va_join (wr := [(o, .inr (ciP, [.ref q, .int (nI (n))])), (q, .inl (cW, 40, .inr (.inr (.inr (.inr wa))))), (r_107, .inr (ciD, [.int (nI (u_107.1)), .int (nI (u_107.2.1)), .int (nI (6)), .ref a1, .ref a1, .int (nI (u_107.2.2))]))]) (w1 := [(a9, .inr (ciW, [.int (nI (h9)), .long (lN (pw_b (pw_mk 6 (Wd i1).2.2 (Wd i1).2.2 jd) 0 h9)), .int (nI (p9)), .long (lN (pw_b (pw_mk 6 (Wd i1).2.2 (Wd i1).2.2 jd) h9 p9)), .int (nI (pw_c (pw_mk 6 (Wd i1).2.2 (Wd i1).2.2 jd) h9)), .int (nI (pw_o (pw_mk 6 (Wd i1).2.2 (Wd i1).2.2 jd) h9 p9)), .ref q9])), (q9, .inl (cA9, (pw_c (pw_mk 6 (Wd i1).2.2 (Wd i1).2.2 jd) h9 + pw_o (pw_mk 6 (Wd i1).2.2 (Wd i1).2.2 jd) h9 p9), .inl pl9))]) hP hD [] [0, 1, 2] rfl rfl (by decide) (by decide) hk1_ hFc hP1_ hD1_
                  generalize H1 = H at hP hS ⊢
                  have hP : va_P (dC, dI) vwCl [(o, .inr (ciP, [.ref q, .int (nI (n))])), (q, .inl (cW, 40, .inr (.inr (.inr (.inr wa))))), (r_107, .inr (ciD, [.int (nI (u_107.1)), .int (nI (u_107.2.1)), .int (nI (6)), .ref a1, .ref a1, .int (nI (u_107.2.2))])), (a9, .inr (ciW, [.int (nI (h9)), .long (lN (pw_b (pw_mk 6 (Wd i1).2.2 (Wd i1).2.2 jd) 0 h9)), .int (nI (p9)), .long (lN (pw_b (pw_mk 6 (Wd i1).2.2 (Wd i1).2.2 jd) h9 p9)), .int (nI (pw_c (pw_mk 6 (Wd i1).2.2 (Wd i1).2.2 jd) h9)), .int (nI (pw_o (pw_mk 6 (Wd i1).2.2 (Wd i1).2.2 jd) h9 p9)), .ref q9])), (q9, .inl (cA9, (pw_c (pw_mk 6 (Wd i1).2.2 (Wd i1).2.2 jd) h9 + pw_o (pw_mk 6 (Wd i1).2.2 (Wd i1).2.2 jd) h9 p9), .inl pl9))] H := hP
                  have hD : va_D A [(o, .inr (ciP, [.ref q, .int (nI (n))])), (q, .inl (cW, 40, .inr (.inr (.inr (.inr wa))))), (r_107, .inr (ciD, [.int (nI (u_107.1)), .int (nI (u_107.2.1)), .int (nI (6)), .ref a1, .ref a1, .int (nI (u_107.2.2))])), (a9, .inr (ciW, [.int (nI (h9)), .long (lN (pw_b (pw_mk 6 (Wd i1).2.2 (Wd i1).2.2 jd) 0 h9)), .int (nI (p9)), .long (lN (pw_b (pw_mk 6 (Wd i1).2.2 (Wd i1).2.2 jd) h9 p9)), .int (nI (pw_c (pw_mk 6 (Wd i1).2.2 (Wd i1).2.2 jd) h9)), .int (nI (pw_o (pw_mk 6 (Wd i1).2.2 (Wd i1).2.2 jd) h9 p9)), .ref q9])), (q9, .inl (cA9, (pw_c (pw_mk 6 (Wd i1).2.2 (Wd i1).2.2 jd) h9 + pw_o (pw_mk 6 (Wd i1).2.2 (Wd i1).2.2 jd) h9 p9), .inl pl9))] := hD
                  refine pq_top (y := .ref a9) rfl ?_
                  have hPc := hP.sub (ws' := [(o, .inr (ciP, [.ref q, .int (nI (n))])), (q, .inl (cW, 40, .inr (.inr (.inr (.inr wa))))), (a9, .inr (ciW, [.int (nI (h9)), .long (lN (pw_b (pw_mk 6 (Wd i1).2.2 (Wd i1).2.2 jd) 0 h9)), .int (nI (p9)), .long (lN (pw_b (pw_mk 6 (Wd i1).2.2 (Wd i1).2.2 jd) h9 p9)), .int (nI (pw_c (pw_mk 6 (Wd i1).2.2 (Wd i1).2.2 jd) h9)), .int (nI (pw_o (pw_mk 6 (Wd i1).2.2 (Wd i1).2.2 jd) h9 p9)), .ref q9]))]) [0, 1, 3] rfl
                  have hDc := hD.sub (ws' := [(o, .inr (ciP, [.ref q, .int (nI (n))])), (q, .inl (cW, 40, .inr (.inr (.inr (.inr wa))))), (a9, .inr (ciW, [.int (nI (h9)), .long (lN (pw_b (pw_mk 6 (Wd i1).2.2 (Wd i1).2.2 jd) 0 h9)), .int (nI (p9)), .long (lN (pw_b (pw_mk 6 (Wd i1).2.2 (Wd i1).2.2 jd) h9 p9)), .int (nI (pw_c (pw_mk 6 (Wd i1).2.2 (Wd i1).2.2 jd) h9)), .int (nI (pw_o (pw_mk 6 (Wd i1).2.2 (Wd i1).2.2 jd) h9 p9)), .ref q9]))]) [0, 1, 3] (by decide) rfl
                  have hKc := hK.sub (tys' := [(cW, .object "PeriodWords$Word")]) [0] rfl
                  have hFc := va_free (wc := [(o, .inr (ciP, [.ref q, .int (nI (n))])), (q, .inl (cW, 40, .inr (.inr (.inr (.inr wa))))), (a9, .inr (ciW, [.int (nI (h9)), .long (lN (pw_b (pw_mk 6 (Wd i1).2.2 (Wd i1).2.2 jd) 0 h9)), .int (nI (p9)), .long (lN (pw_b (pw_mk 6 (Wd i1).2.2 (Wd i1).2.2 jd) h9 p9)), .int (nI (pw_c (pw_mk 6 (Wd i1).2.2 (Wd i1).2.2 jd) h9)), .int (nI (pw_o (pw_mk 6 (Wd i1).2.2 (Wd i1).2.2 jd) h9 p9)), .ref q9]))]) hD hS hA [0, 1, 3] rfl
                  refine va_calli (va_runV (As := [.ref a9]) (rest := []) ⟨hx, hb, hml, hown, hts⟩ (c_P_keep l dC dI (o := o) (q := q) (n := n) (cW := cW) (wa := wa) (a := a9) (h := h9) (pp := p9) (qq := q9) (f := (pw_mk 6 (Wd i1).2.2 (Wd i1).2.2 jd)) hn40) (cwV 1 hts (gd_V mb_190 mb_192 mb_0 mb_22 mb_193) rfl rfl rfl (by decide +kernel) ⟨Nat.le_of_ble_eq_true rfl, Nat.le_of_ble_eq_true rfl⟩) ⟨md_blind, va_recv hK hP (ci := ciP) (q0 := 0) rfl rfl, fun U hU hW => ⟨rfl, by rw [hU], by rw [hU]; exact hPc, va_K.moved hW.alike hKc, hDc.weaken (fun _ _ _ _ => trivial)⟩⟩ rfl rfl hl.1 rfl (lv_room (Nat.le_of_ble_eq_true rfl)) d_P_make_113 ⟨Nat.le_of_ble_eq_true rfl, Nat.le_of_ble_eq_true rfl⟩) hS (fun q _ h => hFc q h) hFc (fun r_113 u_113 t_ H1 locs ht_ hvm_ hr_113 hB_ hz1_ hk1_ hS => ?_)
                  obtain ⟨hra, hrb⟩ := hr_113
                  subst hra
                  subst hrb
                  obtain ⟨hP1_, hK1_, hD1_⟩ := hB_
                  rw [ht_] at hP1_
                  obtain ⟨hP, hD⟩ := va_join (wr := [(r_107, .inr (ciD, [.int (nI (u_107.1)), .int (nI (u_107.2.1)), .int (nI (6)), .ref a1, .ref a1, .int (nI (u_107.2.2))])), (q9, .inl (cA9, (pw_c (pw_mk 6 (Wd i1).2.2 (Wd i1).2.2 jd) h9 + pw_o (pw_mk 6 (Wd i1).2.2 (Wd i1).2.2 jd) h9 p9), .inl pl9))]) (w1 := [(o, .inr (ciP, [.ref q, .int (nI (n + 1))])), (q, .inl (cW, 40, .inr (.inr (.inr (.inr (va_up wa n (some a9))))))), (a9, .inr (ciW, [.int (nI (h9)), .long (lN (pw_b (pw_mk 6 (Wd i1).2.2 (Wd i1).2.2 jd) 0 h9)), .int (nI (p9)), .long (lN (pw_b (pw_mk 6 (Wd i1).2.2 (Wd i1).2.2 jd) h9 p9)), .int (nI (pw_c (pw_mk 6 (Wd i1).2.2 (Wd i1).2.2 jd) h9)), .int (nI (pw_o (pw_mk 6 (Wd i1).2.2 (Wd i1).2.2 jd) h9 p9)), .ref q9]))]) hP hD [0, 1, 3] [2, 4] rfl rfl (by decide) (by decide) hk1_ hFc hP1_ hD1_
                  generalize H1 = H at hP hS ⊢
                  have hP : va_P (dC, dI) vwCl [(r_107, .inr (ciD, [.int (nI (u_107.1)), .int (nI (u_107.2.1)), .int (nI (6)), .ref a1, .ref a1, .int (nI (u_107.2.2))])), (q9, .inl (cA9, (pw_c (pw_mk 6 (Wd i1).2.2 (Wd i1).2.2 jd) h9 + pw_o (pw_mk 6 (Wd i1).2.2 (Wd i1).2.2 jd) h9 p9), .inl pl9)), (o, .inr (ciP, [.ref q, .int (nI (n + 1))])), (q, .inl (cW, 40, .inr (.inr (.inr (.inr (va_up wa n (some a9))))))), (a9, .inr (ciW, [.int (nI (h9)), .long (lN (pw_b (pw_mk 6 (Wd i1).2.2 (Wd i1).2.2 jd) 0 h9)), .int (nI (p9)), .long (lN (pw_b (pw_mk 6 (Wd i1).2.2 (Wd i1).2.2 jd) h9 p9)), .int (nI (pw_c (pw_mk 6 (Wd i1).2.2 (Wd i1).2.2 jd) h9)), .int (nI (pw_o (pw_mk 6 (Wd i1).2.2 (Wd i1).2.2 jd) h9 p9)), .ref q9]))] H := hP
                  have hD : va_D A [(r_107, .inr (ciD, [.int (nI (u_107.1)), .int (nI (u_107.2.1)), .int (nI (6)), .ref a1, .ref a1, .int (nI (u_107.2.2))])), (q9, .inl (cA9, (pw_c (pw_mk 6 (Wd i1).2.2 (Wd i1).2.2 jd) h9 + pw_o (pw_mk 6 (Wd i1).2.2 (Wd i1).2.2 jd) h9 p9), .inl pl9)), (o, .inr (ciP, [.ref q, .int (nI (n + 1))])), (q, .inl (cW, 40, .inr (.inr (.inr (.inr (va_up wa n (some a9))))))), (a9, .inr (ciW, [.int (nI (h9)), .long (lN (pw_b (pw_mk 6 (Wd i1).2.2 (Wd i1).2.2 jd) 0 h9)), .int (nI (p9)), .long (lN (pw_b (pw_mk 6 (Wd i1).2.2 (Wd i1).2.2 jd) h9 p9)), .int (nI (pw_c (pw_mk 6 (Wd i1).2.2 (Wd i1).2.2 jd) h9)), .int (nI (pw_o (pw_mk 6 (Wd i1).2.2 (Wd i1).2.2 jd) h9 p9)), .ref q9]))] := hD
                  refine vx_ret ?_
                  refine W.widen (k := 3) (n := 133) (by omega) (by omega) ?_
                  exact W.iret (v := (nI (n))) hx hb hr (fun t_ ht_ hW_ => ⟨⟨_, (n + 1, va_up wa n (some a9), fun i => if i = n then (h9, p9, (pw_mk 6 (Wd i1).2.2 (Wd i1).2.2 jd)) else Wd i), rfl, Or.inl ⟨6, i1, i1, jd, ⟨hn40, by decide, rfl, hi1, hx1, fun z_ => absurd z_ (by unfold sp_two; decide), fun _ => ⟨hjd, rfl⟩, fun _ => rfl, fun z_ => absurd rfl z_⟩, fun z_ => absurd z_ (by decide), h9, p9, hcan, Or.inl ⟨h60, p60, rfl, rfl, if_pos rfl, fun i hi => if_neg (Nat.ne_of_lt hi)⟩⟩, by rw [ht_]; exact hP.sub [2, 3] rfl, va_K.moved hW_.alike (hK.sub [0] rfl), hD.sub [2, 3] (by decide) rfl, by rw [ht_]; exact wdAll.moved hW_.alike (cs_new (cs_keep hAe hoz hqz hS hall) ⟨q9, cA9, pl9, hP.sub [4, 1] rfl, hK9, hpl9, ⟨h60, hcan.1, p60, hcan.2.1⟩, hz9, hzq9⟩)⟩, hS.F ht_⟩) hS.2.2 d_P_make_116
              · refine lv_iconst (v := (-1)) hx hb d_P_make_75 (by decide) ?_
                refine vx_ret ?_
                refine W.widen (k := 3) (n := 133) (by omega) (by omega) ?_
                exact W.iret (v := (-1)) hx hb hr (fun t_ ht_ hW_ => ⟨⟨_, (n, wa, Wd), rfl, Or.inr ⟨fun ⟨k, i, j, d, w_⟩ => by have e_ := sp_mk_u (by decide) w_; subst e_; obtain ⟨e1_, e2_⟩ := w_.2.2.2.2.2.2.1 rfl; subst e2_; first | exact nI_pos (by omega) c_66 | exact c_72 (nI_le e1_ (by omega)), rfl, rfl, fun _ _ => rfl⟩, by rw [ht_]; exact hP.sub [0, 1] rfl, va_K.moved hW_.alike (hK.sub [0] rfl), hD.sub [0, 1] (by decide) rfl, by rw [ht_]; exact wdAll.moved hW_.alike (cs_keep hAe hoz hqz hS hall)⟩, hS.F ht_⟩) hS.2.2 d_P_make_76
          · refine pq_top (y := .null) (by rw [hr1]; rfl) ?_
            refine lv_astoreN (lv' := [(4, .null), (0, .ref o), (1, .int (nI (6))), (2, .int (y)), (3, .int (z))]) hx hb d_P_make_26 hl (by decide) rfl (fun ls hl => ?_)
            refine lv_iload_n hx hb d_P_make_28 rfl (lv_at hl 2 rfl) ?_
            refine vp_callSi (W.runS (As := [.int (nI (6))]) (rest := []) ⟨hx, hb, hml, hown, hts⟩ (c_P_needsTwo l dC dI (how := 6) (by decide)) (va_cwS 1 hts (gd_S mb_252 mb_253 mb_22 mb_254) rfl rfl rfl (by decide +kernel) ⟨Nat.le_of_ble_eq_true rfl, Nat.le_of_ble_eq_true rfl⟩) (pw_R_S pw_P0 (hK.sub [] rfl)) rfl rfl hl.1 rfl (lv_room (Nat.le_of_ble_eq_true rfl)) d_P_make_29 ⟨Nat.le_of_ble_eq_true rfl, Nat.le_of_ble_eq_true rfl⟩) (fun r_29 hr_29 => ?_)
            subst hr_29
            refine pq_top (y := .int (nI (0))) (by first | rfl | decide) ?_
            refine pq_if_eq (tgt := 43) (a := 0) hx hb d_P_make_32 (by decide) (by omega) (fun c_32 => ?_) (fun c_32 => absurd c_32 (by omega))
            refine lv_aloadN hx hb d_P_make_43 (lv_at hl 0 rfl) ?_
            refine lv_astoreN (lv' := [(5, .null), (4, .null), (0, .ref o), (1, .int (nI (6))), (2, .int (y)), (3, .int (z))]) hx hb d_P_make_45 hl (by decide) rfl (fun ls hl => ?_)
            refine lv_aloadN hx hb d_P_make_47 (lv_at hl 1 rfl) ?_
            refine lv_ifnullN (tgt := 57) hx hb d_P_make_49 (by decide) ?_
            refine lv_iconst (v := (-1)) hx hb d_P_make_57 (by decide) ?_
            refine vx_ret ?_
            refine W.widen (k := 3) (n := 133) (by omega) (by omega) ?_
            exact W.iret (v := (-1)) hx hb hr (fun t_ ht_ hW_ => ⟨⟨_, (n, wa, Wd), rfl, Or.inr ⟨fun ⟨k, i, j, d, w_⟩ => hno1 ⟨i, w_.2.2.2.1, w_.2.2.2.2.1⟩, rfl, rfl, fun _ _ => rfl⟩, by rw [ht_]; exact hP.sub [0, 1] rfl, va_K.moved hW_.alike (hK.sub [0] rfl), hD.sub [0, 1] (by decide) rfl, by rw [ht_]; exact wdAll.moved hW_.alike (cs_keep hAe hoz hqz hS hall)⟩, hS.F ht_⟩) hS.2.2 d_P_make_58
        · refine lv_aload_n hx hb d_P_make_21 rfl (lv_at hl 0 rfl) ?_
          refine lv_iload_n hx hb d_P_make_22 rfl (lv_at hl 2 rfl) ?_
          refine va_csq (W.runV (As := [.int (y)]) (rest := []) ⟨hx, hb, hml, hown, hts⟩ (c_P_find l dC dI hn (x := y)) (cwV 1 hts (gd_V mb_198 mb_200 mb_1 mb_22 mb_201) rfl rfl rfl (by decide +kernel) ⟨Nat.le_of_ble_eq_true rfl, Nat.le_of_ble_eq_true rfl⟩) (pw_R_V (va_recv hK hP (ci := ciP) (q0 := 0) rfl rfl) hP hK) rfl rfl hl.1 rfl (lv_room (Nat.le_of_ble_eq_true rfl)) d_P_make_23 ⟨Nat.le_of_ble_eq_true rfl, Nat.le_of_ble_eq_true rfl⟩) (fun r_23 hr_23 => ?_)
          rcases hr_23 with ⟨i1, hi1, hx1, hr1⟩ | ⟨hno1, hr1⟩
          · obtain ⟨a1, hwa1, q1, cA1, pl1, hPw1, hKw1, hpl1, hok1, hz1, hzq1⟩ := hall i1 hi1
            have hok1_ := hok1; obtain ⟨hh1, hp01, hp61, hE1⟩ := hok1_
            have ho1 := pw_o_le (Wd i1).2.2 (Wd i1).1 (Wd i1).2.1
            have hc1 := pw_c_le (Wd i1).2.2 (Wd i1).1
            rw [hx1] at hl
            refine pq_top (y := .ref a1) (by rw [hr1, hwa1]; rfl) ?_
            refine lv_astore (lv' := [(4, .ref a1), (0, .ref o), (1, .int (nI (7))), (2, .int (nI (i1))), (3, .int (z))]) hx hb d_P_make_26 hl (by decide) rfl (fun ls hl => ?_)
            refine lv_iload_n hx hb d_P_make_28 rfl (lv_at hl 2 rfl) ?_
            refine vp_callSi (W.runS (As := [.int (nI (7))]) (rest := []) ⟨hx, hb, hml, hown, hts⟩ (c_P_needsTwo l dC dI (how := 7) (by decide)) (va_cwS 1 hts (gd_S mb_252 mb_253 mb_22 mb_254) rfl rfl rfl (by decide +kernel) ⟨Nat.le_of_ble_eq_true rfl, Nat.le_of_ble_eq_true rfl⟩) (pw_R_S pw_P0 (hK.sub [] rfl)) rfl rfl hl.1 rfl (lv_room (Nat.le_of_ble_eq_true rfl)) d_P_make_29 ⟨Nat.le_of_ble_eq_true rfl, Nat.le_of_ble_eq_true rfl⟩) (fun r_29 hr_29 => ?_)
            subst hr_29
            refine pq_top (y := .int (nI (0))) (by first | rfl | decide) ?_
            refine pq_if_eq (tgt := 43) (a := 0) hx hb d_P_make_32 (by decide) (by omega) (fun c_32 => ?_) (fun c_32 => absurd c_32 (by omega))
            refine lv_aload hx hb d_P_make_43 (lv_at hl 0 rfl) ?_
            refine lv_astore (lv' := [(5, .ref a1), (4, .ref a1), (0, .ref o), (1, .int (nI (7))), (2, .int (nI (i1))), (3, .int (z))]) hx hb d_P_make_45 hl (by decide) rfl (fun ls hl => ?_)
            refine lv_aload hx hb d_P_make_47 (lv_at hl 1 rfl) ?_
            refine lv_ifnull hx hb d_P_make_49 ?_
            refine lv_aload hx hb d_P_make_52 (lv_at hl 0 rfl) ?_
            refine lv_ifnonnull (tgt := 59) hx hb d_P_make_54 (by decide) ?_
            refine lv_iload_n hx hb d_P_make_59 rfl (lv_at hl 3 rfl) ?_
            refine lv_bipush (v := nI 6) hx hb d_P_make_60 (by decide) ?_
            refine pq_icmp_ne (tgt := 77) (a := 7) (b := 6) hx hb d_P_make_62 (by decide) (by omega) (by omega) (fun c_62 => ?_) (fun c_62 => absurd c_62 (by omega))
            refine lv_iload_n hx hb d_P_make_77 rfl (lv_at hl 3 rfl) ?_
            refine lv_iconst (v := nI 5) hx hb d_P_make_78 (by decide) ?_
            refine pq_icmp_ne (tgt := 100) (a := 7) (b := 5) hx hb d_P_make_79 (by decide) (by omega) (by omega) (fun c_79 => ?_) (fun c_79 => absurd c_79 (by omega))
            refine lv_aload_n hx hb d_P_make_100 rfl (lv_at hl 2 rfl) ?_
            refine lv_iload_n hx hb d_P_make_101 rfl (lv_at hl 3 rfl) ?_
            refine lv_aload hx hb d_P_make_102 (lv_at hl 1 rfl) ?_
            refine lv_aload hx hb d_P_make_104 (lv_at hl 0 rfl) ?_
            refine lv_iload_n hx hb d_P_make_106 rfl (lv_at hl 5 rfl) ?_
            have hWW := hPw1.app hPw1
            have hKW := hKw1.app hKw1
            have hPc := hP.sub (ws' := []) [] rfl
            have hDc := hD.sub (ws' := []) [] (by decide) rfl
            have hKc := hK.sub (tys' := []) [] rfl
            have hFc := va_free (wc := []) hD hS hA [] rfl
            refine va_callr (va_runS (As := [.int (nI (7)), .ref a1, .ref a1, .int (z)]) (rest := [.ref o]) ⟨hx, hb, hml, hown, hts⟩ (c_P_draftOfX l dC dI (a := a1) (q := q1) (cA := cA1) (pl := pl1) (a2 := a1) (q2 := q1) (cA2 := cA1) (pl2 := pl1) hok1 hok1 hpl1 (how := 7) (zz := (z)) (by decide) (by decide) (fun z_ => absurd z_ (by decide))) (va_cwS 4 hts (gd_S mb_108 mb_109 mb_22 mb_110) rfl rfl rfl (by decide +kernel) ⟨Nat.le_of_ble_eq_true rfl, Nat.le_of_ble_eq_true rfl⟩) ⟨dr_blind, fun U hU hW => ⟨rfl, by rw [hU], by rw [hU]; exact hWW, va_K.moved hW.alike hKW⟩⟩ rfl rfl hl.1 rfl (lv_room (Nat.le_of_ble_eq_true rfl)) d_P_make_107 ⟨Nat.le_of_ble_eq_true rfl, Nat.le_of_ble_eq_true rfl⟩) hS (fun q _ h => hFc q h) hFc (fun u_107 r_107 t_ H1 locs ht_ hvm_ hr_107 hB_ hz1_ hk1_ hS => ?_)
            obtain ⟨hP1_, hK1_, hD1_⟩ := hB_
            rw [ht_] at hP1_
            obtain ⟨hP, hD⟩ := va_join (wr := [(o, .inr (ciP, [.ref q, .int (nI (n))])), (q, .inl (cW, 40, .inr (.inr (.inr (.inr wa)))))]) (w1 := [(r_107, .inr (ciD, [.int (nI (u_107.1)), .int (nI (u_107.2.1)), .int (nI (7)), .ref a1, .ref a1, .int (nI (u_107.2.2))]))]) hP hD [] [0, 1] rfl rfl (by decide) (by decide) hk1_ hFc hP1_ hD1_
            generalize H1 = H at hP hS hz1_ hk1_ ⊢
            have hP : va_P (dC, dI) vwCl [(o, .inr (ciP, [.ref q, .int (nI (n))])), (q, .inl (cW, 40, .inr (.inr (.inr (.inr wa))))), (r_107, .inr (ciD, [.int (nI (u_107.1)), .int (nI (u_107.2.1)), .int (nI (7)), .ref a1, .ref a1, .int (nI (u_107.2.2))]))] H := hP
            have hD : va_D A [(o, .inr (ciP, [.ref q, .int (nI (n))])), (q, .inl (cW, 40, .inr (.inr (.inr (.inr wa))))), (r_107, .inr (ciD, [.int (nI (u_107.1)), .int (nI (u_107.2.1)), .int (nI (7)), .ref a1, .ref a1, .int (nI (u_107.2.2))]))] := hD
            obtain ⟨⟨hd1, hd2, hd3, hd4, hd5⟩, hlt⟩ := hr_107
            have hPw1 := cs_wk hAe hoz hqz hS hz1 hzq1 hPw1
            have hPd := hP.sub (ws' := dr r_107 a1 a1 u_107.1 u_107.2.1 7 u_107.2.2) [2] rfl
            have hWW := hPd.app (hPw1.app hPw1)
            have hKW := hKw1.app hKw1
            have hSz := hS.1
            have hPc := hP.sub (ws' := []) [] rfl
            have hDc := hD.sub (ws' := []) [] (by decide) rfl
            have hKc := hK.sub (tys' := []) [] rfl
            have hFc := va_free (wc := []) hD hS hA [] rfl
            refine va_callq (va_runS (As := [.ref r_107]) (rest := [.ref o]) ⟨hx, hb, hml, hown, hts⟩ (c_P_shortestForm l dC dI (a := a1) (q := q1) (cA := cA1) (pl := pl1) (a2 := a1) (q2 := q1) (cA2 := cA1) (pl2 := pl1) hok1 hok1 hpl1 (dd := r_107) (hd := u_107.1) (rd := u_107.2.1) (how := 7) (late := u_107.2.2) (by decide) hd4 (fun z_ => absurd z_ (by decide)) hd1 hd2 hd3 hd5) (va_cwS 1 hts (gd_S mb_163 mb_164 mb_22 mb_165) rfl rfl rfl (by decide +kernel) ⟨Nat.le_of_ble_eq_true rfl, Nat.le_of_ble_eq_true rfl⟩) ⟨dr_blind, fun U hU hW => ⟨rfl, by rw [hU], by rw [hU]; exact hWW, va_K.moved hW.alike hKW⟩⟩ rfl rfl hl.1 rfl (lv_room (Nat.le_of_ble_eq_true rfl)) d_P_make_110 ⟨Nat.le_of_ble_eq_true rfl, Nat.le_of_ble_eq_true rfl⟩) hS (fun q _ h => hFc q h) hFc (fun r_110 u_110 t_ H1 locs ht_ hvm_ hr_110 hB_ hz1_ hk1_ hS => ?_)
            obtain ⟨hr1, hok1⟩ := hr_110
            rw [pw_mk_d (k := 7) (by decide) (Wd i1).2.2 (Wd i1).2.2 u_107.2.2 0] at hok1 hB_
            rcases u_110 with _ | ⟨a9, h9, p9, q9, cA9, pl9⟩
            · subst hr1
              obtain ⟨hP, hD⟩ := va_join (wr := [(o, .inr (ciP, [.ref q, .int (nI (n))])), (q, .inl (cW, 40, .inr (.inr (.inr (.inr wa))))), (r_107, .inr (ciD, [.int (nI (u_107.1)), .int (nI (u_107.2.1)), .int (nI (7)), .ref a1, .ref a1, .int (nI (u_107.2.2))]))]) (w1 := []) hP hD [] [0, 1, 2] rfl rfl (by decide) (by decide) hk1_ hFc pw_P0 pw_D0
              generalize H1 = H at hP hS ⊢
              have hP : va_P (dC, dI) vwCl [(o, .inr (ciP, [.ref q, .int (nI (n))])), (q, .inl (cW, 40, .inr (.inr (.inr (.inr wa))))), (r_107, .inr (ciD, [.int (nI (u_107.1)), .int (nI (u_107.2.1)), .int (nI (7)), .ref a1, .ref a1, .int (nI (u_107.2.2))]))] H := hP
              have hD : va_D A [(o, .inr (ciP, [.ref q, .int (nI (n))])), (q, .inl (cW, 40, .inr (.inr (.inr (.inr wa))))), (r_107, .inr (ciD, [.int (nI (u_107.1)), .int (nI (u_107.2.1)), .int (nI (7)), .ref a1, .ref a1, .int (nI (u_107.2.2))]))] := hD
              obtain ⟨h9, p9, hcan, h60⟩ := hok1
              refine pq_top (y := .null) rfl ?_
              refine vp_callSi (W.runV (As := [.null]) (rest := []) ⟨hx, hb, hml, hown, hts⟩ (c_P_keepN l dC dI (o := o) (q := q) (n := n) (cW := cW) (wa := wa)) (cwV 1 hts (gd_V mb_190 mb_192 mb_0 mb_22 mb_193) rfl rfl rfl (by decide +kernel) ⟨Nat.le_of_ble_eq_true rfl, Nat.le_of_ble_eq_true rfl⟩) (pw_R_V (va_recv hK hP (ci := ciP) (q0 := 0) rfl rfl) (hP.sub [0, 1] rfl) (hK.sub [0] rfl)) rfl rfl hl.1 rfl (lv_room (Nat.le_of_ble_eq_true rfl)) d_P_make_113 ⟨Nat.le_of_ble_eq_true rfl, Nat.le_of_ble_eq_true rfl⟩) (fun r_113 hr_113 => ?_)
              subst hr_113
              refine vx_ret ?_
              refine W.widen (k := 3) (n := 133) (by omega) (by omega) ?_
              exact W.iret (v := (-1)) hx hb hr (fun t_ ht_ hW_ => ⟨⟨_, (n, wa, Wd), rfl, Or.inl ⟨7, i1, i1, 0, ⟨hn40, by decide, rfl, hi1, hx1, fun z_ => absurd z_ (by unfold sp_two; decide), fun z_ => absurd z_ (by decide), fun _ => rfl, fun _ => rfl⟩, fun z_ => absurd z_ (by decide), h9, p9, hcan, Or.inr ⟨h60, rfl, rfl, fun _ _ => rfl⟩⟩, by rw [ht_]; exact hP.sub [0, 1] rfl, va_K.moved hW_.alike (hK.sub [0] rfl), hD.sub [0, 1] (by decide) rfl, by rw [ht_]; exact wdAll.moved hW_.alike (cs_keep hAe hoz hqz hS hall)⟩, hS.F ht_⟩) hS.2.2 d_P_make_116
            · subst hr1
              obtain ⟨hcan, h60, p60, hpl9⟩ := hok1
              obtain ⟨hP1_, hK1_, hD1_⟩ := hB_
              rw [ht_] at hP1_
              have hK9 : va_K (dC, dI) vwCl [(cA9, .int)] s := va_K.moved hvm_.symm hK1_
              have hz9 : z0 ≤ a9 := Nat.le_trans hzs (Nat.le_trans hSz (pw_A0 (hD1_.2 0 _ rfl)))
              have hzq9 : z0 ≤ q9 := Nat.le_trans hzs (Nat.le_trans hSz (pw_A0 (hD1_.2 1 _ rfl)))
              obtain ⟨hP, hD⟩ := va_join (wr := [(o, .inr (ciP, [.ref q, .int (nI (n))])), (q, .inl (cW, 40, .inr (.inr (.inr (.inr wa))))), (r_107, .inr (ciD, [.int (nI (u_107.1)), .int (nI (u_107.2.1)), .int (nI (7)), .ref a1, .ref a1, .int (nI (u_107.2.2))]))]) (w1 := [(a9, .inr (ciW, [.int (nI (h9)), .long (lN (pw_b (pw_mk 7 (Wd i1).2.2 (Wd i1).2.2 0) 0 h9)), .int (nI (p9)), .long (lN (pw_b (pw_mk 7 (Wd i1).2.2 (Wd i1).2.2 0) h9 p9)), .int (nI (pw_c (pw_mk 7 (Wd i1).2.2 (Wd i1).2.2 0) h9)), .int (nI (pw_o (pw_mk 7 (Wd i1).2.2 (Wd i1).2.2 0) h9 p9)), .ref q9])), (q9, .inl (cA9, (pw_c (pw_mk 7 (Wd i1).2.2 (Wd i1).2.2 0) h9 + pw_o (pw_mk 7 (Wd i1).2.2 (Wd i1).2.2 0) h9 p9), .inl pl9))]) hP hD [] [0, 1, 2] rfl rfl (by decide) (by decide) hk1_ hFc hP1_ hD1_
              generalize H1 = H at hP hS ⊢
              have hP : va_P (dC, dI) vwCl [(o, .inr (ciP, [.ref q, .int (nI (n))])), (q, .inl (cW, 40, .inr (.inr (.inr (.inr wa))))), (r_107, .inr (ciD, [.int (nI (u_107.1)), .int (nI (u_107.2.1)), .int (nI (7)), .ref a1, .ref a1, .int (nI (u_107.2.2))])), (a9, .inr (ciW, [.int (nI (h9)), .long (lN (pw_b (pw_mk 7 (Wd i1).2.2 (Wd i1).2.2 0) 0 h9)), .int (nI (p9)), .long (lN (pw_b (pw_mk 7 (Wd i1).2.2 (Wd i1).2.2 0) h9 p9)), .int (nI (pw_c (pw_mk 7 (Wd i1).2.2 (Wd i1).2.2 0) h9)), .int (nI (pw_o (pw_mk 7 (Wd i1).2.2 (Wd i1).2.2 0) h9 p9)), .ref q9])), (q9, .inl (cA9, (pw_c (pw_mk 7 (Wd i1).2.2 (Wd i1).2.2 0) h9 + pw_o (pw_mk 7 (Wd i1).2.2 (Wd i1).2.2 0) h9 p9), .inl pl9))] H := hP
              have hD : va_D A [(o, .inr (ciP, [.ref q, .int (nI (n))])), (q, .inl (cW, 40, .inr (.inr (.inr (.inr wa))))), (r_107, .inr (ciD, [.int (nI (u_107.1)), .int (nI (u_107.2.1)), .int (nI (7)), .ref a1, .ref a1, .int (nI (u_107.2.2))])), (a9, .inr (ciW, [.int (nI (h9)), .long (lN (pw_b (pw_mk 7 (Wd i1).2.2 (Wd i1).2.2 0) 0 h9)), .int (nI (p9)), .long (lN (pw_b (pw_mk 7 (Wd i1).2.2 (Wd i1).2.2 0) h9 p9)), .int (nI (pw_c (pw_mk 7 (Wd i1).2.2 (Wd i1).2.2 0) h9)), .int (nI (pw_o (pw_mk 7 (Wd i1).2.2 (Wd i1).2.2 0) h9 p9)), .ref q9])), (q9, .inl (cA9, (pw_c (pw_mk 7 (Wd i1).2.2 (Wd i1).2.2 0) h9 + pw_o (pw_mk 7 (Wd i1).2.2 (Wd i1).2.2 0) h9 p9), .inl pl9))] := hD
              refine pq_top (y := .ref a9) rfl ?_
              have hPc := hP.sub (ws' := [(o, .inr (ciP, [.ref q, .int (nI (n))])), (q, .inl (cW, 40, .inr (.inr (.inr (.inr wa))))), (a9, .inr (ciW, [.int (nI (h9)), .long (lN (pw_b (pw_mk 7 (Wd i1).2.2 (Wd i1).2.2 0) 0 h9)), .int (nI (p9)), .long (lN (pw_b (pw_mk 7 (Wd i1).2.2 (Wd i1).2.2 0) h9 p9)), .int (nI (pw_c (pw_mk 7 (Wd i1).2.2 (Wd i1).2.2 0) h9)), .int (nI (pw_o (pw_mk 7 (Wd i1).2.2 (Wd i1).2.2 0) h9 p9)), .ref q9]))]) [0, 1, 3] rfl
              have hDc := hD.sub (ws' := [(o, .inr (ciP, [.ref q, .int (nI (n))])), (q, .inl (cW, 40, .inr (.inr (.inr (.inr wa))))), (a9, .inr (ciW, [.int (nI (h9)), .long (lN (pw_b (pw_mk 7 (Wd i1).2.2 (Wd i1).2.2 0) 0 h9)), .int (nI (p9)), .long (lN (pw_b (pw_mk 7 (Wd i1).2.2 (Wd i1).2.2 0) h9 p9)), .int (nI (pw_c (pw_mk 7 (Wd i1).2.2 (Wd i1).2.2 0) h9)), .int (nI (pw_o (pw_mk 7 (Wd i1).2.2 (Wd i1).2.2 0) h9 p9)), .ref q9]))]) [0, 1, 3] (by decide) rfl
              have hKc := hK.sub (tys' := [(cW, .object "PeriodWords$Word")]) [0] rfl
              have hFc := va_free (wc := [(o, .inr (ciP, [.ref q, .int (nI (n))])), (q, .inl (cW, 40, .inr (.inr (.inr (.inr wa))))), (a9, .inr (ciW, [.int (nI (h9)), .long (lN (pw_b (pw_mk 7 (Wd i1).2.2 (Wd i1).2.2 0) 0 h9)), .int (nI (p9)), .long (lN (pw_b (pw_mk 7 (Wd i1).2.2 (Wd i1).2.2 0) h9 p9)), .int (nI (pw_c (pw_mk 7 (Wd i1).2.2 (Wd i1).2.2 0) h9)), .int (nI (pw_o (pw_mk 7 (Wd i1).2.2 (Wd i1).2.2 0) h9 p9)), .ref q9]))]) hD hS hA [0, 1, 3] rfl
              refine va_calli (va_runV (As := [.ref a9]) (rest := []) ⟨hx, hb, hml, hown, hts⟩ (c_P_keep l dC dI (o := o) (q := q) (n := n) (cW := cW) (wa := wa) (a := a9) (h := h9) (pp := p9) (qq := q9) (f := (pw_mk 7 (Wd i1).2.2 (Wd i1).2.2 0)) hn40) (cwV 1 hts (gd_V mb_190 mb_192 mb_0 mb_22 mb_193) rfl rfl rfl (by decide +kernel) ⟨Nat.le_of_ble_eq_true rfl, Nat.le_of_ble_eq_true rfl⟩) ⟨md_blind, va_recv hK hP (ci := ciP) (q0 := 0) rfl rfl, fun U hU hW => ⟨rfl, by rw [hU], by rw [hU]; exact hPc, va_K.moved hW.alike hKc, hDc.weaken (fun _ _ _ _ => trivial)⟩⟩ rfl rfl hl.1 rfl (lv_room (Nat.le_of_ble_eq_true rfl)) d_P_make_113 ⟨Nat.le_of_ble_eq_true rfl, Nat.le_of_ble_eq_true rfl⟩) hS (fun q _ h => hFc q h) hFc (fun r_113 u_113 t_ H1 locs ht_ hvm_ hr_113 hB_ hz1_ hk1_ hS => ?_)
              obtain ⟨hra, hrb⟩ := hr_113
              subst hra
              subst hrb
              obtain ⟨hP1_, hK1_, hD1_⟩ := hB_
              rw [ht_] at hP1_
              obtain ⟨hP, hD⟩ := va_join (wr := [(r_107, .inr (ciD, [.int (nI (u_107.1)), .int (nI (u_107.2.1)), .int (nI (7)), .ref a1, .ref a1, .int (nI (u_107.2.2))])), (q9, .inl (cA9, (pw_c (pw_mk 7 (Wd i1).2.2 (Wd i1).2.2 0) h9 + pw_o (pw_mk 7 (Wd i1).2.2 (Wd i1).2.2 0) h9 p9), .inl pl9))]) (w1 := [(o, .inr (ciP, [.ref q, .int (nI (n + 1))])), (q, .inl (cW, 40, .inr (.inr (.inr (.inr (va_up wa n (some a9))))))), (a9, .inr (ciW, [.int (nI (h9)), .long (lN (pw_b (pw_mk 7 (Wd i1).2.2 (Wd i1).2.2 0) 0 h9)), .int (nI (p9)), .long (lN (pw_b (pw_mk 7 (Wd i1).2.2 (Wd i1).2.2 0) h9 p9)), .int (nI (pw_c (pw_mk 7 (Wd i1).2.2 (Wd i1).2.2 0) h9)), .int (nI (pw_o (pw_mk 7 (Wd i1).2.2 (Wd i1).2.2 0) h9 p9)), .ref q9]))]) hP hD [0, 1, 3] [2, 4] rfl rfl (by decide) (by decide) hk1_ hFc hP1_ hD1_
              generalize H1 = H at hP hS ⊢
              have hP : va_P (dC, dI) vwCl [(r_107, .inr (ciD, [.int (nI (u_107.1)), .int (nI (u_107.2.1)), .int (nI (7)), .ref a1, .ref a1, .int (nI (u_107.2.2))])), (q9, .inl (cA9, (pw_c (pw_mk 7 (Wd i1).2.2 (Wd i1).2.2 0) h9 + pw_o (pw_mk 7 (Wd i1).2.2 (Wd i1).2.2 0) h9 p9), .inl pl9)), (o, .inr (ciP, [.ref q, .int (nI (n + 1))])), (q, .inl (cW, 40, .inr (.inr (.inr (.inr (va_up wa n (some a9))))))), (a9, .inr (ciW, [.int (nI (h9)), .long (lN (pw_b (pw_mk 7 (Wd i1).2.2 (Wd i1).2.2 0) 0 h9)), .int (nI (p9)), .long (lN (pw_b (pw_mk 7 (Wd i1).2.2 (Wd i1).2.2 0) h9 p9)), .int (nI (pw_c (pw_mk 7 (Wd i1).2.2 (Wd i1).2.2 0) h9)), .int (nI (pw_o (pw_mk 7 (Wd i1).2.2 (Wd i1).2.2 0) h9 p9)), .ref q9]))] H := hP
              have hD : va_D A [(r_107, .inr (ciD, [.int (nI (u_107.1)), .int (nI (u_107.2.1)), .int (nI (7)), .ref a1, .ref a1, .int (nI (u_107.2.2))])), (q9, .inl (cA9, (pw_c (pw_mk 7 (Wd i1).2.2 (Wd i1).2.2 0) h9 + pw_o (pw_mk 7 (Wd i1).2.2 (Wd i1).2.2 0) h9 p9), .inl pl9)), (o, .inr (ciP, [.ref q, .int (nI (n + 1))])), (q, .inl (cW, 40, .inr (.inr (.inr (.inr (va_up wa n (some a9))))))), (a9, .inr (ciW, [.int (nI (h9)), .long (lN (pw_b (pw_mk 7 (Wd i1).2.2 (Wd i1).2.2 0) 0 h9)), .int (nI (p9)), .long (lN (pw_b (pw_mk 7 (Wd i1).2.2 (Wd i1).2.2 0) h9 p9)), .int (nI (pw_c (pw_mk 7 (Wd i1).2.2 (Wd i1).2.2 0) h9)), .int (nI (pw_o (pw_mk 7 (Wd i1).2.2 (Wd i1).2.2 0) h9 p9)), .ref q9]))] := hD
              refine vx_ret ?_
              refine W.widen (k := 3) (n := 133) (by omega) (by omega) ?_
              exact W.iret (v := (nI (n))) hx hb hr (fun t_ ht_ hW_ => ⟨⟨_, (n + 1, va_up wa n (some a9), fun i => if i = n then (h9, p9, (pw_mk 7 (Wd i1).2.2 (Wd i1).2.2 0)) else Wd i), rfl, Or.inl ⟨7, i1, i1, 0, ⟨hn40, by decide, rfl, hi1, hx1, fun z_ => absurd z_ (by unfold sp_two; decide), fun z_ => absurd z_ (by decide), fun _ => rfl, fun _ => rfl⟩, fun z_ => absurd z_ (by decide), h9, p9, hcan, Or.inl ⟨h60, p60, rfl, rfl, if_pos rfl, fun i hi => if_neg (Nat.ne_of_lt hi)⟩⟩, by rw [ht_]; exact hP.sub [2, 3] rfl, va_K.moved hW_.alike (hK.sub [0] rfl), hD.sub [2, 3] (by decide) rfl, by rw [ht_]; exact wdAll.moved hW_.alike (cs_new (cs_keep hAe hoz hqz hS hall) ⟨q9, cA9, pl9, hP.sub [4, 1] rfl, hK9, hpl9, ⟨h60, hcan.1, p60, hcan.2.1⟩, hz9, hzq9⟩)⟩, hS.F ht_⟩) hS.2.2 d_P_make_116
          · refine pq_top (y := .null) (by rw [hr1]; rfl) ?_
            refine lv_astoreN (lv' := [(4, .null), (0, .ref o), (1, .int (nI (7))), (2, .int (y)), (3, .int (z))]) hx hb d_P_make_26 hl (by decide) rfl (fun ls hl => ?_)
            refine lv_iload_n hx hb d_P_make_28 rfl (lv_at hl 2 rfl) ?_
            refine vp_callSi (W.runS (As := [.int (nI (7))]) (rest := []) ⟨hx, hb, hml, hown, hts⟩ (c_P_needsTwo l dC dI (how := 7) (by decide)) (va_cwS 1 hts (gd_S mb_252 mb_253 mb_22 mb_254) rfl rfl rfl (by decide +kernel) ⟨Nat.le_of_ble_eq_true rfl, Nat.le_of_ble_eq_true rfl⟩) (pw_R_S pw_P0 (hK.sub [] rfl)) rfl rfl hl.1 rfl (lv_room (Nat.le_of_ble_eq_true rfl)) d_P_make_29 ⟨Nat.le_of_ble_eq_true rfl, Nat.le_of_ble_eq_true rfl⟩) (fun r_29 hr_29 => ?_)
            subst hr_29
            refine pq_top (y := .int (nI (0))) (by first | rfl | decide) ?_
            refine pq_if_eq (tgt := 43) (a := 0) hx hb d_P_make_32 (by decide) (by omega) (fun c_32 => ?_) (fun c_32 => absurd c_32 (by omega))
            refine lv_aloadN hx hb d_P_make_43 (lv_at hl 0 rfl) ?_
            refine lv_astoreN (lv' := [(5, .null), (4, .null), (0, .ref o), (1, .int (nI (7))), (2, .int (y)), (3, .int (z))]) hx hb d_P_make_45 hl (by decide) rfl (fun ls hl => ?_)
            refine lv_aloadN hx hb d_P_make_47 (lv_at hl 1 rfl) ?_
            refine lv_ifnullN (tgt := 57) hx hb d_P_make_49 (by decide) ?_
            refine lv_iconst (v := (-1)) hx hb d_P_make_57 (by decide) ?_
            refine vx_ret ?_
            refine W.widen (k := 3) (n := 133) (by omega) (by omega) ?_
            exact W.iret (v := (-1)) hx hb hr (fun t_ ht_ hW_ => ⟨⟨_, (n, wa, Wd), rfl, Or.inr ⟨fun ⟨k, i, j, d, w_⟩ => hno1 ⟨i, w_.2.2.2.1, w_.2.2.2.2.1⟩, rfl, rfl, fun _ _ => rfl⟩, by rw [ht_]; exact hP.sub [0, 1] rfl, va_K.moved hW_.alike (hK.sub [0] rfl), hD.sub [0, 1] (by decide) rfl, by rw [ht_]; exact wdAll.moved hW_.alike (cs_keep hAe hoz hqz hS hall)⟩, hS.F ht_⟩) hS.2.2 d_P_make_58
      · refine lv_iconst (v := (-1)) hx hb d_P_make_19 (by decide) ?_
        refine vx_ret ?_
        refine W.widen (k := 3) (n := 133) (by omega) (by omega) ?_
        exact W.iret (v := (-1)) hx hb hr (fun t_ ht_ hW_ => ⟨⟨_, (n, wa, Wd), rfl, Or.inr ⟨fun ⟨k, i, j, d, w_⟩ => by obtain ⟨w1, w2, w3, w4⟩ := w_; subst w3; first | exact nI_pos (by omega) c_1 | exact nI_nlt (by omega) (by omega) c_7 | omega, rfl, rfl, fun _ _ => rfl⟩, by rw [ht_]; exact hP.sub [0, 1] rfl, va_K.moved hW_.alike (hK.sub [0] rfl), hD.sub [0, 1] (by decide) rfl, by rw [ht_]; exact wdAll.moved hW_.alike (cs_keep hAe hoz hqz hS hall)⟩, hS.F ht_⟩) hS.2.2 d_P_make_20
