set_option maxHeartbeats 2000000 in
set_option maxRecDepth 100000 in
theorem c_P_at (l : Launch) (hst : l.stackTraces = false) (dC : Nat → ClassId) (dI : Nat → Nat → Nat) {sz : Nat} {z0 o q n : Nat} {cW : ClassId} {wa : Nat → Option Nat} {Wd : Nat → pw_V} (hn : n ≤ 40) {zz : Nat} (hzz : zz ≤ sz) {x y : Int32} : vx_Met l y_P_at ws_P_at ({ frames := 6, cells := 1, slots := 6, locals := 90 } : Room) (tx_Pre (pz_Pre [.ref o, .int (x), .int (y)] dC dI z0 sz o q n cW wa Wd) zz "java/util/NoSuchElementException" [(75, "there is no such WORD"), (82, "there is no such 1")]) (va_Qi (fun r (_ : Unit) => ∃ i j, sp_atv n Wd x y i j ∧ r = nI (pw_tk (Wd i).2.2 j)) (fun _ _ => True) (va_A [] sz)) (vx_X (fun _ : Unit => ¬ ∃ i j, sp_atv n Wd x y i j) (fun E9 _ _ => E9 = "java/util/NoSuchElementException") (va_A [] sz)) 1 6 (va_A [] sz) := by
  refine vx_ofW (cc := b_P_at) (maxL := 4) (ret := (some .int)) (by decide) rfl ?_
  intro p e s m args below meth c s₁ B hml hxt hv
  obtain ⟨⟨hsz, rfl, hP, hK, hall⟩, htx⟩ := hv
  have hx := B.exec
  have hb := B.bytes
  have hr := B.returns
  have hts := atoms_spec (ws := ws_P_at) B.pre
  have hown : s.vm.findClass R_P = some m.cls := findClass_of_methodNamed B.named
  have hlocks := B.notSynchronized
  subst hsz
  have hAz : ∀ q, va_A [] s.heap.size q → zz ≤ q := fun q h => Nat.le_trans hzz (pw_A0 h)
  generalize hAe : va_A [] s.heap.size = A at hAz ⊢
  have hS : va_S A s.heap s.heap [] := va_S.rf
  have hl := lv_entry ([.ref o, .int (x), .int (y)]) (n := 4) (Nat.le_of_ble_eq_true rfl)
  rw [lg_entry_eq]
  generalize (lg_sl ([.ref o, .int (x), .int (y)]) ++ List.replicate (4 - (lg_sl ([.ref o, .int (x), .int (y)])).length) Slot.unset).toArray = ls at hl ⊢
  have hl : lv_has ls 4 [(0, .ref o), (1, .int (x)), (2, .int (y))] := hl
  refine lv_aload_n hx hb d_P_at_0 rfl (lv_at hl 0 rfl) ?_
  refine lv_iload_n hx hb d_P_at_1 rfl (lv_at hl 1 rfl) ?_
  refine va_csq (W.runV (As := [.int (x)]) (rest := []) ⟨hx, hb, hml, hown, hts⟩ (c_P_find l dC dI hn (x := x)) (cwV 1 hts (gd_V mb_198 mb_200 mb_1 mb_22 mb_201) rfl rfl rfl (by decide +kernel) ⟨Nat.le_of_ble_eq_true rfl, Nat.le_of_ble_eq_true rfl⟩) (pw_R_V (va_recv hK hP (ci := ciP) (q0 := 0) rfl rfl) hP hK) rfl rfl hl.1 rfl (lv_room (Nat.le_of_ble_eq_true rfl)) d_P_at_2 ⟨Nat.le_of_ble_eq_true rfl, Nat.le_of_ble_eq_true rfl⟩) (fun r_2 hr_2 => ?_)
  rcases hr_2 with ⟨i1, hi1, hx1, hr1⟩ | ⟨hno1, hr1⟩
  · obtain ⟨a1, hwa1, q1, cA1, pl1, hPw1, hKw1, hpl1, hok1, hz1, hzq1⟩ := hall i1 hi1
    have hok1_ := hok1; obtain ⟨hh1, hp01, hp61, hE1⟩ := hok1_
    have ho1 := pw_o_le (Wd i1).2.2 (Wd i1).1 (Wd i1).2.1
    have hc1 := pw_c_le (Wd i1).2.2 (Wd i1).1
    rw [hx1] at hl
    refine pq_top (y := .ref a1) (by rw [hr1, hwa1]; rfl) ?_
    refine lv_astore_n (lv' := [(3, .ref a1), (0, .ref o), (1, .int (nI (i1))), (2, .int (y))]) hx hb d_P_at_5 rfl hl (by decide) rfl (fun ls hl => ?_)
    refine lv_aload_n hx hb d_P_at_6 rfl (lv_at hl 0 rfl) ?_
    refine lv_ifnonnull (tgt := 20) hx hb d_P_at_7 (by decide) ?_
    refine lv_iload_n hx hb d_P_at_20 rfl (lv_at hl 3 rfl) ?_
    refine lv_iconst (v := nI 1) hx hb d_P_at_21 (by decide) ?_
    refine lv_icmp_lt (tgt := 39) hx hb d_P_at_22 (by decide) (fun c_22 => ?_) (fun c_22 => ?_)
    · obtain ⟨sa_, hstr_⟩ := htx.2.2.2 (82, "there is no such 1") (by simp)
      exact tx_throw (cls := "java/util/NoSuchElementException") (Y1 := "java/lang/RuntimeException") (names := ["java/lang/Exception"]) (ix := 13) (bs := prog_15_method_4_code) (ik := 73) (is := 82) (ic := 77) (text := "there is no such 1") (sa := sa_) (A := A) hx hb hst tx_N0 hown (by decide +kernel) (by decide +kernel) (by decide +kernel) (hts (.classLink R_P 73 "java/util/NoSuchElementException") (List.mem_cons_of_mem _ mb_331)) (hts (.initialized "java/util/NoSuchElementException") (List.mem_cons_of_mem _ mb_32)) hstr_ (tx_hat hts htx tx_N1 tx_N2) tx_N3 (htx.2.1.narrow hAz) (htx.2.2.1.narrow hAz) hS (hl.1.trans hml.symm) d_P_at_39 d_P_at_42 d_P_at_43 d_P_at_45 d_P_at_48 (fun x_ hx_ => (hxt x_ hx_).elim) (Nat.le_of_ble_eq_true rfl) (Nat.le_of_ble_eq_true rfl) (Nat.le_of_ble_eq_true rfl) (Nat.le_of_ble_eq_true rfl) hlocks (fun t_ hv_ hz_ hk_ => ⟨(), (fun ⟨i, j, w_⟩ => by obtain ⟨w1, w2, w3, w4, w5, w6⟩ := w_; subst w5; first | exact nI_nlt (by omega) (by omega) c_22 | exact nI_nlt (by omega) (by omega) c_28), rfl, hz_, fun q_ h1_ _ => hk_ q_ h1_⟩) (fun z_ hz_ => absurd hz_ List.not_mem_nil) (by decide) (by decide)
    · refine lv_iload_n hx hb d_P_at_25 rfl (lv_at hl 3 rfl) ?_
      refine lv_ldc (v := nI 1000000) hx hb hown (hts (.constant R_P 78 (nI 1000000)) (List.mem_cons_of_mem _ mb_347)) d_P_at_26 ?_
      refine lv_icmp_gt (tgt := 39) hx hb d_P_at_28 (by decide) (fun c_28 => ?_) (fun c_28 => ?_)
      · obtain ⟨sa_, hstr_⟩ := htx.2.2.2 (82, "there is no such 1") (by simp)
        exact tx_throw (cls := "java/util/NoSuchElementException") (Y1 := "java/lang/RuntimeException") (names := ["java/lang/Exception"]) (ix := 13) (bs := prog_15_method_4_code) (ik := 73) (is := 82) (ic := 77) (text := "there is no such 1") (sa := sa_) (A := A) hx hb hst tx_N0 hown (by decide +kernel) (by decide +kernel) (by decide +kernel) (hts (.classLink R_P 73 "java/util/NoSuchElementException") (List.mem_cons_of_mem _ mb_331)) (hts (.initialized "java/util/NoSuchElementException") (List.mem_cons_of_mem _ mb_32)) hstr_ (tx_hat hts htx tx_N1 tx_N2) tx_N3 (htx.2.1.narrow hAz) (htx.2.2.1.narrow hAz) hS (hl.1.trans hml.symm) d_P_at_39 d_P_at_42 d_P_at_43 d_P_at_45 d_P_at_48 (fun x_ hx_ => (hxt x_ hx_).elim) (Nat.le_of_ble_eq_true rfl) (Nat.le_of_ble_eq_true rfl) (Nat.le_of_ble_eq_true rfl) (Nat.le_of_ble_eq_true rfl) hlocks (fun t_ hv_ hz_ hk_ => ⟨(), (fun ⟨i, j, w_⟩ => by obtain ⟨w1, w2, w3, w4, w5, w6⟩ := w_; subst w5; first | exact nI_nlt (by omega) (by omega) c_22 | exact nI_nlt (by omega) (by omega) c_28), rfl, hz_, fun q_ h1_ _ => hk_ q_ h1_⟩) (fun z_ hz_ => absurd hz_ List.not_mem_nil) (by decide) (by decide)
      · obtain ⟨j_, hj0_, hj_, e4_⟩ := pq_in_1 (N := 1000000) (by decide) c_22 c_28
        subst e4_
        refine lv_aload_n hx hb d_P_at_31 rfl (lv_at hl 0 rfl) ?_
        refine lv_iload_n hx hb d_P_at_32 rfl (lv_at hl 3 rfl) ?_
        refine vp_callSi (W.runV (As := [.int (nI (j_))]) (rest := []) ⟨hx, hb, hml, hown, hts⟩ (c_W_hasOne l dC dI hok1 (n := j_) (by omega)) (cwV 1 hts (gd_V mb_226 mb_146 mb_147 mb_24 mb_148) rfl rfl rfl (by decide +kernel) ⟨Nat.le_of_ble_eq_true rfl, Nat.le_of_ble_eq_true rfl⟩) (pw_R_V (va_recv hKw1 hPw1 (ci := ciW) (q0 := 0) rfl rfl) hPw1 hKw1) rfl rfl hl.1 rfl (lv_room (Nat.le_of_ble_eq_true rfl)) d_P_at_33 ⟨Nat.le_of_ble_eq_true rfl, Nat.le_of_ble_eq_true rfl⟩) (fun r_33 hr_33 => ?_)
        subst hr_33
        have hdl_ := Bool.toNat_le (decide (0 < pw_o (Wd i1).2.2 (Wd i1).1 (Wd i1).2.1 ∨ j_ ≤ pw_c (Wd i1).2.2 (Wd i1).1))
        refine pq_if_ne (tgt := 49) (a := ((decide (0 < pw_o (Wd i1).2.2 (Wd i1).1 (Wd i1).2.1 ∨ j_ ≤ pw_c (Wd i1).2.2 (Wd i1).1)).toNat)) hx hb d_P_at_36 (by decide) (by omega) (fun c_36 => ?_) (fun c_36 => ?_)
        · refine lv_aload_n hx hb d_P_at_49 rfl (lv_at hl 0 rfl) ?_
          refine lv_iload_n hx hb d_P_at_50 rfl (lv_at hl 3 rfl) ?_
          refine vp_callSi (W.runV (As := [.int (nI (j_))]) (rest := []) ⟨hx, hb, hml, hown, hts⟩ (c_W_tickOf l dC dI hok1 hpl1 (n := j_) hj0_ (by omega) (pq_dc c_36)) (cwV 1 hts (gd_V mb_141 mb_142 mb_143 mb_24 mb_144) rfl rfl rfl (by decide +kernel) ⟨Nat.le_of_ble_eq_true rfl, Nat.le_of_ble_eq_true rfl⟩) (pw_R_V (va_recv hKw1 hPw1 (ci := ciW) (q0 := 0) rfl rfl) hPw1 hKw1) rfl rfl hl.1 rfl (lv_room (Nat.le_of_ble_eq_true rfl)) d_P_at_51 ⟨Nat.le_of_ble_eq_true rfl, Nat.le_of_ble_eq_true rfl⟩) (fun r_51 hr_51 => ?_)
          subst hr_51
          refine vx_ret ?_
          refine W.widen (k := 1) (n := 6) (by omega) (by omega) ?_
          exact W.iret (v := (nI (pw_tk (Wd i1).2.2 j_))) hx hb hr (fun t_ ht_ hW_ => ⟨⟨_, (), rfl, ⟨i1, j_, ⟨hi1, hx1, hj0_, hj_, rfl, pq_dc c_36⟩, rfl⟩, trivial⟩, hS.F ht_⟩) hS.2.2 d_P_at_54
        · obtain ⟨sa_, hstr_⟩ := htx.2.2.2 (82, "there is no such 1") (by simp)
          exact tx_throw (cls := "java/util/NoSuchElementException") (Y1 := "java/lang/RuntimeException") (names := ["java/lang/Exception"]) (ix := 13) (bs := prog_15_method_4_code) (ik := 73) (is := 82) (ic := 77) (text := "there is no such 1") (sa := sa_) (A := A) hx hb hst tx_N0 hown (by decide +kernel) (by decide +kernel) (by decide +kernel) (hts (.classLink R_P 73 "java/util/NoSuchElementException") (List.mem_cons_of_mem _ mb_331)) (hts (.initialized "java/util/NoSuchElementException") (List.mem_cons_of_mem _ mb_32)) hstr_ (tx_hat hts htx tx_N1 tx_N2) tx_N3 (htx.2.1.narrow hAz) (htx.2.2.1.narrow hAz) hS (hl.1.trans hml.symm) d_P_at_39 d_P_at_42 d_P_at_43 d_P_at_45 d_P_at_48 (fun x_ hx_ => (hxt x_ hx_).elim) (Nat.le_of_ble_eq_true rfl) (Nat.le_of_ble_eq_true rfl) (Nat.le_of_ble_eq_true rfl) (Nat.le_of_ble_eq_true rfl) hlocks (fun t_ hv_ hz_ hk_ => ⟨(), sp_at_no hn hi1 hx1 hj_ rfl (pq_dn c_36), rfl, hz_, fun q_ h1_ _ => hk_ q_ h1_⟩) (fun z_ hz_ => absurd hz_ List.not_mem_nil) (by decide) (by decide)
  · refine pq_top (y := .null) (by rw [hr1]; rfl) ?_
    refine lv_astore_nN (lv' := [(3, .null), (0, .ref o), (1, .int (x)), (2, .int (y))]) hx hb d_P_at_5 rfl hl (by decide) rfl (fun ls hl => ?_)
    refine lv_aload_nN hx hb d_P_at_6 rfl (lv_at hl 0 rfl) ?_
    refine lv_ifnonnullN hx hb d_P_at_7 ?_
    obtain ⟨sa_, hstr_⟩ := htx.2.2.2 (75, "there is no such WORD") (by simp)
    exact tx_throw (cls := "java/util/NoSuchElementException") (Y1 := "java/lang/RuntimeException") (names := ["java/lang/Exception"]) (ix := 13) (bs := prog_15_method_4_code) (ik := 73) (is := 75) (ic := 77) (text := "there is no such WORD") (sa := sa_) (A := A) hx hb hst tx_N0 hown (by decide +kernel) (by decide +kernel) (by decide +kernel) (hts (.classLink R_P 73 "java/util/NoSuchElementException") (List.mem_cons_of_mem _ mb_331)) (hts (.initialized "java/util/NoSuchElementException") (List.mem_cons_of_mem _ mb_32)) hstr_ (tx_hat hts htx tx_N1 tx_N2) tx_N3 (htx.2.1.narrow hAz) (htx.2.2.1.narrow hAz) hS (hl.1.trans hml.symm) d_P_at_10 d_P_at_13 d_P_at_14 d_P_at_16 d_P_at_19 (fun x_ hx_ => (hxt x_ hx_).elim) (Nat.le_of_ble_eq_true rfl) (Nat.le_of_ble_eq_true rfl) (Nat.le_of_ble_eq_true rfl) (Nat.le_of_ble_eq_true rfl) hlocks (fun t_ hv_ hz_ hk_ => ⟨(), fun ⟨i, j, w_⟩ => hno1 ⟨i, w_.1, w_.2.1⟩, rfl, hz_, fun q_ h1_ _ => hk_ q_ h1_⟩) (fun z_ hz_ => absurd hz_ List.not_mem_nil) (by decide) (by decide)
set_option maxHeartbeats 2000000 in
set_option maxRecDepth 100000 in
theorem c_P_between (l : Launch) (hst : l.stackTraces = false) (dC : Nat → ClassId) (dI : Nat → Nat → Nat) {sz : Nat} {z0 o q n : Nat} {cW : ClassId} {wa : Nat → Option Nat} {Wd : Nat → pw_V} (hn : n ≤ 40) {zz : Nat} (hzz : zz ≤ sz) {x y z : Int32} : vx_Met l y_P_between ws_P_between ({ frames := 6, cells := 1, slots := 6, locals := 92 } : Room) (tx_Pre (pz_Pre [.ref o, .int (x), .int (y), .int (z)] dC dI z0 sz o q n cW wa Wd) zz "java/lang/ArithmeticException" [(97, "no wait is long enough"), (103, "the RATES are not alike")]) (va_Qi (fun r (_ : Unit) => sp_b n Wd x y z (some r)) (fun _ _ => True) (va_A [] sz)) (vx_X (fun _ : Unit => sp_b n Wd x y z none) (fun E9 _ _ => E9 = "java/lang/ArithmeticException") (va_A [] sz)) 1 6 (va_A [] sz) := by
  refine vx_ofW (cc := b_P_between) (maxL := 7) (ret := (some .int)) (by decide) rfl ?_
  intro p e s m args below meth c s₁ B hml hxt hv
  obtain ⟨⟨hsz, rfl, hP, hK, hall⟩, htx⟩ := hv
  have hx := B.exec
  have hb := B.bytes
  have hr := B.returns
  have hts := atoms_spec (ws := ws_P_between) B.pre
  have hown : s.vm.findClass R_P = some m.cls := findClass_of_methodNamed B.named
  have hlocks := B.notSynchronized
  subst hsz
  have hAz : ∀ q, va_A [] s.heap.size q → zz ≤ q := fun q h => Nat.le_trans hzz (pw_A0 h)
  generalize hAe : va_A [] s.heap.size = A at hAz ⊢
  have hS : va_S A s.heap s.heap [] := va_S.rf
  have hl := lv_entry ([.ref o, .int (x), .int (y), .int (z)]) (n := 7) (Nat.le_of_ble_eq_true rfl)
  rw [lg_entry_eq]
  generalize (lg_sl ([.ref o, .int (x), .int (y), .int (z)]) ++ List.replicate (7 - (lg_sl ([.ref o, .int (x), .int (y), .int (z)])).length) Slot.unset).toArray = ls at hl ⊢
  have hl : lv_has ls 7 [(0, .ref o), (1, .int (x)), (2, .int (y)), (3, .int (z))] := hl
  refine lv_aload_n hx hb d_P_between_0 rfl (lv_at hl 0 rfl) ?_
  refine lv_iload_n hx hb d_P_between_1 rfl (lv_at hl 1 rfl) ?_
  refine va_csq (W.runV (As := [.int (x)]) (rest := []) ⟨hx, hb, hml, hown, hts⟩ (c_P_find l dC dI hn (x := x)) (cwV 1 hts (gd_V mb_198 mb_200 mb_1 mb_22 mb_201) rfl rfl rfl (by decide +kernel) ⟨Nat.le_of_ble_eq_true rfl, Nat.le_of_ble_eq_true rfl⟩) (pw_R_V (va_recv hK hP (ci := ciP) (q0 := 0) rfl rfl) hP hK) rfl rfl hl.1 rfl (lv_room (Nat.le_of_ble_eq_true rfl)) d_P_between_2 ⟨Nat.le_of_ble_eq_true rfl, Nat.le_of_ble_eq_true rfl⟩) (fun r_2 hr_2 => ?_)
  rcases hr_2 with ⟨i1, hi1, hx1, hr1⟩ | ⟨hno1, hr1⟩
  · obtain ⟨a1, hwa1, q1, cA1, pl1, hPw1, hKw1, hpl1, hok1, hz1, hzq1⟩ := hall i1 hi1
    have hok1_ := hok1; obtain ⟨hh1, hp01, hp61, hE1⟩ := hok1_
    have ho1 := pw_o_le (Wd i1).2.2 (Wd i1).1 (Wd i1).2.1
    have hc1 := pw_c_le (Wd i1).2.2 (Wd i1).1
    rw [hx1] at hl
    refine pq_top (y := .ref a1) (by rw [hr1, hwa1]; rfl) ?_
    refine lv_astore (lv' := [(4, .ref a1), (0, .ref o), (1, .int (nI (i1))), (2, .int (y)), (3, .int (z))]) hx hb d_P_between_5 hl (by decide) rfl (fun ls hl => ?_)
    refine lv_aload_n hx hb d_P_between_7 rfl (lv_at hl 1 rfl) ?_
    refine lv_iload_n hx hb d_P_between_8 rfl (lv_at hl 3 rfl) ?_
    refine va_csq (W.runV (As := [.int (y)]) (rest := []) ⟨hx, hb, hml, hown, hts⟩ (c_P_find l dC dI hn (x := y)) (cwV 1 hts (gd_V mb_198 mb_200 mb_1 mb_22 mb_201) rfl rfl rfl (by decide +kernel) ⟨Nat.le_of_ble_eq_true rfl, Nat.le_of_ble_eq_true rfl⟩) (pw_R_V (va_recv hK hP (ci := ciP) (q0 := 0) rfl rfl) hP hK) rfl rfl hl.1 rfl (lv_room (Nat.le_of_ble_eq_true rfl)) d_P_between_9 ⟨Nat.le_of_ble_eq_true rfl, Nat.le_of_ble_eq_true rfl⟩) (fun r_9 hr_9 => ?_)
    rcases hr_9 with ⟨i2, hi2, hx2, hr2⟩ | ⟨hno2, hr2⟩
    · obtain ⟨a2, hwa2, q2, cA2, pl2, hPw2, hKw2, hpl2, hok2, hz2, hzq2⟩ := hall i2 hi2
      have hok2_ := hok2; obtain ⟨hh2, hp02, hp62, hE2⟩ := hok2_
      have ho2 := pw_o_le (Wd i2).2.2 (Wd i2).1 (Wd i2).2.1
      have hc2 := pw_c_le (Wd i2).2.2 (Wd i2).1
      rw [hx2] at hl
      refine pq_top (y := .ref a2) (by rw [hr2, hwa2]; rfl) ?_
      refine lv_astore (lv' := [(5, .ref a2), (4, .ref a1), (0, .ref o), (1, .int (nI (i1))), (2, .int (nI (i2))), (3, .int (z))]) hx hb d_P_between_12 hl (by decide) rfl (fun ls hl => ?_)
      refine lv_aload hx hb d_P_between_14 (lv_at hl 1 rfl) ?_
      refine lv_ifnull hx hb d_P_between_16 ?_
      refine lv_aload hx hb d_P_between_19 (lv_at hl 0 rfl) ?_
      refine lv_ifnull hx hb d_P_between_21 ?_
      refine lv_iload_n hx hb d_P_between_24 rfl (lv_at hl 5 rfl) ?_
      refine lv_if_lt (tgt := 33) hx hb d_P_between_25 (by decide) (fun c_25 => ?_) (fun c_25 => ?_)
      · refine lv_iconst (v := (-1)) hx hb d_P_between_33 (by decide) ?_
        refine vx_ret ?_
        refine W.widen (k := 1) (n := 6) (by omega) (by omega) ?_
        exact W.iret (v := (-1)) hx hb hr (fun t_ ht_ hW_ => ⟨⟨_, (), rfl, Or.inr ⟨fun ⟨i, j, w_⟩ => by rcases w_.2.2.2.2 with e5_ | e5_ | e5_ <;> subst e5_ <;> first | exact absurd c_25 (by decide) | exact c_30 (by decide), rfl⟩, trivial⟩, hS.F ht_⟩) hS.2.2 d_P_between_34
      · refine lv_iload_n hx hb d_P_between_28 rfl (lv_at hl 5 rfl) ?_
        refine lv_iconst (v := nI 2) hx hb d_P_between_29 (by decide) ?_
        refine lv_icmp_le (tgt := 35) hx hb d_P_between_30 (by decide) (fun c_30 => ?_) (fun c_30 => ?_)
        · rcases pq_in3 (by rw [nI_0]; exact c_25) (Int32.not_lt.mpr c_30) with e5_ | e5_ | e5_
          · subst e5_
            refine lv_iload_n hx hb d_P_between_35 rfl (lv_at hl 5 rfl) ?_
            refine lv_iconst (v := nI 2) hx hb d_P_between_36 (by decide) ?_
            refine pq_icmp_ne (tgt := 68) (a := 0) (b := 2) hx hb d_P_between_37 (by decide) (by omega) (by omega) (fun c_37 => ?_) (fun c_37 => absurd c_37 (by omega))
            refine lv_aload hx hb d_P_between_68 (lv_at hl 1 rfl) ?_
            refine lv_aload hx hb d_P_between_70 (lv_at hl 0 rfl) ?_
            refine vp_callSi (W.runS (As := [.ref a1, .ref a2]) (rest := []) ⟨hx, hb, hml, hown, hts⟩ (c_P_compareRates l dC dI hok1 hok2) (va_cwS 2 hts (gd_S mb_230 mb_231 mb_22 mb_232) rfl rfl rfl (by decide +kernel) ⟨Nat.le_of_ble_eq_true rfl, Nat.le_of_ble_eq_true rfl⟩) (pw_R_S (hPw1.app hPw2) (hKw1.app hKw2)) rfl rfl hl.1 rfl (lv_room (Nat.le_of_ble_eq_true rfl)) d_P_between_72 ⟨Nat.le_of_ble_eq_true rfl, Nat.le_of_ble_eq_true rfl⟩) (fun r_72 hr_72 => ?_)
            have hre_ : r_72 = 0 ↔ pw_o (Wd i1).2.2 (Wd i1).1 (Wd i1).2.1 * (Wd i2).2.1 = pw_o (Wd i2).2.2 (Wd i2).1 (Wd i2).2.1 * (Wd i1).2.1 := by
              rw [hr_72]
              split
              · exact ⟨fun z => absurd z (by decide), fun z => by omega⟩
              · split
                · exact ⟨fun _ => by assumption, fun _ => by decide⟩
                · exact ⟨fun z => absurd z (by decide), fun z => by contradiction⟩
            refine lv_if_eq (tgt := 88) hx hb d_P_between_75 (by decide) (fun c_75 => ?_) (fun c_75 => ?_)
            · refine lv_iload_n hx hb d_P_between_88 rfl (lv_at hl 5 rfl) ?_
              refine lv_iconst (v := nI 1) hx hb d_P_between_89 (by decide) ?_
              refine pq_icmp_ne (tgt := 103) (a := 0) (b := 1) hx hb d_P_between_90 (by decide) (by omega) (by omega) (fun c_90 => ?_) (fun c_90 => absurd c_90 (by omega))
              refine lv_aload hx hb d_P_between_103 (lv_at hl 1 rfl) ?_
              refine lv_aload hx hb d_P_between_105 (lv_at hl 0 rfl) ?_
              refine vp_callSi (W.runS (As := [.ref a1, .ref a2]) (rest := []) ⟨hx, hb, hml, hown, hts⟩ (c_P_mostKept l dC dI hok1 hok2) (va_cwS 2 hts (gd_S mb_374 mb_375 mb_22 mb_376) rfl rfl rfl (by decide +kernel) ⟨Nat.le_of_ble_eq_true rfl, Nat.le_of_ble_eq_true rfl⟩) (pw_R_S (hPw1.app hPw2) (hKw1.app hKw2)) rfl rfl hl.1 rfl (lv_room (Nat.le_of_ble_eq_true rfl)) d_P_between_107 ⟨Nat.le_of_ble_eq_true rfl, Nat.le_of_ble_eq_true rfl⟩) (fun r_107 hr_107 => ?_)
              rw [pw_ks_lcm hok1 hok2 (hre_.mp c_75)] at hr_107
              refine vx_ret ?_
              refine W.widen (k := 1) (n := 6) (by omega) (by omega) ?_
              exact W.iret (v := (r_107)) hx hb hr (fun t_ ht_ hW_ => ⟨⟨_, (), rfl, Or.inl ⟨i1, i2, hi1, hx1, hi2, hx2, Or.inl rfl, Or.inr (Or.inl ⟨rfl, Or.inl ⟨hre_.mp c_75, by rw [hr_107]⟩⟩)⟩, trivial⟩, hS.F ht_⟩) hS.2.2 d_P_between_110
            · obtain ⟨sa_, hstr_⟩ := htx.2.2.2 (103, "the RATES are not alike") (by simp)
              exact tx_throw (cls := "java/lang/ArithmeticException") (Y1 := "java/lang/RuntimeException") (names := ["java/lang/Exception"]) (ix := 7) (bs := prog_6_method_2_code) (ik := 95) (is := 103) (ic := 99) (text := "the RATES are not alike") (sa := sa_) (A := A) hx hb hst tx_A0 hown (by decide +kernel) (by decide +kernel) (by decide +kernel) (hts (.classLink R_P 95 "java/lang/ArithmeticException") (List.mem_cons_of_mem _ mb_357)) (hts (.initialized "java/lang/ArithmeticException") (List.mem_cons_of_mem _ mb_34)) hstr_ (tx_hat hts htx tx_A1 tx_A2) tx_A3 (htx.2.1.narrow hAz) (htx.2.2.1.narrow hAz) hS (hl.1.trans hml.symm) d_P_between_78 d_P_between_81 d_P_between_82 d_P_between_84 d_P_between_87 (fun x_ hx_ => (hxt x_ hx_).elim) (Nat.le_of_ble_eq_true rfl) (Nat.le_of_ble_eq_true rfl) (Nat.le_of_ble_eq_true rfl) (Nat.le_of_ble_eq_true rfl) hlocks (fun t_ hv_ hz_ hk_ => ⟨(), Or.inl ⟨i1, i2, hi1, hx1, hi2, hx2, Or.inl rfl, Or.inr (Or.inl ⟨rfl, Or.inr ⟨fun z_ => c_75 (hre_.mpr z_), rfl⟩⟩)⟩, rfl, hz_, fun q_ h1_ _ => hk_ q_ h1_⟩) (fun z_ hz_ => absurd hz_ List.not_mem_nil) (by decide) (by decide)
          · subst e5_
            refine lv_iload_n hx hb d_P_between_35 rfl (lv_at hl 5 rfl) ?_
            refine lv_iconst (v := nI 2) hx hb d_P_between_36 (by decide) ?_
            refine pq_icmp_ne (tgt := 68) (a := 1) (b := 2) hx hb d_P_between_37 (by decide) (by omega) (by omega) (fun c_37 => ?_) (fun c_37 => absurd c_37 (by omega))
            refine lv_aload hx hb d_P_between_68 (lv_at hl 1 rfl) ?_
            refine lv_aload hx hb d_P_between_70 (lv_at hl 0 rfl) ?_
            refine vp_callSi (W.runS (As := [.ref a1, .ref a2]) (rest := []) ⟨hx, hb, hml, hown, hts⟩ (c_P_compareRates l dC dI hok1 hok2) (va_cwS 2 hts (gd_S mb_230 mb_231 mb_22 mb_232) rfl rfl rfl (by decide +kernel) ⟨Nat.le_of_ble_eq_true rfl, Nat.le_of_ble_eq_true rfl⟩) (pw_R_S (hPw1.app hPw2) (hKw1.app hKw2)) rfl rfl hl.1 rfl (lv_room (Nat.le_of_ble_eq_true rfl)) d_P_between_72 ⟨Nat.le_of_ble_eq_true rfl, Nat.le_of_ble_eq_true rfl⟩) (fun r_72 hr_72 => ?_)
            have hre_ : r_72 = 0 ↔ pw_o (Wd i1).2.2 (Wd i1).1 (Wd i1).2.1 * (Wd i2).2.1 = pw_o (Wd i2).2.2 (Wd i2).1 (Wd i2).2.1 * (Wd i1).2.1 := by
              rw [hr_72]
              split
              · exact ⟨fun z => absurd z (by decide), fun z => by omega⟩
              · split
                · exact ⟨fun _ => by assumption, fun _ => by decide⟩
                · exact ⟨fun z => absurd z (by decide), fun z => by contradiction⟩
            refine lv_if_eq (tgt := 88) hx hb d_P_between_75 (by decide) (fun c_75 => ?_) (fun c_75 => ?_)
            · refine lv_iload_n hx hb d_P_between_88 rfl (lv_at hl 5 rfl) ?_
              refine lv_iconst (v := nI 1) hx hb d_P_between_89 (by decide) ?_
              refine pq_icmp_ne (tgt := 103) (a := 1) (b := 1) hx hb d_P_between_90 (by decide) (by omega) (by omega) (fun c_90 => absurd c_90 (by omega)) (fun c_90 => ?_)
              refine lv_aload hx hb d_P_between_93 (lv_at hl 0 rfl) ?_
              refine lv_aload hx hb d_P_between_95 (lv_at hl 1 rfl) ?_
              refine vp_callSi (W.runS (As := [.ref a2, .ref a1]) (rest := []) ⟨hx, hb, hml, hown, hts⟩ (c_P_mostKept l dC dI hok2 hok1) (va_cwS 2 hts (gd_S mb_374 mb_375 mb_22 mb_376) rfl rfl rfl (by decide +kernel) ⟨Nat.le_of_ble_eq_true rfl, Nat.le_of_ble_eq_true rfl⟩) (pw_R_S (hPw2.app hPw1) (hKw2.app hKw1)) rfl rfl hl.1 rfl (lv_room (Nat.le_of_ble_eq_true rfl)) d_P_between_97 ⟨Nat.le_of_ble_eq_true rfl, Nat.le_of_ble_eq_true rfl⟩) (fun r_97 hr_97 => ?_)
              rw [pw_ks_lcm' hok1 hok2 (hre_.mp c_75)] at hr_97
              refine lv_goto (tgt := 110) hx hb d_P_between_100 (by decide) ?_
              refine vx_ret ?_
              refine W.widen (k := 1) (n := 6) (by omega) (by omega) ?_
              exact W.iret (v := (r_97)) hx hb hr (fun t_ ht_ hW_ => ⟨⟨_, (), rfl, Or.inl ⟨i1, i2, hi1, hx1, hi2, hx2, Or.inr (Or.inl rfl), Or.inr (Or.inr ⟨rfl, Or.inl ⟨hre_.mp c_75, by rw [hr_97]⟩⟩)⟩, trivial⟩, hS.F ht_⟩) hS.2.2 d_P_between_110
            · obtain ⟨sa_, hstr_⟩ := htx.2.2.2 (103, "the RATES are not alike") (by simp)
              exact tx_throw (cls := "java/lang/ArithmeticException") (Y1 := "java/lang/RuntimeException") (names := ["java/lang/Exception"]) (ix := 7) (bs := prog_6_method_2_code) (ik := 95) (is := 103) (ic := 99) (text := "the RATES are not alike") (sa := sa_) (A := A) hx hb hst tx_A0 hown (by decide +kernel) (by decide +kernel) (by decide +kernel) (hts (.classLink R_P 95 "java/lang/ArithmeticException") (List.mem_cons_of_mem _ mb_357)) (hts (.initialized "java/lang/ArithmeticException") (List.mem_cons_of_mem _ mb_34)) hstr_ (tx_hat hts htx tx_A1 tx_A2) tx_A3 (htx.2.1.narrow hAz) (htx.2.2.1.narrow hAz) hS (hl.1.trans hml.symm) d_P_between_78 d_P_between_81 d_P_between_82 d_P_between_84 d_P_between_87 (fun x_ hx_ => (hxt x_ hx_).elim) (Nat.le_of_ble_eq_true rfl) (Nat.le_of_ble_eq_true rfl) (Nat.le_of_ble_eq_true rfl) (Nat.le_of_ble_eq_true rfl) hlocks (fun t_ hv_ hz_ hk_ => ⟨(), Or.inl ⟨i1, i2, hi1, hx1, hi2, hx2, Or.inr (Or.inl rfl), Or.inr (Or.inr ⟨rfl, Or.inr ⟨fun z_ => c_75 (hre_.mpr z_), rfl⟩⟩)⟩, rfl, hz_, fun q_ h1_ _ => hk_ q_ h1_⟩) (fun z_ hz_ => absurd hz_ List.not_mem_nil) (by decide) (by decide)
          · subst e5_
            refine lv_iload_n hx hb d_P_between_35 rfl (lv_at hl 5 rfl) ?_
            refine lv_iconst (v := nI 2) hx hb d_P_between_36 (by decide) ?_
            refine pq_icmp_ne (tgt := 68) (a := 2) (b := 2) hx hb d_P_between_37 (by decide) (by omega) (by omega) (fun c_37 => absurd c_37 (by omega)) (fun c_37 => ?_)
            refine lv_aload hx hb d_P_between_40 (lv_at hl 1 rfl) ?_
            refine lv_aload hx hb d_P_between_42 (lv_at hl 0 rfl) ?_
            refine vp_callSi (W.runS (As := [.ref a1, .ref a2]) (rest := []) ⟨hx, hb, hml, hown, hts⟩ (c_P_leastWait l dC dI hok1 hok2 hpl1 hpl2) (va_cwS 2 hts (gd_S mb_223 mb_224 mb_22 mb_225) rfl rfl rfl (by decide +kernel) ⟨Nat.le_of_ble_eq_true rfl, Nat.le_of_ble_eq_true rfl⟩) (pw_R_S (hPw1.app hPw2) (hKw1.app hKw2)) rfl rfl hl.1 rfl (lv_room (Nat.le_of_ble_eq_true rfl)) d_P_between_44 ⟨Nat.le_of_ble_eq_true rfl, Nat.le_of_ble_eq_true rfl⟩) (fun r_44 hr_44 => ?_)
            have hwt : pw_wt (Wd i1) (Wd i2) r_44 := hr_44
            refine lv_istore (lv' := [(6, .int (r_44)), (5, .ref a2), (4, .ref a1), (0, .ref o), (1, .int (nI (i1))), (2, .int (nI (i2))), (3, .int (nI (2)))]) hx hb d_P_between_47 hl (by decide) rfl (fun ls hl => ?_)
            refine lv_iload hx hb d_P_between_49 (lv_at hl 0 rfl) ?_
            refine lv_iconst (v := (-1)) hx hb d_P_between_51 (by decide) ?_
            refine lv_icmp_ne (tgt := 65) hx hb d_P_between_52 (by decide) (fun c_52 => ?_) (fun c_52 => ?_)
            · refine lv_iload hx hb d_P_between_65 (lv_at hl 0 rfl) ?_
              refine vx_ret ?_
              refine W.widen (k := 1) (n := 6) (by omega) (by omega) ?_
              exact W.iret (v := (r_44)) hx hb hr (fun t_ ht_ hW_ => ⟨⟨_, (), rfl, Or.inl ⟨i1, i2, hi1, hx1, hi2, hx2, Or.inr (Or.inr rfl), Or.inl ⟨rfl, _, hwt, Or.inr ⟨c_52, rfl⟩⟩⟩, trivial⟩, hS.F ht_⟩) hS.2.2 d_P_between_67
            · obtain ⟨sa_, hstr_⟩ := htx.2.2.2 (97, "no wait is long enough") (by simp)
              exact tx_throw (cls := "java/lang/ArithmeticException") (Y1 := "java/lang/RuntimeException") (names := ["java/lang/Exception"]) (ix := 7) (bs := prog_6_method_2_code) (ik := 95) (is := 97) (ic := 99) (text := "no wait is long enough") (sa := sa_) (A := A) hx hb hst tx_A0 hown (by decide +kernel) (by decide +kernel) (by decide +kernel) (hts (.classLink R_P 95 "java/lang/ArithmeticException") (List.mem_cons_of_mem _ mb_357)) (hts (.initialized "java/lang/ArithmeticException") (List.mem_cons_of_mem _ mb_34)) hstr_ (tx_hat hts htx tx_A1 tx_A2) tx_A3 (htx.2.1.narrow hAz) (htx.2.2.1.narrow hAz) hS (hl.1.trans hml.symm) d_P_between_55 d_P_between_58 d_P_between_59 d_P_between_61 d_P_between_64 (fun x_ hx_ => (hxt x_ hx_).elim) (Nat.le_of_ble_eq_true rfl) (Nat.le_of_ble_eq_true rfl) (Nat.le_of_ble_eq_true rfl) (Nat.le_of_ble_eq_true rfl) hlocks (fun t_ hv_ hz_ hk_ => ⟨(), Or.inl ⟨i1, i2, hi1, hx1, hi2, hx2, Or.inr (Or.inr rfl), Or.inl ⟨rfl, _, hwt, Or.inl ⟨c_52, rfl⟩⟩⟩, rfl, hz_, fun q_ h1_ _ => hk_ q_ h1_⟩) (fun z_ hz_ => absurd hz_ List.not_mem_nil) (by decide) (by decide)
        · refine lv_iconst (v := (-1)) hx hb d_P_between_33 (by decide) ?_
          refine vx_ret ?_
          refine W.widen (k := 1) (n := 6) (by omega) (by omega) ?_
          exact W.iret (v := (-1)) hx hb hr (fun t_ ht_ hW_ => ⟨⟨_, (), rfl, Or.inr ⟨fun ⟨i, j, w_⟩ => by rcases w_.2.2.2.2 with e5_ | e5_ | e5_ <;> subst e5_ <;> first | exact absurd c_25 (by decide) | exact c_30 (by decide), rfl⟩, trivial⟩, hS.F ht_⟩) hS.2.2 d_P_between_34
    · refine pq_top (y := .null) (by rw [hr2]; rfl) ?_
      refine lv_astoreN (lv' := [(5, .null), (4, .ref a1), (0, .ref o), (1, .int (nI (i1))), (2, .int (y)), (3, .int (z))]) hx hb d_P_between_12 hl (by decide) rfl (fun ls hl => ?_)
      refine lv_aload hx hb d_P_between_14 (lv_at hl 1 rfl) ?_
      refine lv_ifnull hx hb d_P_between_16 ?_
      refine lv_aloadN hx hb d_P_between_19 (lv_at hl 0 rfl) ?_
      refine lv_ifnullN (tgt := 33) hx hb d_P_between_21 (by decide) ?_
      refine lv_iconst (v := (-1)) hx hb d_P_between_33 (by decide) ?_
      refine vx_ret ?_
      refine W.widen (k := 1) (n := 6) (by omega) (by omega) ?_
      exact W.iret (v := (-1)) hx hb hr (fun t_ ht_ hW_ => ⟨⟨_, (), rfl, Or.inr ⟨fun ⟨i, j, w_⟩ => hno2 ⟨j, w_.2.2.1, w_.2.2.2.1⟩, rfl⟩, trivial⟩, hS.F ht_⟩) hS.2.2 d_P_between_34
  · refine pq_top (y := .null) (by rw [hr1]; rfl) ?_
    refine lv_astoreN (lv' := [(4, .null), (0, .ref o), (1, .int (x)), (2, .int (y)), (3, .int (z))]) hx hb d_P_between_5 hl (by decide) rfl (fun ls hl => ?_)
    refine lv_aload_n hx hb d_P_between_7 rfl (lv_at hl 1 rfl) ?_
    refine lv_iload_n hx hb d_P_between_8 rfl (lv_at hl 3 rfl) ?_
    refine va_csq (W.runV (As := [.int (y)]) (rest := []) ⟨hx, hb, hml, hown, hts⟩ (c_P_find l dC dI hn (x := y)) (cwV 1 hts (gd_V mb_198 mb_200 mb_1 mb_22 mb_201) rfl rfl rfl (by decide +kernel) ⟨Nat.le_of_ble_eq_true rfl, Nat.le_of_ble_eq_true rfl⟩) (pw_R_V (va_recv hK hP (ci := ciP) (q0 := 0) rfl rfl) hP hK) rfl rfl hl.1 rfl (lv_room (Nat.le_of_ble_eq_true rfl)) d_P_between_9 ⟨Nat.le_of_ble_eq_true rfl, Nat.le_of_ble_eq_true rfl⟩) (fun r_9 hr_9 => ?_)
    rcases hr_9 with ⟨i2, hi2, hx2, hr2⟩ | ⟨hno2, hr2⟩
    · obtain ⟨a2, hwa2, q2, cA2, pl2, hPw2, hKw2, hpl2, hok2, hz2, hzq2⟩ := hall i2 hi2
      have hok2_ := hok2; obtain ⟨hh2, hp02, hp62, hE2⟩ := hok2_
      have ho2 := pw_o_le (Wd i2).2.2 (Wd i2).1 (Wd i2).2.1
      have hc2 := pw_c_le (Wd i2).2.2 (Wd i2).1
      rw [hx2] at hl
      refine pq_top (y := .ref a2) (by rw [hr2, hwa2]; rfl) ?_
      refine lv_astore (lv' := [(5, .ref a2), (4, .null), (0, .ref o), (1, .int (x)), (2, .int (nI (i2))), (3, .int (z))]) hx hb d_P_between_12 hl (by decide) rfl (fun ls hl => ?_)
      refine lv_aloadN hx hb d_P_between_14 (lv_at hl 1 rfl) ?_
      refine lv_ifnullN (tgt := 33) hx hb d_P_between_16 (by decide) ?_
      refine lv_iconst (v := (-1)) hx hb d_P_between_33 (by decide) ?_
      refine vx_ret ?_
      refine W.widen (k := 1) (n := 6) (by omega) (by omega) ?_
      exact W.iret (v := (-1)) hx hb hr (fun t_ ht_ hW_ => ⟨⟨_, (), rfl, Or.inr ⟨fun ⟨i, j, w_⟩ => hno1 ⟨i, w_.1, w_.2.1⟩, rfl⟩, trivial⟩, hS.F ht_⟩) hS.2.2 d_P_between_34
    · refine pq_top (y := .null) (by rw [hr2]; rfl) ?_
      refine lv_astoreN (lv' := [(5, .null), (4, .null), (0, .ref o), (1, .int (x)), (2, .int (y)), (3, .int (z))]) hx hb d_P_between_12 hl (by decide) rfl (fun ls hl => ?_)
      refine lv_aloadN hx hb d_P_between_14 (lv_at hl 1 rfl) ?_
      refine lv_ifnullN (tgt := 33) hx hb d_P_between_16 (by decide) ?_
      refine lv_iconst (v := (-1)) hx hb d_P_between_33 (by decide) ?_
      refine vx_ret ?_
      refine W.widen (k := 1) (n := 6) (by omega) (by omega) ?_
      exact W.iret (v := (-1)) hx hb hr (fun t_ ht_ hW_ => ⟨⟨_, (), rfl, Or.inr ⟨fun ⟨i, j, w_⟩ => hno1 ⟨i, w_.1, w_.2.1⟩, rfl⟩, trivial⟩, hS.F ht_⟩) hS.2.2 d_P_between_34
