set_option maxHeartbeats 4000000 in
set_option maxRecDepth 100000 in
theorem c_P_bit (l : Launch) (dC : Nat → ClassId) (dI : Nat → Nat → Nat) {z0 o q n : Nat} {cW : ClassId} {wa : Nat → Option Nat} {Wd : Nat → pw_V} (hn : n ≤ 40) {x y : Int32} : Met l y_P_bit ws_P_bit ({ frames := 1, cells := 0, slots := 0, locals := 21 } : Room) (pw_X [.ref o, .int (x), .int (y)] dC dI z0 o q n cW wa Wd) (vp_Si (sp_1 n x (fun i r => sp_far y (fun j => nI ((Wd i).2.2 j).toNat) r) (fun r => r = -1))) 0 0 (fun _ => False) := by
  refine Met.ofW (cc := b_P_bit) (maxL := 4) (ret := (some .int)) (by decide) rfl ?_
  intro p e s m args below meth c s₁ B hml hv
  obtain ⟨rfl, hP, hK, hall⟩ := hv
  have hx := B.exec
  have hb := B.bytes
  have hr := B.returns
  have hts := atoms_spec (ws := ws_P_bit) B.pre
  have hown : s.vm.findClass R_P = some m.cls := findClass_of_methodNamed B.named
  have hlocks := B.notSynchronized
  have hl := lv_entry ([.ref o, .int (x), .int (y)]) (n := 4) (Nat.le_of_ble_eq_true rfl)
  rw [lg_entry_eq]
  generalize (lg_sl ([.ref o, .int (x), .int (y)]) ++ List.replicate (4 - (lg_sl ([.ref o, .int (x), .int (y)])).length) Slot.unset).toArray = ls at hl ⊢
  have hl : lv_has ls 4 [(0, .ref o), (1, .int (x)), (2, .int (y))] := hl
  refine lv_aload_n hx hb d_P_bit_0 rfl (lv_at hl 0 rfl) ?_
  refine lv_iload_n hx hb d_P_bit_1 rfl (lv_at hl 1 rfl) ?_
  refine va_csq (W.runV (As := [.int (x)]) (rest := []) ⟨hx, hb, hml, hown, hts⟩ (c_P_find l dC dI hn (x := x)) (cwV 1 hts (gd_V mb_198 mb_200 mb_1 mb_22 mb_201) rfl rfl rfl (by decide +kernel) ⟨Nat.le_of_ble_eq_true rfl, Nat.le_of_ble_eq_true rfl⟩) (pw_R_V (va_recv hK hP (ci := ciP) (q0 := 0) rfl rfl) hP hK) rfl rfl hl.1 rfl (lv_room (Nat.le_of_ble_eq_true rfl)) d_P_bit_2 ⟨Nat.le_of_ble_eq_true rfl, Nat.le_of_ble_eq_true rfl⟩) (fun r_2 hr_2 => ?_)
  rcases hr_2 with ⟨i1, hi1, hx1, hr1⟩ | ⟨hno1, hr1⟩
  · obtain ⟨a1, hwa1, q1, cA1, pl1, hPw1, hKw1, hpl1, hok1, hz1, hzq1⟩ := hall i1 hi1
    have hok1_ := hok1; obtain ⟨hh1, hp01, hp61, hE1⟩ := hok1_
    have ho1 := pw_o_le (Wd i1).2.2 (Wd i1).1 (Wd i1).2.1
    have hc1 := pw_c_le (Wd i1).2.2 (Wd i1).1
    rw [hx1] at hl
    refine pq_top (y := .ref a1) (by rw [hr1, hwa1]; rfl) ?_
    refine lv_astore_n (lv' := [(3, .ref a1), (0, .ref o), (1, .int (nI (i1))), (2, .int (y))]) hx hb d_P_bit_5 rfl hl (by decide) rfl (fun ls hl => ?_)
    refine lv_aload_n hx hb d_P_bit_6 rfl (lv_at hl 0 rfl) ?_
    refine lv_ifnull hx hb d_P_bit_7 ?_
    refine lv_iload_n hx hb d_P_bit_10 rfl (lv_at hl 3 rfl) ?_
    refine lv_if_lt (tgt := 20) hx hb d_P_bit_11 (by decide) (fun c_11 => ?_) (fun c_11 => ?_)
    · refine lv_iconst (v := (-1)) hx hb d_P_bit_20 (by decide) ?_
      exact W.iret (v := (-1)) hx hb hr (fun t_ ht_ hW_ => ⟨_, rfl, Or.inl ⟨i1, hi1, hx1, Or.inr ⟨fun ⟨j, hj, e⟩ => (by subst e; first | exact nI_pos (by omega) c_11 | exact c_17 (nI_le hj (by decide))), rfl⟩⟩, ht_⟩) (fun q h => absurd h List.not_mem_nil) d_P_bit_21
    · refine lv_iload_n hx hb d_P_bit_14 rfl (lv_at hl 3 rfl) ?_
      refine lv_ldc (v := nI 1000000000) hx hb hown (hts (.constant R_P 65 (nI 1000000000)) (List.mem_cons_of_mem _ mb_206)) d_P_bit_15 ?_
      refine lv_icmp_le (tgt := 22) hx hb d_P_bit_17 (by decide) (fun c_17 => ?_) (fun c_17 => ?_)
      · obtain ⟨j, hj, rfl⟩ := pq_far c_11 c_17
        refine lv_aload_n hx hb d_P_bit_22 rfl (lv_at hl 0 rfl) ?_
        refine lv_iload_n hx hb d_P_bit_23 rfl (lv_at hl 3 rfl) ?_
        refine vp_callSi (W.runV (As := [.int (nI (j))]) (rest := []) ⟨hx, hb, hml, hown, hts⟩ (c_W_bitAt l dC dI hok1 (t := j) (by omega)) (cwV 1 hts (gd_V mb_207 mb_174 mb_175 mb_24 mb_176) rfl rfl rfl (by decide +kernel) ⟨Nat.le_of_ble_eq_true rfl, Nat.le_of_ble_eq_true rfl⟩) (pw_R_V (va_recv hKw1 hPw1 (ci := ciW) (q0 := 0) rfl rfl) hPw1 hKw1) rfl rfl hl.1 rfl (lv_room (Nat.le_of_ble_eq_true rfl)) d_P_bit_24 ⟨Nat.le_of_ble_eq_true rfl, Nat.le_of_ble_eq_true rfl⟩) (fun r_24 hr_24 => ?_)
        subst hr_24
        exact W.iret (v := (nI (((Wd i1).2.2 j).toNat))) hx hb hr (fun t_ ht_ hW_ => ⟨_, rfl, Or.inl ⟨i1, hi1, hx1, Or.inl ⟨j, hj, rfl, rfl⟩⟩, ht_⟩) (fun q h => absurd h List.not_mem_nil) d_P_bit_27
      · refine lv_iconst (v := (-1)) hx hb d_P_bit_20 (by decide) ?_
        exact W.iret (v := (-1)) hx hb hr (fun t_ ht_ hW_ => ⟨_, rfl, Or.inl ⟨i1, hi1, hx1, Or.inr ⟨fun ⟨j, hj, e⟩ => (by subst e; first | exact nI_pos (by omega) c_11 | exact c_17 (nI_le hj (by decide))), rfl⟩⟩, ht_⟩) (fun q h => absurd h List.not_mem_nil) d_P_bit_21
  · refine pq_top (y := .null) (by rw [hr1]; rfl) ?_
    refine lv_astore_nN (lv' := [(3, .null), (0, .ref o), (1, .int (x)), (2, .int (y))]) hx hb d_P_bit_5 rfl hl (by decide) rfl (fun ls hl => ?_)
    refine lv_aload_nN hx hb d_P_bit_6 rfl (lv_at hl 0 rfl) ?_
    refine lv_ifnullN (tgt := 20) hx hb d_P_bit_7 (by decide) ?_
    refine lv_iconst (v := (-1)) hx hb d_P_bit_20 (by decide) ?_
    exact W.iret (v := (-1)) hx hb hr (fun t_ ht_ hW_ => ⟨_, rfl, Or.inr ⟨hno1, rfl⟩, ht_⟩) (fun q h => absurd h List.not_mem_nil) d_P_bit_21
set_option maxHeartbeats 4000000 in
set_option maxRecDepth 100000 in
theorem c_P_ones (l : Launch) (dC : Nat → ClassId) (dI : Nat → Nat → Nat) {z0 o q n : Nat} {cW : ClassId} {wa : Nat → Option Nat} {Wd : Nat → pw_V} (hn : n ≤ 40) {x y : Int32} : Met l y_P_ones ws_P_ones ({ frames := 2, cells := 0, slots := 0, locals := 44 } : Room) (pw_X [.ref o, .int (x), .int (y)] dC dI z0 o q n cW wa Wd) (vp_Si (sp_1 n x (fun i r => sp_far y (fun j => nI (pw_c (Wd i).2.2 j)) r) (fun r => r = -1))) 0 0 (fun _ => False) := by
  refine Met.ofW (cc := b_P_ones) (maxL := 4) (ret := (some .int)) (by decide) rfl ?_
  intro p e s m args below meth c s₁ B hml hv
  obtain ⟨rfl, hP, hK, hall⟩ := hv
  have hx := B.exec
  have hb := B.bytes
  have hr := B.returns
  have hts := atoms_spec (ws := ws_P_ones) B.pre
  have hown : s.vm.findClass R_P = some m.cls := findClass_of_methodNamed B.named
  have hlocks := B.notSynchronized
  have hl := lv_entry ([.ref o, .int (x), .int (y)]) (n := 4) (Nat.le_of_ble_eq_true rfl)
  rw [lg_entry_eq]
  generalize (lg_sl ([.ref o, .int (x), .int (y)]) ++ List.replicate (4 - (lg_sl ([.ref o, .int (x), .int (y)])).length) Slot.unset).toArray = ls at hl ⊢
  have hl : lv_has ls 4 [(0, .ref o), (1, .int (x)), (2, .int (y))] := hl
  refine lv_aload_n hx hb d_P_ones_0 rfl (lv_at hl 0 rfl) ?_
  refine lv_iload_n hx hb d_P_ones_1 rfl (lv_at hl 1 rfl) ?_
  refine va_csq (W.runV (As := [.int (x)]) (rest := []) ⟨hx, hb, hml, hown, hts⟩ (c_P_find l dC dI hn (x := x)) (cwV 1 hts (gd_V mb_198 mb_200 mb_1 mb_22 mb_201) rfl rfl rfl (by decide +kernel) ⟨Nat.le_of_ble_eq_true rfl, Nat.le_of_ble_eq_true rfl⟩) (pw_R_V (va_recv hK hP (ci := ciP) (q0 := 0) rfl rfl) hP hK) rfl rfl hl.1 rfl (lv_room (Nat.le_of_ble_eq_true rfl)) d_P_ones_2 ⟨Nat.le_of_ble_eq_true rfl, Nat.le_of_ble_eq_true rfl⟩) (fun r_2 hr_2 => ?_)
  rcases hr_2 with ⟨i1, hi1, hx1, hr1⟩ | ⟨hno1, hr1⟩
  · obtain ⟨a1, hwa1, q1, cA1, pl1, hPw1, hKw1, hpl1, hok1, hz1, hzq1⟩ := hall i1 hi1
    have hok1_ := hok1; obtain ⟨hh1, hp01, hp61, hE1⟩ := hok1_
    have ho1 := pw_o_le (Wd i1).2.2 (Wd i1).1 (Wd i1).2.1
    have hc1 := pw_c_le (Wd i1).2.2 (Wd i1).1
    rw [hx1] at hl
    refine pq_top (y := .ref a1) (by rw [hr1, hwa1]; rfl) ?_
    refine lv_astore_n (lv' := [(3, .ref a1), (0, .ref o), (1, .int (nI (i1))), (2, .int (y))]) hx hb d_P_ones_5 rfl hl (by decide) rfl (fun ls hl => ?_)
    refine lv_aload_n hx hb d_P_ones_6 rfl (lv_at hl 0 rfl) ?_
    refine lv_ifnull hx hb d_P_ones_7 ?_
    refine lv_iload_n hx hb d_P_ones_10 rfl (lv_at hl 3 rfl) ?_
    refine lv_if_lt (tgt := 20) hx hb d_P_ones_11 (by decide) (fun c_11 => ?_) (fun c_11 => ?_)
    · refine lv_iconst (v := (-1)) hx hb d_P_ones_20 (by decide) ?_
      exact W.iret (v := (-1)) hx hb hr (fun t_ ht_ hW_ => ⟨_, rfl, Or.inl ⟨i1, hi1, hx1, Or.inr ⟨fun ⟨j, hj, e⟩ => (by subst e; first | exact nI_pos (by omega) c_11 | exact c_17 (nI_le hj (by decide))), rfl⟩⟩, ht_⟩) (fun q h => absurd h List.not_mem_nil) d_P_ones_21
    · refine lv_iload_n hx hb d_P_ones_14 rfl (lv_at hl 3 rfl) ?_
      refine lv_ldc (v := nI 1000000000) hx hb hown (hts (.constant R_P 65 (nI 1000000000)) (List.mem_cons_of_mem _ mb_206)) d_P_ones_15 ?_
      refine lv_icmp_le (tgt := 22) hx hb d_P_ones_17 (by decide) (fun c_17 => ?_) (fun c_17 => ?_)
      · obtain ⟨j, hj, rfl⟩ := pq_far c_11 c_17
        refine lv_aload_n hx hb d_P_ones_22 rfl (lv_at hl 0 rfl) ?_
        refine lv_iload_n hx hb d_P_ones_23 rfl (lv_at hl 3 rfl) ?_
        refine vp_callSi (W.runV (As := [.int (nI (j))]) (rest := []) ⟨hx, hb, hml, hown, hts⟩ (c_W_onesBefore l dC dI hok1 (t := j) (by omega)) (cwV 1 hts (gd_V mb_156 mb_157 mb_158 mb_24 mb_159) rfl rfl rfl (by decide +kernel) ⟨Nat.le_of_ble_eq_true rfl, Nat.le_of_ble_eq_true rfl⟩) (pw_R_V (va_recv hKw1 hPw1 (ci := ciW) (q0 := 0) rfl rfl) hPw1 hKw1) rfl rfl hl.1 rfl (lv_room (Nat.le_of_ble_eq_true rfl)) d_P_ones_24 ⟨Nat.le_of_ble_eq_true rfl, Nat.le_of_ble_eq_true rfl⟩) (fun r_24 hr_24 => ?_)
        subst hr_24
        exact W.iret (v := (nI (pw_c (Wd i1).2.2 j))) hx hb hr (fun t_ ht_ hW_ => ⟨_, rfl, Or.inl ⟨i1, hi1, hx1, Or.inl ⟨j, hj, rfl, rfl⟩⟩, ht_⟩) (fun q h => absurd h List.not_mem_nil) d_P_ones_27
      · refine lv_iconst (v := (-1)) hx hb d_P_ones_20 (by decide) ?_
        exact W.iret (v := (-1)) hx hb hr (fun t_ ht_ hW_ => ⟨_, rfl, Or.inl ⟨i1, hi1, hx1, Or.inr ⟨fun ⟨j, hj, e⟩ => (by subst e; first | exact nI_pos (by omega) c_11 | exact c_17 (nI_le hj (by decide))), rfl⟩⟩, ht_⟩) (fun q h => absurd h List.not_mem_nil) d_P_ones_21
  · refine pq_top (y := .null) (by rw [hr1]; rfl) ?_
    refine lv_astore_nN (lv' := [(3, .null), (0, .ref o), (1, .int (x)), (2, .int (y))]) hx hb d_P_ones_5 rfl hl (by decide) rfl (fun ls hl => ?_)
    refine lv_aload_nN hx hb d_P_ones_6 rfl (lv_at hl 0 rfl) ?_
    refine lv_ifnullN (tgt := 20) hx hb d_P_ones_7 (by decide) ?_
    refine lv_iconst (v := (-1)) hx hb d_P_ones_20 (by decide) ?_
    exact W.iret (v := (-1)) hx hb hr (fun t_ ht_ hW_ => ⟨_, rfl, Or.inr ⟨hno1, rfl⟩, ht_⟩) (fun q h => absurd h List.not_mem_nil) d_P_ones_21
set_option maxHeartbeats 4000000 in
set_option maxRecDepth 100000 in
theorem c_P_total (l : Launch) (dC : Nat → ClassId) (dI : Nat → Nat → Nat) {z0 o q n : Nat} {cW : ClassId} {wa : Nat → Option Nat} {Wd : Nat → pw_V} (hn : n ≤ 40) : Met l y_P_total ws_P_total ({ frames := 0, cells := 0, slots := 0, locals := 0 } : Room) (pw_X [.ref o] dC dI z0 o q n cW wa Wd) (vp_Si (fun r => r = nI n)) 0 0 (fun _ => False) := by
  refine Met.ofW (cc := b_P_total) (maxL := 1) (ret := (some .int)) (by decide) rfl ?_
  intro p e s m args below meth c s₁ B hml hv
  obtain ⟨rfl, hP, hK, hall⟩ := hv
  have hx := B.exec
  have hb := B.bytes
  have hr := B.returns
  have hts := atoms_spec (ws := ws_P_total) B.pre
  have hown : s.vm.findClass R_P = some m.cls := findClass_of_methodNamed B.named
  have hlocks := B.notSynchronized
  have hl := lv_entry ([.ref o]) (n := 1) (Nat.le_of_ble_eq_true rfl)
  rw [lg_entry_eq]
  generalize (lg_sl ([.ref o]) ++ List.replicate (1 - (lg_sl ([.ref o])).length) Slot.unset).toArray = ls at hl ⊢
  have hl : lv_has ls 1 [(0, .ref o)] := hl
  refine lv_aload_n hx hb d_P_total_0 rfl (lv_at hl 0 rfl) ?_
  refine va_get (D := (dC, dI)) (ci := ciP) (v := .int (nI (n))) (C := R_P) (T := F_P) (N := 2) hx hb hts (fun w h => List.mem_cons_of_mem _ (in_P w h)) hown hK hP 0 rfl rfl 1 (by decide) (hts (.fieldLink R_P 15 "PeriodWords" "count" "I") (List.mem_cons_of_mem _ mb_46)) (fun _ h9 => h9) rfl d_P_total_1 ?_
  exact W.iret (v := (nI (n))) hx hb hr (fun t_ ht_ hW_ => ⟨_, rfl, rfl, ht_⟩) (fun q h => absurd h List.not_mem_nil) d_P_total_4
set_option maxHeartbeats 4000000 in
set_option maxRecDepth 100000 in
theorem c_P_form (l : Launch) (dC : Nat → ClassId) (dI : Nat → Nat → Nat) {z0 o q n : Nat} {cW : ClassId} {wa : Nat → Option Nat} {Wd : Nat → pw_V} (hn : n ≤ 40) {x y : Int32} : Met l y_P_form ws_P_form ({ frames := 2, cells := 0, slots := 0, locals := 46 } : Room) (pw_X [.ref o, .int (x), .int (y)] dC dI z0 o q n cW wa Wd) (vp_Si (sp_1 n x (fun i r => sp_form (Wd i) y r) (fun r => r = -1))) 0 0 (fun _ => False) := by
  refine Met.ofW (cc := b_P_form) (maxL := 4) (ret := (some .int)) (by decide) rfl ?_
  intro p e s m args below meth c s₁ B hml hv
  obtain ⟨rfl, hP, hK, hall⟩ := hv
  have hx := B.exec
  have hb := B.bytes
  have hr := B.returns
  have hts := atoms_spec (ws := ws_P_form) B.pre
  have hown : s.vm.findClass R_P = some m.cls := findClass_of_methodNamed B.named
  have hlocks := B.notSynchronized
  have hl := lv_entry ([.ref o, .int (x), .int (y)]) (n := 4) (Nat.le_of_ble_eq_true rfl)
  rw [lg_entry_eq]
  generalize (lg_sl ([.ref o, .int (x), .int (y)]) ++ List.replicate (4 - (lg_sl ([.ref o, .int (x), .int (y)])).length) Slot.unset).toArray = ls at hl ⊢
  have hl : lv_has ls 4 [(0, .ref o), (1, .int (x)), (2, .int (y))] := hl
  refine lv_aload_n hx hb d_P_form_0 rfl (lv_at hl 0 rfl) ?_
  refine lv_iload_n hx hb d_P_form_1 rfl (lv_at hl 1 rfl) ?_
  refine va_csq (W.runV (As := [.int (x)]) (rest := []) ⟨hx, hb, hml, hown, hts⟩ (c_P_find l dC dI hn (x := x)) (cwV 1 hts (gd_V mb_198 mb_200 mb_1 mb_22 mb_201) rfl rfl rfl (by decide +kernel) ⟨Nat.le_of_ble_eq_true rfl, Nat.le_of_ble_eq_true rfl⟩) (pw_R_V (va_recv hK hP (ci := ciP) (q0 := 0) rfl rfl) hP hK) rfl rfl hl.1 rfl (lv_room (Nat.le_of_ble_eq_true rfl)) d_P_form_2 ⟨Nat.le_of_ble_eq_true rfl, Nat.le_of_ble_eq_true rfl⟩) (fun r_2 hr_2 => ?_)
  rcases hr_2 with ⟨i1, hi1, hx1, hr1⟩ | ⟨hno1, hr1⟩
  · obtain ⟨a1, hwa1, q1, cA1, pl1, hPw1, hKw1, hpl1, hok1, hz1, hzq1⟩ := hall i1 hi1
    have hok1_ := hok1; obtain ⟨hh1, hp01, hp61, hE1⟩ := hok1_
    have ho1 := pw_o_le (Wd i1).2.2 (Wd i1).1 (Wd i1).2.1
    have hc1 := pw_c_le (Wd i1).2.2 (Wd i1).1
    rw [hx1] at hl
    refine pq_top (y := .ref a1) (by rw [hr1, hwa1]; rfl) ?_
    refine lv_astore_n (lv' := [(3, .ref a1), (0, .ref o), (1, .int (nI (i1))), (2, .int (y))]) hx hb d_P_form_5 rfl hl (by decide) rfl (fun ls hl => ?_)
    refine lv_aload_n hx hb d_P_form_6 rfl (lv_at hl 0 rfl) ?_
    refine lv_ifnonnull (tgt := 12) hx hb d_P_form_7 (by decide) ?_
    refine lv_iload_n hx hb d_P_form_12 rfl (lv_at hl 3 rfl) ?_
    rcases pq_sw5 y with rfl | rfl | rfl | rfl | rfl | ⟨hout, n0, n1, n2, n3, n4⟩
    · refine lv_tableIn (tgt := 48) hx hb d_P_form_13 (by decide) (by decide) rfl (by decide) ?_
      refine lv_aload_n hx hb d_P_form_48 rfl (lv_at hl 0 rfl) ?_
      refine va_get (D := (dC, dI)) (ci := ciW) (v := .int (nI ((Wd i1).1))) (C := R_W) (T := F_W) (N := 7) hx hb hts (fun w h => List.mem_cons_of_mem _ (in_W w h)) hown hKw1 hPw1 0 rfl rfl 0 (by decide) (hts (.fieldLink R_P 52 "PeriodWords$Word" "headLength" "I") (List.mem_cons_of_mem _ mb_80)) (fun _ h9 => h9) rfl d_P_form_49 ?_
      exact W.iret (v := (nI ((Wd i1).1))) hx hb hr (fun t_ ht_ hW_ => ⟨_, rfl, Or.inl ⟨i1, hi1, hx1, rfl⟩, ht_⟩) (fun q h => absurd h List.not_mem_nil) d_P_form_52
    · refine lv_tableIn (tgt := 53) hx hb d_P_form_13 (by decide) (by decide) rfl (by decide) ?_
      refine lv_aload_n hx hb d_P_form_53 rfl (lv_at hl 0 rfl) ?_
      refine va_get (D := (dC, dI)) (ci := ciW) (v := .int (nI ((Wd i1).2.1))) (C := R_W) (T := F_W) (N := 7) hx hb hts (fun w h => List.mem_cons_of_mem _ (in_W w h)) hown hKw1 hPw1 0 rfl rfl 2 (by decide) (hts (.fieldLink R_P 55 "PeriodWords$Word" "ringLength" "I") (List.mem_cons_of_mem _ mb_84)) (fun _ h9 => h9) rfl d_P_form_54 ?_
      exact W.iret (v := (nI ((Wd i1).2.1))) hx hb hr (fun t_ ht_ hW_ => ⟨_, rfl, Or.inl ⟨i1, hi1, hx1, rfl⟩, ht_⟩) (fun q h => absurd h List.not_mem_nil) d_P_form_57
    · refine lv_tableIn (tgt := 58) hx hb d_P_form_13 (by decide) (by decide) rfl (by decide) ?_
      refine lv_aload_n hx hb d_P_form_58 rfl (lv_at hl 0 rfl) ?_
      refine va_get (D := (dC, dI)) (ci := ciW) (v := .int (nI (pw_o (Wd i1).2.2 (Wd i1).1 (Wd i1).2.1))) (C := R_W) (T := F_W) (N := 7) hx hb hts (fun w h => List.mem_cons_of_mem _ (in_W w h)) hown hKw1 hPw1 0 rfl rfl 5 (by decide) (hts (.fieldLink R_P 42 "PeriodWords$Word" "ringOnes" "I") (List.mem_cons_of_mem _ mb_90)) (fun _ h9 => h9) rfl d_P_form_59 ?_
      refine lv_aload_n hx hb d_P_form_62 rfl (lv_at hl 0 rfl) ?_
      refine va_get (D := (dC, dI)) (ci := ciW) (v := .int (nI (pw_o (Wd i1).2.2 (Wd i1).1 (Wd i1).2.1))) (C := R_W) (T := F_W) (N := 7) hx hb hts (fun w h => List.mem_cons_of_mem _ (in_W w h)) hown hKw1 hPw1 0 rfl rfl 5 (by decide) (hts (.fieldLink R_P 42 "PeriodWords$Word" "ringOnes" "I") (List.mem_cons_of_mem _ mb_90)) (fun _ h9 => h9) rfl d_P_form_63 ?_
      refine lv_aload_n hx hb d_P_form_66 rfl (lv_at hl 0 rfl) ?_
      refine va_get (D := (dC, dI)) (ci := ciW) (v := .int (nI ((Wd i1).2.1))) (C := R_W) (T := F_W) (N := 7) hx hb hts (fun w h => List.mem_cons_of_mem _ (in_W w h)) hown hKw1 hPw1 0 rfl rfl 2 (by decide) (hts (.fieldLink R_P 55 "PeriodWords$Word" "ringLength" "I") (List.mem_cons_of_mem _ mb_84)) (fun _ h9 => h9) rfl d_P_form_67 ?_
      refine vp_callSi (W.runS (As := [.int (nI (pw_o (Wd i1).2.2 (Wd i1).1 (Wd i1).2.1)), .int (nI ((Wd i1).2.1))]) (rest := [.int (nI (pw_o (Wd i1).2.2 (Wd i1).1 (Wd i1).2.1))]) ⟨hx, hb, hml, hown, hts⟩ (c_P_cd l dC dI (x := pw_o (Wd i1).2.2 (Wd i1).1 (Wd i1).2.1) (y := (Wd i1).2.1) (by omega) (by omega) (by omega)) (va_cwS 2 hts (gd_S mb_150 mb_151 mb_22 mb_152) rfl rfl rfl (by decide +kernel) ⟨Nat.le_of_ble_eq_true rfl, Nat.le_of_ble_eq_true rfl⟩) (pw_R_S pw_P0 (hK.sub [] rfl)) rfl rfl hl.1 rfl (lv_room (Nat.le_of_ble_eq_true rfl)) d_P_form_70 ⟨Nat.le_of_ble_eq_true rfl, Nat.le_of_ble_eq_true rfl⟩) (fun r_70 hr_70 => ?_)
      subst hr_70
      have hg0 := Nat.gcd_pos_of_pos_right (pw_o (Wd i1).2.2 (Wd i1).1 (Wd i1).2.1) hp01
      have hg1 := Nat.gcd_le_right (pw_o (Wd i1).2.2 (Wd i1).1 (Wd i1).2.1) hp01
      refine pq_idiv (a := (pw_o (Wd i1).2.2 (Wd i1).1 (Wd i1).2.1)) (b := (Nat.gcd (pw_o (Wd i1).2.2 (Wd i1).1 (Wd i1).2.1) (Wd i1).2.1)) hx hb d_P_form_73 (by omega) (by omega) (by omega) ?_
      exact W.iret (v := (nI ((pw_o (Wd i1).2.2 (Wd i1).1 (Wd i1).2.1) / (Nat.gcd (pw_o (Wd i1).2.2 (Wd i1).1 (Wd i1).2.1) (Wd i1).2.1)))) hx hb hr (fun t_ ht_ hW_ => ⟨_, rfl, Or.inl ⟨i1, hi1, hx1, rfl⟩, ht_⟩) (fun q h => absurd h List.not_mem_nil) d_P_form_74
    · refine lv_tableIn (tgt := 75) hx hb d_P_form_13 (by decide) (by decide) rfl (by decide) ?_
      refine lv_aload_n hx hb d_P_form_75 rfl (lv_at hl 0 rfl) ?_
      refine va_get (D := (dC, dI)) (ci := ciW) (v := .int (nI ((Wd i1).2.1))) (C := R_W) (T := F_W) (N := 7) hx hb hts (fun w h => List.mem_cons_of_mem _ (in_W w h)) hown hKw1 hPw1 0 rfl rfl 2 (by decide) (hts (.fieldLink R_P 55 "PeriodWords$Word" "ringLength" "I") (List.mem_cons_of_mem _ mb_84)) (fun _ h9 => h9) rfl d_P_form_76 ?_
      refine lv_aload_n hx hb d_P_form_79 rfl (lv_at hl 0 rfl) ?_
      refine va_get (D := (dC, dI)) (ci := ciW) (v := .int (nI (pw_o (Wd i1).2.2 (Wd i1).1 (Wd i1).2.1))) (C := R_W) (T := F_W) (N := 7) hx hb hts (fun w h => List.mem_cons_of_mem _ (in_W w h)) hown hKw1 hPw1 0 rfl rfl 5 (by decide) (hts (.fieldLink R_P 42 "PeriodWords$Word" "ringOnes" "I") (List.mem_cons_of_mem _ mb_90)) (fun _ h9 => h9) rfl d_P_form_80 ?_
      refine lv_aload_n hx hb d_P_form_83 rfl (lv_at hl 0 rfl) ?_
      refine va_get (D := (dC, dI)) (ci := ciW) (v := .int (nI ((Wd i1).2.1))) (C := R_W) (T := F_W) (N := 7) hx hb hts (fun w h => List.mem_cons_of_mem _ (in_W w h)) hown hKw1 hPw1 0 rfl rfl 2 (by decide) (hts (.fieldLink R_P 55 "PeriodWords$Word" "ringLength" "I") (List.mem_cons_of_mem _ mb_84)) (fun _ h9 => h9) rfl d_P_form_84 ?_
      refine vp_callSi (W.runS (As := [.int (nI (pw_o (Wd i1).2.2 (Wd i1).1 (Wd i1).2.1)), .int (nI ((Wd i1).2.1))]) (rest := [.int (nI ((Wd i1).2.1))]) ⟨hx, hb, hml, hown, hts⟩ (c_P_cd l dC dI (x := pw_o (Wd i1).2.2 (Wd i1).1 (Wd i1).2.1) (y := (Wd i1).2.1) (by omega) (by omega) (by omega)) (va_cwS 2 hts (gd_S mb_150 mb_151 mb_22 mb_152) rfl rfl rfl (by decide +kernel) ⟨Nat.le_of_ble_eq_true rfl, Nat.le_of_ble_eq_true rfl⟩) (pw_R_S pw_P0 (hK.sub [] rfl)) rfl rfl hl.1 rfl (lv_room (Nat.le_of_ble_eq_true rfl)) d_P_form_87 ⟨Nat.le_of_ble_eq_true rfl, Nat.le_of_ble_eq_true rfl⟩) (fun r_87 hr_87 => ?_)
      subst hr_87
      have hg0 := Nat.gcd_pos_of_pos_right (pw_o (Wd i1).2.2 (Wd i1).1 (Wd i1).2.1) hp01
      have hg1 := Nat.gcd_le_right (pw_o (Wd i1).2.2 (Wd i1).1 (Wd i1).2.1) hp01
      refine pq_idiv (a := ((Wd i1).2.1)) (b := (Nat.gcd (pw_o (Wd i1).2.2 (Wd i1).1 (Wd i1).2.1) (Wd i1).2.1)) hx hb d_P_form_90 (by omega) (by omega) (by omega) ?_
      exact W.iret (v := (nI (((Wd i1).2.1) / (Nat.gcd (pw_o (Wd i1).2.2 (Wd i1).1 (Wd i1).2.1) (Wd i1).2.1)))) hx hb hr (fun t_ ht_ hW_ => ⟨_, rfl, Or.inl ⟨i1, hi1, hx1, rfl⟩, ht_⟩) (fun q h => absurd h List.not_mem_nil) d_P_form_91
    · refine lv_tableIn (tgt := 92) hx hb d_P_form_13 (by decide) (by decide) rfl (by decide) ?_
      refine lv_aload_n hx hb d_P_form_92 rfl (lv_at hl 0 rfl) ?_
      refine va_get (D := (dC, dI)) (ci := ciW) (v := .int (nI (pw_c (Wd i1).2.2 (Wd i1).1))) (C := R_W) (T := F_W) (N := 7) hx hb hts (fun w h => List.mem_cons_of_mem _ (in_W w h)) hown hKw1 hPw1 0 rfl rfl 4 (by decide) (hts (.fieldLink R_P 62 "PeriodWords$Word" "headOnes" "I") (List.mem_cons_of_mem _ mb_88)) (fun _ h9 => h9) rfl d_P_form_93 ?_
      exact W.iret (v := (nI (pw_c (Wd i1).2.2 (Wd i1).1))) hx hb hr (fun t_ ht_ hW_ => ⟨_, rfl, Or.inl ⟨i1, hi1, hx1, rfl⟩, ht_⟩) (fun q h => absurd h List.not_mem_nil) d_P_form_96
    · refine lv_tableOut (tgt := 97) hx hb d_P_form_13 hout (by decide) ?_
      refine lv_iconst (v := (-1)) hx hb d_P_form_97 (by decide) ?_
      exact W.iret (v := (-1)) hx hb hr (fun t_ ht_ hW_ => ⟨_, rfl, Or.inl ⟨i1, hi1, hx1, sp_form_no n0 n1 n2 n3 n4⟩, ht_⟩) (fun q h => absurd h List.not_mem_nil) d_P_form_98
  · refine pq_top (y := .null) (by rw [hr1]; rfl) ?_
    refine lv_astore_nN (lv' := [(3, .null), (0, .ref o), (1, .int (x)), (2, .int (y))]) hx hb d_P_form_5 rfl hl (by decide) rfl (fun ls hl => ?_)
    refine lv_aload_nN hx hb d_P_form_6 rfl (lv_at hl 0 rfl) ?_
    refine lv_ifnonnullN hx hb d_P_form_7 ?_
    refine lv_iconst (v := (-1)) hx hb d_P_form_10 (by decide) ?_
    exact W.iret (v := (-1)) hx hb hr (fun t_ ht_ hW_ => ⟨_, rfl, Or.inr ⟨hno1, rfl⟩, ht_⟩) (fun q h => absurd h List.not_mem_nil) d_P_form_11
set_option maxHeartbeats 4000000 in
set_option maxRecDepth 100000 in
theorem c_P_same (l : Launch) (dC : Nat → ClassId) (dI : Nat → Nat → Nat) {z0 o q n : Nat} {cW : ClassId} {wa : Nat → Option Nat} {Wd : Nat → pw_V} (hn : n ≤ 40) {x : Int32} : Met l y_P_same ws_P_same ({ frames := 1, cells := 0, slots := 0, locals := 21 } : Room) (pw_X [.ref o, .int (x)] dC dI z0 o q n cW wa Wd) (vp_Si (sp_1 n x (fun i r => sp_same Wd i r) (fun r => r = -1))) 0 0 (fun _ => False) := by
  refine Met.ofW (cc := b_P_same) (maxL := 4) (ret := (some .int)) (by decide) rfl ?_
  intro p e s m args below meth c s₁ B hml hv
  obtain ⟨rfl, hP, hK, hall⟩ := hv
  have hx := B.exec
  have hb := B.bytes
  have hr := B.returns
  have hts := atoms_spec (ws := ws_P_same) B.pre
  have hown : s.vm.findClass R_P = some m.cls := findClass_of_methodNamed B.named
  have hlocks := B.notSynchronized
  have hl := lv_entry ([.ref o, .int (x)]) (n := 4) (Nat.le_of_ble_eq_true rfl)
  rw [lg_entry_eq]
  generalize (lg_sl ([.ref o, .int (x)]) ++ List.replicate (4 - (lg_sl ([.ref o, .int (x)])).length) Slot.unset).toArray = ls at hl ⊢
  have hl : lv_has ls 4 [(0, .ref o), (1, .int (x))] := hl
  refine lv_aload_n hx hb d_P_same_0 rfl (lv_at hl 0 rfl) ?_
  refine lv_iload_n hx hb d_P_same_1 rfl (lv_at hl 1 rfl) ?_
  refine va_csq (W.runV (As := [.int (x)]) (rest := []) ⟨hx, hb, hml, hown, hts⟩ (c_P_find l dC dI hn (x := x)) (cwV 1 hts (gd_V mb_198 mb_200 mb_1 mb_22 mb_201) rfl rfl rfl (by decide +kernel) ⟨Nat.le_of_ble_eq_true rfl, Nat.le_of_ble_eq_true rfl⟩) (pw_R_V (va_recv hK hP (ci := ciP) (q0 := 0) rfl rfl) hP hK) rfl rfl hl.1 rfl (lv_room (Nat.le_of_ble_eq_true rfl)) d_P_same_2 ⟨Nat.le_of_ble_eq_true rfl, Nat.le_of_ble_eq_true rfl⟩) (fun r_2 hr_2 => ?_)
  rcases hr_2 with ⟨i1, hi1, hx1, hr1⟩ | ⟨hno1, hr1⟩
  · obtain ⟨a1, hwa1, q1, cA1, pl1, hPw1, hKw1, hpl1, hok1, hz1, hzq1⟩ := hall i1 hi1
    have hok1_ := hok1; obtain ⟨hh1, hp01, hp61, hE1⟩ := hok1_
    have ho1 := pw_o_le (Wd i1).2.2 (Wd i1).1 (Wd i1).2.1
    have hc1 := pw_c_le (Wd i1).2.2 (Wd i1).1
    rw [hx1] at hl
    refine pq_top (y := .ref a1) (by rw [hr1, hwa1]; rfl) ?_
    refine lv_astore_n (lv' := [(2, .ref a1), (0, .ref o), (1, .int (nI (i1)))]) hx hb d_P_same_5 rfl hl (by decide) rfl (fun ls hl => ?_)
    refine lv_aload_n hx hb d_P_same_6 rfl (lv_at hl 0 rfl) ?_
    refine lv_ifnonnull (tgt := 12) hx hb d_P_same_7 (by decide) ?_
    refine lv_iconst (v := nI 0) hx hb d_P_same_12 (by decide) ?_
    refine lv_istore_n (lv' := [(3, .int (nI (0))), (2, .ref a1), (0, .ref o), (1, .int (nI (i1)))]) hx hb d_P_same_13 rfl hl (by decide) rfl (fun ls hl => ?_)
    have B_14 : ∀ (k_ : Nat) (k : Nat) (ls : Array Slot), (i1 - k) < k_ → (k ≤ i1) → (∀ j, j < k → ¬ sp_q (Wd j) (Wd i1)) → lv_has ls 4 [(0, .ref o), (1, .int (nI (i1))), (2, .ref a1), (3, .int (nI (k)))] → W p l e (headSpec ws_P_same ({ frames := 1, cells := 0, slots := 0, locals := 21 } : Room)).room s m ([.ref o, .int (x)]).toArray below meth c s.heap [] 0 0 (MQ below (vp_Si (sp_1 n x (fun i r => sp_same Wd i r) (fun r => r = -1))) ([.ref o, .int (x)]).toArray s 0 0 (fun _ => False)) (F0 m 14 ls []) := by
      intro k_
      induction k_ with
      | zero => intro k ls h_; omega
      | succ k_ ih_14 =>
        intro k ls hm_ hk hne hl
        refine lv_iload_n hx hb d_P_same_14 rfl (lv_at hl 3 rfl) ?_
        refine lv_iload_n hx hb d_P_same_15 rfl (lv_at hl 1 rfl) ?_
        refine pq_icmp_ge (tgt := 39) (a := k) (b := i1) hx hb d_P_same_16 (by decide) (by omega) (by omega) (fun c_16 => ?_) (fun c_16 => ?_)
        · refine lv_iload_n hx hb d_P_same_39 rfl (lv_at hl 1 rfl) ?_
          exact W.iret (v := (nI (i1))) hx hb hr (fun t_ ht_ hW_ => ⟨_, rfl, Or.inl ⟨i1, hi1, hx1, i1, Nat.le_refl _, rfl, ⟨rfl, rfl, rfl, rfl⟩, by rw [show i1 = k by omega] at hne ⊢; exact hne⟩, ht_⟩) (fun q h => absurd h List.not_mem_nil) d_P_same_40
        · refine lv_aload_n hx hb d_P_same_19 rfl (lv_at hl 0 rfl) ?_
          refine lv_iload_n hx hb d_P_same_20 rfl (lv_at hl 3 rfl) ?_
          refine va_csq (W.runV (As := [.int (nI (k))]) (rest := []) ⟨hx, hb, hml, hown, hts⟩ (c_P_find l dC dI hn (x := nI k)) (cwV 1 hts (gd_V mb_198 mb_200 mb_1 mb_22 mb_201) rfl rfl rfl (by decide +kernel) ⟨Nat.le_of_ble_eq_true rfl, Nat.le_of_ble_eq_true rfl⟩) (pw_R_V (va_recv hK hP (ci := ciP) (q0 := 0) rfl rfl) hP hK) rfl rfl hl.1 rfl (lv_room (Nat.le_of_ble_eq_true rfl)) d_P_same_21 ⟨Nat.le_of_ble_eq_true rfl, Nat.le_of_ble_eq_true rfl⟩) (fun r_21 hr_21 => ?_)
          obtain ⟨a2, hwa2, q2, cA2, pl2, hPw2, hKw2, hpl2, hok2, hz2, hzq2⟩ := hall k (by omega)
          have hr2 : r_21 = some a2 := by
            rcases hr_21 with ⟨i, hi, e, hr⟩ | ⟨hno, _⟩
            · rw [← (nI_eq (show k < 2 ^ 31 by omega) (show i < 2 ^ 31 by omega)).mp e] at hr; rw [hr, hwa2]
            · exact absurd ⟨k, by omega, rfl⟩ hno
          refine pq_top (y := .ref a2) (by rw [hr2]; rfl) ?_
          refine lv_aload_n hx hb d_P_same_24 rfl (lv_at hl 2 rfl) ?_
          refine vp_callSi (W.runS (As := [.ref a2, .ref a1]) (rest := []) ⟨hx, hb, hml, hown, hts⟩ (c_P_alike l dC dI hok2 hok1) (va_cwS 2 hts (gd_S mb_216 mb_217 mb_22 mb_218) rfl rfl rfl (by decide +kernel) ⟨Nat.le_of_ble_eq_true rfl, Nat.le_of_ble_eq_true rfl⟩) (pw_R_S (hPw2.app hPw1) (hKw2.app hKw1)) rfl rfl hl.1 rfl (lv_room (Nat.le_of_ble_eq_true rfl)) d_P_same_25 ⟨Nat.le_of_ble_eq_true rfl, Nat.le_of_ble_eq_true rfl⟩) (fun r_25 hr_25 => ?_)
          subst hr_25
          have hdd := pw_bt (decide ((Wd k).1 = (Wd i1).1 ∧ pw_b (Wd k).2.2 0 (Wd k).1 = pw_b (Wd i1).2.2 0 (Wd i1).1 ∧ (Wd k).2.1 = (Wd i1).2.1 ∧ pw_b (Wd k).2.2 (Wd k).1 (Wd k).2.1 = pw_b (Wd i1).2.2 (Wd i1).1 (Wd i1).2.1))
          rw [decide_eq_true_iff, decide_eq_false_iff_not] at hdd
          refine pq_if_eq (tgt := 33) (a := ((decide ((Wd k).1 = (Wd i1).1 ∧ pw_b (Wd k).2.2 0 (Wd k).1 = pw_b (Wd i1).2.2 0 (Wd i1).1 ∧ (Wd k).2.1 = (Wd i1).2.1 ∧ pw_b (Wd k).2.2 (Wd k).1 (Wd k).2.1 = pw_b (Wd i1).2.2 (Wd i1).1 (Wd i1).2.1)).toNat)) hx hb d_P_same_28 (by decide) (by omega) (fun c_28 => ?_) (fun c_28 => ?_)
          · refine lv_iinc (v := nI (k + 1)) (lv' := [(3, .int (nI (k + 1))), (0, .ref o), (1, .int (nI (i1))), (2, .ref a1)]) hx hb d_P_same_33 hl (k := 3) rfl (pq_inc _) (by decide) rfl (fun ls hl => ?_)
            refine lv_goto (tgt := 14) hx hb d_P_same_36 (by decide) ?_
            exact ih_14 (k + 1) ls (by clear hdd; omega) c_16 (lt_s hne (fun z => hdd.elim (fun d => by omega) (fun d => d.2 z))) (lv_sub hl [1, 2, 3, 0] rfl)
          · refine lv_iload_n hx hb d_P_same_31 rfl (lv_at hl 3 rfl) ?_
            exact W.iret (v := (nI (k))) hx hb hr (fun t_ ht_ hW_ => ⟨_, rfl, Or.inl ⟨i1, hi1, hx1, k, hk, rfl, (hdd.elim (fun d => d.2) (fun d => by exfalso; omega)), hne⟩, ht_⟩) (fun q h => absurd h List.not_mem_nil) d_P_same_32
    exact B_14 _ (0) ls (Nat.lt_succ_self _) (by omega) (fun j hj => absurd hj (Nat.not_lt_zero j)) (lv_sub hl [2, 3, 1, 0] rfl)
  · refine pq_top (y := .null) (by rw [hr1]; rfl) ?_
    refine lv_astore_nN (lv' := [(2, .null), (0, .ref o), (1, .int (x))]) hx hb d_P_same_5 rfl hl (by decide) rfl (fun ls hl => ?_)
    refine lv_aload_nN hx hb d_P_same_6 rfl (lv_at hl 0 rfl) ?_
    refine lv_ifnonnullN hx hb d_P_same_7 ?_
    refine lv_iconst (v := (-1)) hx hb d_P_same_10 (by decide) ?_
    exact W.iret (v := (-1)) hx hb hr (fun t_ ht_ hW_ => ⟨_, rfl, Or.inr ⟨hno1, rfl⟩, ht_⟩) (fun q h => absurd h List.not_mem_nil) d_P_same_11
set_option maxHeartbeats 4000000 in
set_option maxRecDepth 100000 in
theorem c_P_ahead (l : Launch) (dC : Nat → ClassId) (dI : Nat → Nat → Nat) {z0 o q n : Nat} {cW : ClassId} {wa : Nat → Option Nat} {Wd : Nat → pw_V} (hn : n ≤ 40) {x y : Int32} : Met l y_P_ahead ws_P_ahead ({ frames := 4, cells := 0, slots := 0, locals := 89 } : Room) (pw_X [.ref o, .int (x), .int (y)] dC dI z0 o q n cW wa Wd) (vp_Si (sp_2 n x y (fun i j r => sp_ahead (Wd i) (Wd j) r) (fun r => r = nI 0))) 0 0 (fun _ => False) := by
  refine Met.ofW (cc := b_P_ahead) (maxL := 5) (ret := (some .boolean)) (by decide) rfl ?_
  intro p e s m args below meth c s₁ B hml hv
  obtain ⟨rfl, hP, hK, hall⟩ := hv
  have hx := B.exec
  have hb := B.bytes
  have hr := B.returns
  have hts := atoms_spec (ws := ws_P_ahead) B.pre
  have hown : s.vm.findClass R_P = some m.cls := findClass_of_methodNamed B.named
  have hlocks := B.notSynchronized
  have hl := lv_entry ([.ref o, .int (x), .int (y)]) (n := 5) (Nat.le_of_ble_eq_true rfl)
  rw [lg_entry_eq]
  generalize (lg_sl ([.ref o, .int (x), .int (y)]) ++ List.replicate (5 - (lg_sl ([.ref o, .int (x), .int (y)])).length) Slot.unset).toArray = ls at hl ⊢
  have hl : lv_has ls 5 [(0, .ref o), (1, .int (x)), (2, .int (y))] := hl
  refine lv_aload_n hx hb d_P_ahead_0 rfl (lv_at hl 0 rfl) ?_
  refine lv_iload_n hx hb d_P_ahead_1 rfl (lv_at hl 1 rfl) ?_
  refine va_csq (W.runV (As := [.int (x)]) (rest := []) ⟨hx, hb, hml, hown, hts⟩ (c_P_find l dC dI hn (x := x)) (cwV 1 hts (gd_V mb_198 mb_200 mb_1 mb_22 mb_201) rfl rfl rfl (by decide +kernel) ⟨Nat.le_of_ble_eq_true rfl, Nat.le_of_ble_eq_true rfl⟩) (pw_R_V (va_recv hK hP (ci := ciP) (q0 := 0) rfl rfl) hP hK) rfl rfl hl.1 rfl (lv_room (Nat.le_of_ble_eq_true rfl)) d_P_ahead_2 ⟨Nat.le_of_ble_eq_true rfl, Nat.le_of_ble_eq_true rfl⟩) (fun r_2 hr_2 => ?_)
  rcases hr_2 with ⟨i1, hi1, hx1, hr1⟩ | ⟨hno1, hr1⟩
  · obtain ⟨a1, hwa1, q1, cA1, pl1, hPw1, hKw1, hpl1, hok1, hz1, hzq1⟩ := hall i1 hi1
    have hok1_ := hok1; obtain ⟨hh1, hp01, hp61, hE1⟩ := hok1_
    have ho1 := pw_o_le (Wd i1).2.2 (Wd i1).1 (Wd i1).2.1
    have hc1 := pw_c_le (Wd i1).2.2 (Wd i1).1
    rw [hx1] at hl
    refine pq_top (y := .ref a1) (by rw [hr1, hwa1]; rfl) ?_
    refine lv_astore_n (lv' := [(3, .ref a1), (0, .ref o), (1, .int (nI (i1))), (2, .int (y))]) hx hb d_P_ahead_5 rfl hl (by decide) rfl (fun ls hl => ?_)
    refine lv_aload_n hx hb d_P_ahead_6 rfl (lv_at hl 1 rfl) ?_
    refine lv_iload_n hx hb d_P_ahead_7 rfl (lv_at hl 3 rfl) ?_
    refine va_csq (W.runV (As := [.int (y)]) (rest := []) ⟨hx, hb, hml, hown, hts⟩ (c_P_find l dC dI hn (x := y)) (cwV 1 hts (gd_V mb_198 mb_200 mb_1 mb_22 mb_201) rfl rfl rfl (by decide +kernel) ⟨Nat.le_of_ble_eq_true rfl, Nat.le_of_ble_eq_true rfl⟩) (pw_R_V (va_recv hK hP (ci := ciP) (q0 := 0) rfl rfl) hP hK) rfl rfl hl.1 rfl (lv_room (Nat.le_of_ble_eq_true rfl)) d_P_ahead_8 ⟨Nat.le_of_ble_eq_true rfl, Nat.le_of_ble_eq_true rfl⟩) (fun r_8 hr_8 => ?_)
    rcases hr_8 with ⟨i2, hi2, hx2, hr2⟩ | ⟨hno2, hr2⟩
    · obtain ⟨a2, hwa2, q2, cA2, pl2, hPw2, hKw2, hpl2, hok2, hz2, hzq2⟩ := hall i2 hi2
      have hok2_ := hok2; obtain ⟨hh2, hp02, hp62, hE2⟩ := hok2_
      have ho2 := pw_o_le (Wd i2).2.2 (Wd i2).1 (Wd i2).2.1
      have hc2 := pw_c_le (Wd i2).2.2 (Wd i2).1
      rw [hx2] at hl
      refine pq_top (y := .ref a2) (by rw [hr2, hwa2]; rfl) ?_
      refine lv_astore (lv' := [(4, .ref a2), (3, .ref a1), (0, .ref o), (1, .int (nI (i1))), (2, .int (nI (i2)))]) hx hb d_P_ahead_11 hl (by decide) rfl (fun ls hl => ?_)
      refine lv_aload_n hx hb d_P_ahead_13 rfl (lv_at hl 1 rfl) ?_
      refine lv_ifnull hx hb d_P_ahead_14 ?_
      refine lv_aload hx hb d_P_ahead_17 (lv_at hl 0 rfl) ?_
      refine lv_ifnonnull (tgt := 24) hx hb d_P_ahead_19 (by decide) ?_
      refine lv_aload_n hx hb d_P_ahead_24 rfl (lv_at hl 1 rfl) ?_
      refine lv_aload hx hb d_P_ahead_25 (lv_at hl 0 rfl) ?_
      refine vp_callSi (W.runS (As := [.ref a1, .ref a2]) (rest := []) ⟨hx, hb, hml, hown, hts⟩ (c_P_leastWait l dC dI hok1 hok2 hpl1 hpl2) (va_cwS 2 hts (gd_S mb_223 mb_224 mb_22 mb_225) rfl rfl rfl (by decide +kernel) ⟨Nat.le_of_ble_eq_true rfl, Nat.le_of_ble_eq_true rfl⟩) (pw_R_S (hPw1.app hPw2) (hKw1.app hKw2)) rfl rfl hl.1 rfl (lv_room (Nat.le_of_ble_eq_true rfl)) d_P_ahead_27 ⟨Nat.le_of_ble_eq_true rfl, Nat.le_of_ble_eq_true rfl⟩) (fun r_27 hr_27 => ?_)
      have hwt : pw_wt (Wd i1) (Wd i2) r_27 := hr_27
      have hwa := pw_wt_ah hok1 hok2 hwt
      refine lv_if_ne (tgt := 37) hx hb d_P_ahead_30 (by decide) (fun c_30 => ?_) (fun c_30 => ?_)
      · refine lv_iconst (v := nI 0) hx hb d_P_ahead_37 (by decide) ?_
        exact W.zret (v := (nI (0))) hx hb hr (by decide) (fun t_ ht_ hW_ => ⟨_, rfl, Or.inl ⟨i1, i2, hi1, hx1, hi2, hx2, Or.inr ⟨rfl, fun z => c_30 (hwa.mpr z)⟩⟩, ht_⟩) (fun q h => absurd h List.not_mem_nil) d_P_ahead_38
      · refine lv_iconst (v := nI 1) hx hb d_P_ahead_33 (by decide) ?_
        refine lv_goto (tgt := 38) hx hb d_P_ahead_34 (by decide) ?_
        exact W.zret (v := (nI (1))) hx hb hr (by decide) (fun t_ ht_ hW_ => ⟨_, rfl, Or.inl ⟨i1, i2, hi1, hx1, hi2, hx2, Or.inl ⟨rfl, hwa.mp c_30⟩⟩, ht_⟩) (fun q h => absurd h List.not_mem_nil) d_P_ahead_38
    · refine pq_top (y := .null) (by rw [hr2]; rfl) ?_
      refine lv_astoreN (lv' := [(4, .null), (3, .ref a1), (0, .ref o), (1, .int (nI (i1))), (2, .int (y))]) hx hb d_P_ahead_11 hl (by decide) rfl (fun ls hl => ?_)
      refine lv_aload_n hx hb d_P_ahead_13 rfl (lv_at hl 1 rfl) ?_
      refine lv_ifnull hx hb d_P_ahead_14 ?_
      refine lv_aloadN hx hb d_P_ahead_17 (lv_at hl 0 rfl) ?_
      refine lv_ifnonnullN hx hb d_P_ahead_19 ?_
      refine lv_iconst (v := nI 0) hx hb d_P_ahead_22 (by decide) ?_
      exact W.zret (v := (nI (0))) hx hb hr (by decide) (fun t_ ht_ hW_ => ⟨_, rfl, Or.inr ⟨fun ⟨i, j, hi, e, hj, e2⟩ => hno2 ⟨j, hj, e2⟩, rfl⟩, ht_⟩) (fun q h => absurd h List.not_mem_nil) d_P_ahead_23
  · refine pq_top (y := .null) (by rw [hr1]; rfl) ?_
    refine lv_astore_nN (lv' := [(3, .null), (0, .ref o), (1, .int (x)), (2, .int (y))]) hx hb d_P_ahead_5 rfl hl (by decide) rfl (fun ls hl => ?_)
    refine lv_aload_n hx hb d_P_ahead_6 rfl (lv_at hl 1 rfl) ?_
    refine lv_iload_n hx hb d_P_ahead_7 rfl (lv_at hl 3 rfl) ?_
    refine va_csq (W.runV (As := [.int (y)]) (rest := []) ⟨hx, hb, hml, hown, hts⟩ (c_P_find l dC dI hn (x := y)) (cwV 1 hts (gd_V mb_198 mb_200 mb_1 mb_22 mb_201) rfl rfl rfl (by decide +kernel) ⟨Nat.le_of_ble_eq_true rfl, Nat.le_of_ble_eq_true rfl⟩) (pw_R_V (va_recv hK hP (ci := ciP) (q0 := 0) rfl rfl) hP hK) rfl rfl hl.1 rfl (lv_room (Nat.le_of_ble_eq_true rfl)) d_P_ahead_8 ⟨Nat.le_of_ble_eq_true rfl, Nat.le_of_ble_eq_true rfl⟩) (fun r_8 hr_8 => ?_)
    rcases hr_8 with ⟨i2, hi2, hx2, hr2⟩ | ⟨hno2, hr2⟩
    · obtain ⟨a2, hwa2, q2, cA2, pl2, hPw2, hKw2, hpl2, hok2, hz2, hzq2⟩ := hall i2 hi2
      have hok2_ := hok2; obtain ⟨hh2, hp02, hp62, hE2⟩ := hok2_
      have ho2 := pw_o_le (Wd i2).2.2 (Wd i2).1 (Wd i2).2.1
      have hc2 := pw_c_le (Wd i2).2.2 (Wd i2).1
      rw [hx2] at hl
      refine pq_top (y := .ref a2) (by rw [hr2, hwa2]; rfl) ?_
      refine lv_astore (lv' := [(4, .ref a2), (3, .null), (0, .ref o), (1, .int (x)), (2, .int (nI (i2)))]) hx hb d_P_ahead_11 hl (by decide) rfl (fun ls hl => ?_)
      refine lv_aload_nN hx hb d_P_ahead_13 rfl (lv_at hl 1 rfl) ?_
      refine lv_ifnullN (tgt := 22) hx hb d_P_ahead_14 (by decide) ?_
      refine lv_iconst (v := nI 0) hx hb d_P_ahead_22 (by decide) ?_
      exact W.zret (v := (nI (0))) hx hb hr (by decide) (fun t_ ht_ hW_ => ⟨_, rfl, Or.inr ⟨fun ⟨i, j, hi, e, hj, e2⟩ => hno1 ⟨i, hi, e⟩, rfl⟩, ht_⟩) (fun q h => absurd h List.not_mem_nil) d_P_ahead_23
    · refine pq_top (y := .null) (by rw [hr2]; rfl) ?_
      refine lv_astoreN (lv' := [(4, .null), (3, .null), (0, .ref o), (1, .int (x)), (2, .int (y))]) hx hb d_P_ahead_11 hl (by decide) rfl (fun ls hl => ?_)
      refine lv_aload_nN hx hb d_P_ahead_13 rfl (lv_at hl 1 rfl) ?_
      refine lv_ifnullN (tgt := 22) hx hb d_P_ahead_14 (by decide) ?_
      refine lv_iconst (v := nI 0) hx hb d_P_ahead_22 (by decide) ?_
      exact W.zret (v := (nI (0))) hx hb hr (by decide) (fun t_ ht_ hW_ => ⟨_, rfl, Or.inr ⟨fun ⟨i, j, hi, e, hj, e2⟩ => hno1 ⟨i, hi, e⟩, rfl⟩, ht_⟩) (fun q h => absurd h List.not_mem_nil) d_P_ahead_23
