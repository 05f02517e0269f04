set_option maxHeartbeats 2000000 in
set_option maxRecDepth 100000 in
theorem c_P_word (l : Launch) (dC : Nat → ClassId) (dI : Nat → Nat → Nat) {sz : Nat} {z0 o q n : Nat} {cW : ClassId} {wa : Nat → Option Nat} {Wd : Nat → pw_V} (hn : n ≤ 40) (hoz : o < z0) (hqz : q < z0) (hzs : z0 ≤ sz) {x y z v : Int32} : Met l y_P_word ws_P_word ({ frames := 5, cells := 5, slots := 260, locals := 114 } : Room) (cs_Pre [.ref o, .int (x), .int (y), .int (z), .int (v)] dC dI z0 sz o q n cW wa Wd) (va_Qi (fun r u => (∃ h p, sp_wdv n x z h p ∧ cs_set (wf h y p v) n Wd r u) ∨ ((¬ ∃ h p, sp_wdv n x z h p) ∧ r = -1 ∧ u.1 = n ∧ ∀ i, i < n → u.2.2 i = Wd i)) (cs_B dC dI (va_A (pwc o q n cW wa) sz) z0 o q cW) (va_A (pwc o q n cW wa) sz)) 5 260 (va_A (pwc o q n cW wa) sz) := by
  refine Met.ofW (cc := b_P_word) (maxL := 6) (ret := (some .int)) (by decide) rfl ?_
  intro p e s m args below meth c s₁ B hml hv
  obtain ⟨rfl, hsz, hP, hK, hD0, hall⟩ := hv
  have hx := B.exec
  have hb := B.bytes
  have hr := B.returns
  have hts := atoms_spec (ws := ws_P_word) B.pre
  have hown : s.vm.findClass R_P = some m.cls := findClass_of_methodNamed B.named
  have hlocks := B.notSynchronized
  subst hsz
  have hD := hD0.self (sz := s.heap.size)
  generalize hAe : va_A (pwc o q n cW wa) s.heap.size = A at hD ⊢
  have hA : ∀ q : Nat, s.heap.size ≤ q → A q := fun q h => by rw [← hAe]; exact Or.inr h
  have hS : va_S A s.heap s.heap [] := va_S.rf
  have hl := lv_entry ([.ref o, .int (x), .int (y), .int (z), .int (v)]) (n := 6) (Nat.le_of_ble_eq_true rfl)
  rw [lg_entry_eq]
  generalize (lg_sl ([.ref o, .int (x), .int (y), .int (z), .int (v)]) ++ List.replicate (6 - (lg_sl ([.ref o, .int (x), .int (y), .int (z), .int (v)])).length) Slot.unset).toArray = ls at hl ⊢
  have hl : lv_has ls 6 [(0, .ref o), (1, .int (x)), (2, .int (y)), (3, .int (z)), (4, .int (v))] := hl
  refine lv_iload_n hx hb d_P_word_0 rfl (lv_at hl 1 rfl) ?_
  refine lv_if_lt (tgt := 21) hx hb d_P_word_1 (by decide) (fun c_1 => ?_) (fun c_1 => ?_)
  · refine lv_iconst (v := (-1)) hx hb d_P_word_21 (by decide) ?_
    refine W.widen (k := 5) (n := 260) (by omega) (by omega) ?_
    exact W.iret (v := (-1)) hx hb hr (fun t_ ht_ hW_ => ⟨⟨_, (n, wa, Wd), rfl, Or.inr ⟨(fun ⟨jh, jp, hw_⟩ => by obtain ⟨w1, w2, w3, w4, w5, w6⟩ := hw_; subst w5; subst w6; first | exact nI_pos (by omega) c_1 | exact nI_nlt (by omega) (by omega) c_7 | exact nI_nlt (by omega) (by omega) c_12 | exact c_18 (nI_le (by omega) (by omega)) | omega), rfl, rfl, fun _ _ => rfl⟩, by rw [ht_]; exact hP.sub [0, 1] rfl, va_K.moved hW_.alike (hK.sub [0] rfl), hD.sub [0, 1] (by decide) rfl, by rw [ht_]; exact wdAll.moved hW_.alike (cs_keep hAe hoz hqz hS hall)⟩, hS.F ht_⟩) hS.2.2 d_P_word_22
  · refine lv_iload_n hx hb d_P_word_4 rfl (lv_at hl 1 rfl) ?_
    refine lv_bipush (v := nI 30) hx hb d_P_word_5 (by decide) ?_
    refine lv_icmp_gt (tgt := 21) hx hb d_P_word_7 (by decide) (fun c_7 => ?_) (fun c_7 => ?_)
    · refine lv_iconst (v := (-1)) hx hb d_P_word_21 (by decide) ?_
      refine W.widen (k := 5) (n := 260) (by omega) (by omega) ?_
      exact W.iret (v := (-1)) hx hb hr (fun t_ ht_ hW_ => ⟨⟨_, (n, wa, Wd), rfl, Or.inr ⟨(fun ⟨jh, jp, hw_⟩ => by obtain ⟨w1, w2, w3, w4, w5, w6⟩ := hw_; subst w5; subst w6; first | exact nI_pos (by omega) c_1 | exact nI_nlt (by omega) (by omega) c_7 | exact nI_nlt (by omega) (by omega) c_12 | exact c_18 (nI_le (by omega) (by omega)) | omega), rfl, rfl, fun _ _ => rfl⟩, by rw [ht_]; exact hP.sub [0, 1] rfl, va_K.moved hW_.alike (hK.sub [0] rfl), hD.sub [0, 1] (by decide) rfl, by rw [ht_]; exact wdAll.moved hW_.alike (cs_keep hAe hoz hqz hS hall)⟩, hS.F ht_⟩) hS.2.2 d_P_word_22
    · refine lv_iload_n hx hb d_P_word_10 rfl (lv_at hl 3 rfl) ?_
      refine lv_iconst (v := nI 1) hx hb d_P_word_11 (by decide) ?_
      refine lv_icmp_lt (tgt := 21) hx hb d_P_word_12 (by decide) (fun c_12 => ?_) (fun c_12 => ?_)
      · refine lv_iconst (v := (-1)) hx hb d_P_word_21 (by decide) ?_
        refine W.widen (k := 5) (n := 260) (by omega) (by omega) ?_
        exact W.iret (v := (-1)) hx hb hr (fun t_ ht_ hW_ => ⟨⟨_, (n, wa, Wd), rfl, Or.inr ⟨(fun ⟨jh, jp, hw_⟩ => by obtain ⟨w1, w2, w3, w4, w5, w6⟩ := hw_; subst w5; subst w6; first | exact nI_pos (by omega) c_1 | exact nI_nlt (by omega) (by omega) c_7 | exact nI_nlt (by omega) (by omega) c_12 | exact c_18 (nI_le (by omega) (by omega)) | omega), rfl, rfl, fun _ _ => rfl⟩, by rw [ht_]; exact hP.sub [0, 1] rfl, va_K.moved hW_.alike (hK.sub [0] rfl), hD.sub [0, 1] (by decide) rfl, by rw [ht_]; exact wdAll.moved hW_.alike (cs_keep hAe hoz hqz hS hall)⟩, hS.F ht_⟩) hS.2.2 d_P_word_22
      · refine lv_iload_n hx hb d_P_word_15 rfl (lv_at hl 3 rfl) ?_
        refine lv_bipush (v := nI 30) hx hb d_P_word_16 (by decide) ?_
        refine lv_icmp_le (tgt := 23) hx hb d_P_word_18 (by decide) (fun c_18 => ?_) (fun c_18 => ?_)
        · refine lv_aload_n hx hb d_P_word_23 rfl (lv_at hl 0 rfl) ?_
          refine va_get (D := (dC, dI)) (ci := ciP) (v := .int (nI (n))) (C := R_P) (T := F_P) (N := 2) hx hb hts (fun w h => List.mem_cons_of_mem _ (in_P w h)) hown hK hP 0 rfl rfl 1 (by decide) (hts (.fieldLink R_P 15 "PeriodWords" "count" "I") (List.mem_cons_of_mem _ mb_46)) (fun _ h9 => h9) rfl d_P_word_24 ?_
          refine lv_bipush (v := nI 40) hx hb d_P_word_27 (by decide) ?_
          refine pq_icmp_lt (tgt := 34) (a := n) (b := 40) hx hb d_P_word_29 (by decide) (by omega) (by omega) (fun c_29 => ?_) (fun c_29 => ?_)
          · obtain ⟨jh, hjh, e1_⟩ := pq_in_of (N := 30) (by decide) (by rw [nI_0]; exact c_1) c_7
            subst e1_
            obtain ⟨jp, hjp0, hjp, e2_⟩ := pq_in_1 (N := 30) (by decide) c_12 (Int32.not_lt.mpr c_18)
            subst e2_
            obtain ⟨X1, hX1, eX1, bX1⟩ := cs_i2l y
            obtain ⟨X2, hX2, eX2, bX2⟩ := cs_i2l v
            have hXf : X1 % 2 ^ jh = pw_b (wf jh y jp v) 0 jh := cs_mod (fun t ht => by rw [bX1 t (by omega), Nat.zero_add]; unfold wf; rw [if_pos ht])
            have hYf : X2 % 2 ^ jp = pw_b (wf jh y jp v) jh jp := cs_mod (fun t ht => by rw [bX2 t (by omega)]; unfold wf; rw [if_neg (by omega), Nat.add_sub_cancel_left, Nat.mod_eq_of_lt ht])
            have hn40 : n < 40 := c_29
            have hw0 : wd_ok jh jp (wf jh y jp v) := ⟨by omega, hjp0, by omega, wf_E _ _ _ _⟩
            refine va_new (ci := ciW) (fs := [.int (0), .long (0), .int (0), .long (0), .int (0), .int (0), .null]) (C := R_W) (T := F_W) (N := 7) hx hb hts (fun w h => List.mem_cons_of_mem _ (in_W w h)) t_W t_W_ok hown (hts (.classLink R_P 9 R_W) (List.mem_cons_of_mem _ mb_43)) (hts (.instantiable R_W 7) (List.mem_cons_of_mem _ mb_56)) (hts (.initialized R_W) (List.mem_cons_of_mem _ mb_24)) hK hP hD hS hA rfl (fun j hj => by rcases (show j = 0 ∨ j = 1 ∨ j = 2 ∨ j = 3 ∨ j = 4 ∨ j = 5 ∨ j = 6 by omega) with rfl | rfl | rfl | rfl | rfl | rfl | rfl <;> rfl) (Nat.le_of_ble_eq_true rfl) (Nat.le_of_ble_eq_true rfl) d_P_word_34 (fun q_34 H hP hD hS => ?_)
            have hP : va_P (dC, dI) vwCl [(o, .inr (ciP, [.ref q, .int (nI (n))])), (q, .inl (cW, 40, .inr (.inr (.inr (.inr wa))))), (q_34, .inr (ciW, [.int (0), .long (0), .int (0), .long (0), .int (0), .int (0), .null]))] H := hP
            have hD : va_D A [(o, .inr (ciP, [.ref q, .int (nI (n))])), (q, .inl (cW, 40, .inr (.inr (.inr (.inr wa))))), (q_34, .inr (ciW, [.int (0), .long (0), .int (0), .long (0), .int (0), .int (0), .null]))] := hD
            refine W.widen (k := 1) (n := 7) (by omega) (by omega) ?_
            refine lv_dup hx hb d_P_word_37 rfl ?_
            refine lv_iload_n hx hb d_P_word_38 rfl (lv_at hl 1 rfl) ?_
            refine lv_iload_n hx hb d_P_word_39 rfl (lv_at hl 2 rfl) ?_
            refine lv_i2l hx hb d_P_word_40 rfl ?_
            refine lv_topl (fun y_1 ey_1 => ?_)
            refine pq_top (y := .long (lN (X1))) (by rw [ey_1, eX1]) ?_
            refine lv_iload_n hx hb d_P_word_41 rfl (lv_at hl 3 rfl) ?_
            refine lv_iload hx hb d_P_word_42 (lv_at hl 4 rfl) ?_
            refine lv_i2l hx hb d_P_word_44 rfl ?_
            refine lv_topl (fun y_2 ey_2 => ?_)
            refine pq_top (y := .long (lN (X2))) (by rw [ey_2, eX2]) ?_
            have hPc := hP.sub (ws' := [(q_34, .inr (ciW, [.int (0), .long (0), .int (0), .long (0), .int (0), .int (0), .null]))]) [2] rfl
            have hDc := hD.sub (ws' := [(q_34, .inr (ciW, [.int (0), .long (0), .int (0), .long (0), .int (0), .int (0), .null]))]) [2] (by decide) rfl
            have hKc := hK.sub (tys' := []) [] rfl
            have hFc := va_free (wc := [(q_34, .inr (ciW, [.int (0), .long (0), .int (0), .long (0), .int (0), .int (0), .null]))]) hD hS hA [2] rfl
            refine va_callv (va_runI (As := [.int (nI (jh)), .long (lN (X1)), .int (nI (jp)), .long (lN (X2))]) (rest := [.ref q_34]) ⟨hx, hb, hml, hown, hts⟩ (c_W_init l dC dI (f := wf jh y jp v) (a := q_34) (X := X1) (Y := X2) (by omega) hjp0 (by omega) hX1 hX2 hXf hYf) (cwI 4 hts (gd_I mb_59) rfl rfl rfl (hts (.initialized R_W) (List.mem_cons_of_mem _ mb_24)) (hts (.methodLink R_P 19 y_W_init) (List.mem_cons_of_mem _ mb_57)) (hts (.instanceMethod y_W_init) (List.mem_cons_of_mem _ mb_58)) rfl (by decide +kernel) ⟨Nat.le_of_ble_eq_true rfl, Nat.le_of_ble_eq_true rfl⟩) ⟨md_blind, fun U hU hW => ⟨rfl, by rw [hU], by rw [hU]; exact hPc, va_K.moved hW.alike hKc, hDc.weaken (fun _ _ _ _ => trivial)⟩⟩ rfl rfl hl.1 rfl (lv_room (Nat.le_of_ble_eq_true rfl)) d_P_word_45 ⟨Nat.le_of_ble_eq_true rfl, Nat.le_of_ble_eq_true rfl⟩) hS (fun q _ h => hFc q h) hFc (fun u_45 t_ H1 locs ht_ hvm_ hr_45 hB_ hz1_ hk1_ hS => ?_)
            obtain ⟨hP1_, hK1_, hD1_⟩ := hB_
            rw [ht_] at hP1_
            have hK1s : va_K (dC, dI) vwCl [(u_45.2.1, .int)] s := va_K.moved hvm_.symm hK1_
            obtain ⟨hP, hD⟩ := va_join (wr := [(o, .inr (ciP, [.ref q, .int (nI (n))])), (q, .inl (cW, 40, .inr (.inr (.inr (.inr wa)))))]) (w1 := [(q_34, .inr (ciW, [.int (nI (jh)), .long (lN (pw_b (wf jh y jp v) 0 jh)), .int (nI (jp)), .long (lN (pw_b (wf jh y jp v) jh jp)), .int (nI (pw_c (wf jh y jp v) jh)), .int (nI (pw_o (wf jh y jp v) jh jp)), .ref u_45.1])), (u_45.1, .inl (u_45.2.1, (pw_c (wf jh y jp v) jh + pw_o (wf jh y jp v) jh jp), .inl u_45.2.2))]) hP hD [2] [0, 1] rfl rfl (by decide) (by decide) hk1_ hFc hP1_ hD1_
            generalize H1 = H at hP hS ⊢
            have hP : va_P (dC, dI) vwCl [(o, .inr (ciP, [.ref q, .int (nI (n))])), (q, .inl (cW, 40, .inr (.inr (.inr (.inr wa))))), (q_34, .inr (ciW, [.int (nI (jh)), .long (lN (pw_b (wf jh y jp v) 0 jh)), .int (nI (jp)), .long (lN (pw_b (wf jh y jp v) jh jp)), .int (nI (pw_c (wf jh y jp v) jh)), .int (nI (pw_o (wf jh y jp v) jh jp)), .ref u_45.1])), (u_45.1, .inl (u_45.2.1, (pw_c (wf jh y jp v) jh + pw_o (wf jh y jp v) jh jp), .inl u_45.2.2))] H := hP
            have hD : va_D A [(o, .inr (ciP, [.ref q, .int (nI (n))])), (q, .inl (cW, 40, .inr (.inr (.inr (.inr wa))))), (q_34, .inr (ciW, [.int (nI (jh)), .long (lN (pw_b (wf jh y jp v) 0 jh)), .int (nI (jp)), .long (lN (pw_b (wf jh y jp v) jh jp)), .int (nI (pw_c (wf jh y jp v) jh)), .int (nI (pw_o (wf jh y jp v) jh jp)), .ref u_45.1])), (u_45.1, .inl (u_45.2.1, (pw_c (wf jh y jp v) jh + pw_o (wf jh y jp v) jh jp), .inl u_45.2.2))] := hD
            have hK := hK.app hK1s
            have hK : va_K (dC, dI) vwCl [(cW, .object "PeriodWords$Word"), (u_45.2.1, .int)] s := hK
            refine lv_astore (lv' := [(5, .ref q_34), (0, .ref o), (1, .int (nI (jh))), (2, .int (y)), (3, .int (nI (jp))), (4, .int (v))]) hx hb d_P_word_48 hl (by decide) rfl (fun ls hl => ?_)
            refine lv_aload_n hx hb d_P_word_50 rfl (lv_at hl 1 rfl) ?_
            refine lv_bipush (v := nI 6) hx hb d_P_word_51 (by decide) ?_
            refine lv_aload hx hb d_P_word_53 (lv_at hl 0 rfl) ?_
            refine lv_aload hx hb d_P_word_55 (lv_at hl 0 rfl) ?_
            refine lv_iconst (v := nI 0) hx hb d_P_word_57 (by decide) ?_
            have hWW : va_P (dC, dI) vwCl (wd q_34 u_45.1 u_45.2.1 jh jp (wf jh y jp v) u_45.2.2 ++ wd q_34 u_45.1 u_45.2.1 jh jp (wf jh y jp v) u_45.2.2) H := hP.sub [2, 3, 2, 3] rfl
            have hKW : va_K (dC, dI) vwCl [(u_45.2.1, .int), (u_45.2.1, .int)] s := hK.sub [1, 1] rfl
            have hPc := hP.sub (ws' := []) [] rfl
            have hDc := hD.sub (ws' := []) [] (by decide) rfl
            have hKc := hK.sub (tys' := []) [] rfl
            have hFc := va_free (wc := []) hD hS hA [] rfl
            refine va_callr (va_runS (As := [.int (nI (6)), .ref q_34, .ref q_34, .int (nI (0))]) (rest := [.ref o]) ⟨hx, hb, hml, hown, hts⟩ (c_P_draftOf l dC dI (a := q_34) (q := u_45.1) (cA := u_45.2.1) (pl := u_45.2.2) (a2 := q_34) (q2 := u_45.1) (cA2 := u_45.2.1) (pl2 := u_45.2.2) hw0 hw0 hr_45 (how := 6) (late := 0) (by decide) (by decide) (fun z_ => absurd z_ (by decide))) (va_cwS 4 hts (gd_S mb_108 mb_109 mb_22 mb_110) rfl rfl rfl (by decide +kernel) ⟨Nat.le_of_ble_eq_true rfl, Nat.le_of_ble_eq_true rfl⟩) ⟨dr_blind, fun U hU hW => ⟨rfl, by rw [hU], by rw [hU]; exact hWW, va_K.moved hW.alike hKW⟩⟩ rfl rfl hl.1 rfl (lv_room (Nat.le_of_ble_eq_true rfl)) d_P_word_58 ⟨Nat.le_of_ble_eq_true rfl, Nat.le_of_ble_eq_true rfl⟩) hS (fun q _ h => hFc q h) hFc (fun u_58 r_58 t_ H1 locs ht_ hvm_ hr_58 hB_ hz1_ hk1_ hS => ?_)
            obtain ⟨hP1_, hK1_, hD1_⟩ := hB_
            rw [ht_] at hP1_
            obtain ⟨hP, hD⟩ := va_join (wr := [(o, .inr (ciP, [.ref q, .int (nI (n))])), (q, .inl (cW, 40, .inr (.inr (.inr (.inr wa))))), (q_34, .inr (ciW, [.int (nI (jh)), .long (lN (pw_b (wf jh y jp v) 0 jh)), .int (nI (jp)), .long (lN (pw_b (wf jh y jp v) jh jp)), .int (nI (pw_c (wf jh y jp v) jh)), .int (nI (pw_o (wf jh y jp v) jh jp)), .ref u_45.1])), (u_45.1, .inl (u_45.2.1, (pw_c (wf jh y jp v) jh + pw_o (wf jh y jp v) jh jp), .inl u_45.2.2))]) (w1 := [(r_58, .inr (ciD, [.int (nI (u_58.1)), .int (nI (u_58.2.1)), .int (nI (6)), .ref q_34, .ref q_34, .int (nI (u_58.2.2))]))]) hP hD [] [0, 1, 2, 3] rfl rfl (by decide) (by decide) hk1_ hFc hP1_ hD1_
            generalize H1 = H at hP hS hz1_ hk1_ ⊢
            have hP : va_P (dC, dI) vwCl [(o, .inr (ciP, [.ref q, .int (nI (n))])), (q, .inl (cW, 40, .inr (.inr (.inr (.inr wa))))), (q_34, .inr (ciW, [.int (nI (jh)), .long (lN (pw_b (wf jh y jp v) 0 jh)), .int (nI (jp)), .long (lN (pw_b (wf jh y jp v) jh jp)), .int (nI (pw_c (wf jh y jp v) jh)), .int (nI (pw_o (wf jh y jp v) jh jp)), .ref u_45.1])), (u_45.1, .inl (u_45.2.1, (pw_c (wf jh y jp v) jh + pw_o (wf jh y jp v) jh jp), .inl u_45.2.2)), (r_58, .inr (ciD, [.int (nI (u_58.1)), .int (nI (u_58.2.1)), .int (nI (6)), .ref q_34, .ref q_34, .int (nI (u_58.2.2))]))] H := hP
            have hD : va_D A [(o, .inr (ciP, [.ref q, .int (nI (n))])), (q, .inl (cW, 40, .inr (.inr (.inr (.inr wa))))), (q_34, .inr (ciW, [.int (nI (jh)), .long (lN (pw_b (wf jh y jp v) 0 jh)), .int (nI (jp)), .long (lN (pw_b (wf jh y jp v) jh jp)), .int (nI (pw_c (wf jh y jp v) jh)), .int (nI (pw_o (wf jh y jp v) jh jp)), .ref u_45.1])), (u_45.1, .inl (u_45.2.1, (pw_c (wf jh y jp v) jh + pw_o (wf jh y jp v) jh jp), .inl u_45.2.2)), (r_58, .inr (ciD, [.int (nI (u_58.1)), .int (nI (u_58.2.1)), .int (nI (6)), .ref q_34, .ref q_34, .int (nI (u_58.2.2))]))] := hD
            obtain ⟨⟨hd1, hd2, hd3, hd4, hd5⟩, hlt⟩ := hr_58
            have hWW : va_P (dC, dI) vwCl (dr r_58 q_34 q_34 u_58.1 u_58.2.1 6 u_58.2.2 ++ (wd q_34 u_45.1 u_45.2.1 jh jp (wf jh y jp v) u_45.2.2 ++ wd q_34 u_45.1 u_45.2.1 jh jp (wf jh y jp v) u_45.2.2)) H := hP.sub [4, 2, 3, 2, 3] rfl
            have hSz := hS.1
            have hPc := hP.sub (ws' := []) [] rfl
            have hDc := hD.sub (ws' := []) [] (by decide) rfl
            have hKc := hK.sub (tys' := []) [] rfl
            have hFc := va_free (wc := []) hD hS hA [] rfl
            refine va_callq (va_runS (As := [.ref r_58]) (rest := [.ref o]) ⟨hx, hb, hml, hown, hts⟩ (c_P_shortestForm l dC dI (a := q_34) (q := u_45.1) (cA := u_45.2.1) (pl := u_45.2.2) (a2 := q_34) (q2 := u_45.1) (cA2 := u_45.2.1) (pl2 := u_45.2.2) hw0 hw0 hr_45 (dd := r_58) (hd := u_58.1) (rd := u_58.2.1) (how := 6) (late := u_58.2.2) (by decide) hd4 (fun z_ => absurd z_ (by decide)) hd1 hd2 hd3 hd5) (va_cwS 1 hts (gd_S mb_163 mb_164 mb_22 mb_165) rfl rfl rfl (by decide +kernel) ⟨Nat.le_of_ble_eq_true rfl, Nat.le_of_ble_eq_true rfl⟩) ⟨dr_blind, fun U hU hW => ⟨rfl, by rw [hU], by rw [hU]; exact hWW, va_K.moved hW.alike hKW⟩⟩ rfl rfl hl.1 rfl (lv_room (Nat.le_of_ble_eq_true rfl)) d_P_word_61 ⟨Nat.le_of_ble_eq_true rfl, Nat.le_of_ble_eq_true rfl⟩) hS (fun q _ h => hFc q h) hFc (fun r_61 u_61 t_ H1 locs ht_ hvm_ hr_61 hB_ hz1_ hk1_ hS => ?_)
            obtain ⟨hr1, hok1⟩ := hr_61
            rw [hlt rfl, pw_late0] at hok1 hB_
            rcases u_61 with _ | ⟨a9, h9, p9, q9, cA9, pl9⟩
            · subst hr1
              obtain ⟨hP, hD⟩ := va_join (wr := [(o, .inr (ciP, [.ref q, .int (nI (n))])), (q, .inl (cW, 40, .inr (.inr (.inr (.inr wa))))), (q_34, .inr (ciW, [.int (nI (jh)), .long (lN (pw_b (wf jh y jp v) 0 jh)), .int (nI (jp)), .long (lN (pw_b (wf jh y jp v) jh jp)), .int (nI (pw_c (wf jh y jp v) jh)), .int (nI (pw_o (wf jh y jp v) jh jp)), .ref u_45.1])), (u_45.1, .inl (u_45.2.1, (pw_c (wf jh y jp v) jh + pw_o (wf jh y jp v) jh jp), .inl u_45.2.2)), (r_58, .inr (ciD, [.int (nI (u_58.1)), .int (nI (u_58.2.1)), .int (nI (6)), .ref q_34, .ref q_34, .int (nI (u_58.2.2))]))]) (w1 := []) hP hD [] [0, 1, 2, 3, 4] rfl rfl (by decide) (by decide) hk1_ hFc pw_P0 pw_D0
              generalize H1 = H at hP hS ⊢
              have hP : va_P (dC, dI) vwCl [(o, .inr (ciP, [.ref q, .int (nI (n))])), (q, .inl (cW, 40, .inr (.inr (.inr (.inr wa))))), (q_34, .inr (ciW, [.int (nI (jh)), .long (lN (pw_b (wf jh y jp v) 0 jh)), .int (nI (jp)), .long (lN (pw_b (wf jh y jp v) jh jp)), .int (nI (pw_c (wf jh y jp v) jh)), .int (nI (pw_o (wf jh y jp v) jh jp)), .ref u_45.1])), (u_45.1, .inl (u_45.2.1, (pw_c (wf jh y jp v) jh + pw_o (wf jh y jp v) jh jp), .inl u_45.2.2)), (r_58, .inr (ciD, [.int (nI (u_58.1)), .int (nI (u_58.2.1)), .int (nI (6)), .ref q_34, .ref q_34, .int (nI (u_58.2.2))]))] H := hP
              have hD : va_D A [(o, .inr (ciP, [.ref q, .int (nI (n))])), (q, .inl (cW, 40, .inr (.inr (.inr (.inr wa))))), (q_34, .inr (ciW, [.int (nI (jh)), .long (lN (pw_b (wf jh y jp v) 0 jh)), .int (nI (jp)), .long (lN (pw_b (wf jh y jp v) jh jp)), .int (nI (pw_c (wf jh y jp v) jh)), .int (nI (pw_o (wf jh y jp v) jh jp)), .ref u_45.1])), (u_45.1, .inl (u_45.2.1, (pw_c (wf jh y jp v) jh + pw_o (wf jh y jp v) jh jp), .inl u_45.2.2)), (r_58, .inr (ciD, [.int (nI (u_58.1)), .int (nI (u_58.2.1)), .int (nI (6)), .ref q_34, .ref q_34, .int (nI (u_58.2.2))]))] := hD
              obtain ⟨h9, p9, hcan, h60⟩ := hok1
              refine pq_top (y := .null) rfl ?_
              refine vp_callSi (W.runV (As := [.null]) (rest := []) ⟨hx, hb, hml, hown, hts⟩ (c_P_keepN l dC dI (o := o) (q := q) (n := n) (cW := cW) (wa := wa)) (cwV 1 hts (gd_V mb_190 mb_192 mb_0 mb_22 mb_193) rfl rfl rfl (by decide +kernel) ⟨Nat.le_of_ble_eq_true rfl, Nat.le_of_ble_eq_true rfl⟩) (pw_R_V (va_recv hK hP (ci := ciP) (q0 := 0) rfl rfl) (hP.sub [0, 1] rfl) (hK.sub [0] rfl)) rfl rfl hl.1 rfl (lv_room (Nat.le_of_ble_eq_true rfl)) d_P_word_64 ⟨Nat.le_of_ble_eq_true rfl, Nat.le_of_ble_eq_true rfl⟩) (fun r_64 hr_64 => ?_)
              subst hr_64
              refine W.widen (k := 5) (n := 260) (by omega) (by omega) ?_
              exact W.iret (v := (-1)) hx hb hr (fun t_ ht_ hW_ => ⟨⟨_, (n, wa, Wd), rfl, Or.inl ⟨jh, jp, ⟨hn40, hjh, hjp0, hjp, rfl, rfl⟩, h9, p9, hcan, Or.inr ⟨h60, rfl, rfl, fun _ _ => rfl⟩⟩, by rw [ht_]; exact hP.sub [0, 1] rfl, va_K.moved hW_.alike (hK.sub [0] rfl), hD.sub [0, 1] (by decide) rfl, by rw [ht_]; exact wdAll.moved hW_.alike (cs_keep hAe hoz hqz hS hall)⟩, hS.F ht_⟩) hS.2.2 d_P_word_67
            · subst hr1
              obtain ⟨hcan, h60, p60, hpl9⟩ := hok1
              obtain ⟨hP1_, hK1_, hD1_⟩ := hB_
              rw [ht_] at hP1_
              have hK9 : va_K (dC, dI) vwCl [(cA9, .int)] s := va_K.moved hvm_.symm hK1_
              have hz9 : z0 ≤ a9 := Nat.le_trans hzs (Nat.le_trans hSz (pw_A0 (hD1_.2 0 _ rfl)))
              have hzq9 : z0 ≤ q9 := Nat.le_trans hzs (Nat.le_trans hSz (pw_A0 (hD1_.2 1 _ rfl)))
              obtain ⟨hP, hD⟩ := va_join (wr := [(o, .inr (ciP, [.ref q, .int (nI (n))])), (q, .inl (cW, 40, .inr (.inr (.inr (.inr wa))))), (q_34, .inr (ciW, [.int (nI (jh)), .long (lN (pw_b (wf jh y jp v) 0 jh)), .int (nI (jp)), .long (lN (pw_b (wf jh y jp v) jh jp)), .int (nI (pw_c (wf jh y jp v) jh)), .int (nI (pw_o (wf jh y jp v) jh jp)), .ref u_45.1])), (u_45.1, .inl (u_45.2.1, (pw_c (wf jh y jp v) jh + pw_o (wf jh y jp v) jh jp), .inl u_45.2.2)), (r_58, .inr (ciD, [.int (nI (u_58.1)), .int (nI (u_58.2.1)), .int (nI (6)), .ref q_34, .ref q_34, .int (nI (u_58.2.2))]))]) (w1 := [(a9, .inr (ciW, [.int (nI (h9)), .long (lN (pw_b (wf jh y jp v) 0 h9)), .int (nI (p9)), .long (lN (pw_b (wf jh y jp v) h9 p9)), .int (nI (pw_c (wf jh y jp v) h9)), .int (nI (pw_o (wf jh y jp v) h9 p9)), .ref q9])), (q9, .inl (cA9, (pw_c (wf jh y jp v) h9 + pw_o (wf jh y jp v) h9 p9), .inl pl9))]) hP hD [] [0, 1, 2, 3, 4] rfl rfl (by decide) (by decide) hk1_ hFc hP1_ hD1_
              generalize H1 = H at hP hS ⊢
              have hP : va_P (dC, dI) vwCl [(o, .inr (ciP, [.ref q, .int (nI (n))])), (q, .inl (cW, 40, .inr (.inr (.inr (.inr wa))))), (q_34, .inr (ciW, [.int (nI (jh)), .long (lN (pw_b (wf jh y jp v) 0 jh)), .int (nI (jp)), .long (lN (pw_b (wf jh y jp v) jh jp)), .int (nI (pw_c (wf jh y jp v) jh)), .int (nI (pw_o (wf jh y jp v) jh jp)), .ref u_45.1])), (u_45.1, .inl (u_45.2.1, (pw_c (wf jh y jp v) jh + pw_o (wf jh y jp v) jh jp), .inl u_45.2.2)), (r_58, .inr (ciD, [.int (nI (u_58.1)), .int (nI (u_58.2.1)), .int (nI (6)), .ref q_34, .ref q_34, .int (nI (u_58.2.2))])), (a9, .inr (ciW, [.int (nI (h9)), .long (lN (pw_b (wf jh y jp v) 0 h9)), .int (nI (p9)), .long (lN (pw_b (wf jh y jp v) h9 p9)), .int (nI (pw_c (wf jh y jp v) h9)), .int (nI (pw_o (wf jh y jp v) h9 p9)), .ref q9])), (q9, .inl (cA9, (pw_c (wf jh y jp v) h9 + pw_o (wf jh y jp v) h9 p9), .inl pl9))] H := hP
              have hD : va_D A [(o, .inr (ciP, [.ref q, .int (nI (n))])), (q, .inl (cW, 40, .inr (.inr (.inr (.inr wa))))), (q_34, .inr (ciW, [.int (nI (jh)), .long (lN (pw_b (wf jh y jp v) 0 jh)), .int (nI (jp)), .long (lN (pw_b (wf jh y jp v) jh jp)), .int (nI (pw_c (wf jh y jp v) jh)), .int (nI (pw_o (wf jh y jp v) jh jp)), .ref u_45.1])), (u_45.1, .inl (u_45.2.1, (pw_c (wf jh y jp v) jh + pw_o (wf jh y jp v) jh jp), .inl u_45.2.2)), (r_58, .inr (ciD, [.int (nI (u_58.1)), .int (nI (u_58.2.1)), .int (nI (6)), .ref q_34, .ref q_34, .int (nI (u_58.2.2))])), (a9, .inr (ciW, [.int (nI (h9)), .long (lN (pw_b (wf jh y jp v) 0 h9)), .int (nI (p9)), .long (lN (pw_b (wf jh y jp v) h9 p9)), .int (nI (pw_c (wf jh y jp v) h9)), .int (nI (pw_o (wf jh y jp v) h9 p9)), .ref q9])), (q9, .inl (cA9, (pw_c (wf jh y jp v) h9 + pw_o (wf jh y jp v) h9 p9), .inl pl9))] := hD
              refine pq_top (y := .ref a9) rfl ?_
              have hPc := hP.sub (ws' := [(o, .inr (ciP, [.ref q, .int (nI (n))])), (q, .inl (cW, 40, .inr (.inr (.inr (.inr wa))))), (a9, .inr (ciW, [.int (nI (h9)), .long (lN (pw_b (wf jh y jp v) 0 h9)), .int (nI (p9)), .long (lN (pw_b (wf jh y jp v) h9 p9)), .int (nI (pw_c (wf jh y jp v) h9)), .int (nI (pw_o (wf jh y jp v) h9 p9)), .ref q9]))]) [0, 1, 5] rfl
              have hDc := hD.sub (ws' := [(o, .inr (ciP, [.ref q, .int (nI (n))])), (q, .inl (cW, 40, .inr (.inr (.inr (.inr wa))))), (a9, .inr (ciW, [.int (nI (h9)), .long (lN (pw_b (wf jh y jp v) 0 h9)), .int (nI (p9)), .long (lN (pw_b (wf jh y jp v) h9 p9)), .int (nI (pw_c (wf jh y jp v) h9)), .int (nI (pw_o (wf jh y jp v) h9 p9)), .ref q9]))]) [0, 1, 5] (by decide) rfl
              have hKc := hK.sub (tys' := [(cW, .object "PeriodWords$Word")]) [0] rfl
              have hFc := va_free (wc := [(o, .inr (ciP, [.ref q, .int (nI (n))])), (q, .inl (cW, 40, .inr (.inr (.inr (.inr wa))))), (a9, .inr (ciW, [.int (nI (h9)), .long (lN (pw_b (wf jh y jp v) 0 h9)), .int (nI (p9)), .long (lN (pw_b (wf jh y jp v) h9 p9)), .int (nI (pw_c (wf jh y jp v) h9)), .int (nI (pw_o (wf jh y jp v) h9 p9)), .ref q9]))]) hD hS hA [0, 1, 5] rfl
              refine va_calli (va_runV (As := [.ref a9]) (rest := []) ⟨hx, hb, hml, hown, hts⟩ (c_P_keep l dC dI (o := o) (q := q) (n := n) (cW := cW) (wa := wa) (a := a9) (h := h9) (pp := p9) (qq := q9) (f := (wf jh y jp v)) hn40) (cwV 1 hts (gd_V mb_190 mb_192 mb_0 mb_22 mb_193) rfl rfl rfl (by decide +kernel) ⟨Nat.le_of_ble_eq_true rfl, Nat.le_of_ble_eq_true rfl⟩) ⟨md_blind, va_recv hK hP (ci := ciP) (q0 := 0) rfl rfl, fun U hU hW => ⟨rfl, by rw [hU], by rw [hU]; exact hPc, va_K.moved hW.alike hKc, hDc.weaken (fun _ _ _ _ => trivial)⟩⟩ rfl rfl hl.1 rfl (lv_room (Nat.le_of_ble_eq_true rfl)) d_P_word_64 ⟨Nat.le_of_ble_eq_true rfl, Nat.le_of_ble_eq_true rfl⟩) hS (fun q _ h => hFc q h) hFc (fun r_64 u_64 t_ H1 locs ht_ hvm_ hr_64 hB_ hz1_ hk1_ hS => ?_)
              obtain ⟨hra, hrb⟩ := hr_64
              subst hra
              subst hrb
              obtain ⟨hP1_, hK1_, hD1_⟩ := hB_
              rw [ht_] at hP1_
              obtain ⟨hP, hD⟩ := va_join (wr := [(q_34, .inr (ciW, [.int (nI (jh)), .long (lN (pw_b (wf jh y jp v) 0 jh)), .int (nI (jp)), .long (lN (pw_b (wf jh y jp v) jh jp)), .int (nI (pw_c (wf jh y jp v) jh)), .int (nI (pw_o (wf jh y jp v) jh jp)), .ref u_45.1])), (u_45.1, .inl (u_45.2.1, (pw_c (wf jh y jp v) jh + pw_o (wf jh y jp v) jh jp), .inl u_45.2.2)), (r_58, .inr (ciD, [.int (nI (u_58.1)), .int (nI (u_58.2.1)), .int (nI (6)), .ref q_34, .ref q_34, .int (nI (u_58.2.2))])), (q9, .inl (cA9, (pw_c (wf jh y jp v) h9 + pw_o (wf jh y jp v) h9 p9), .inl pl9))]) (w1 := [(o, .inr (ciP, [.ref q, .int (nI (n + 1))])), (q, .inl (cW, 40, .inr (.inr (.inr (.inr (va_up wa n (some a9))))))), (a9, .inr (ciW, [.int (nI (h9)), .long (lN (pw_b (wf jh y jp v) 0 h9)), .int (nI (p9)), .long (lN (pw_b (wf jh y jp v) h9 p9)), .int (nI (pw_c (wf jh y jp v) h9)), .int (nI (pw_o (wf jh y jp v) h9 p9)), .ref q9]))]) hP hD [0, 1, 5] [2, 3, 4, 6] rfl rfl (by decide) (by decide) hk1_ hFc hP1_ hD1_
              generalize H1 = H at hP hS ⊢
              have hP : va_P (dC, dI) vwCl [(q_34, .inr (ciW, [.int (nI (jh)), .long (lN (pw_b (wf jh y jp v) 0 jh)), .int (nI (jp)), .long (lN (pw_b (wf jh y jp v) jh jp)), .int (nI (pw_c (wf jh y jp v) jh)), .int (nI (pw_o (wf jh y jp v) jh jp)), .ref u_45.1])), (u_45.1, .inl (u_45.2.1, (pw_c (wf jh y jp v) jh + pw_o (wf jh y jp v) jh jp), .inl u_45.2.2)), (r_58, .inr (ciD, [.int (nI (u_58.1)), .int (nI (u_58.2.1)), .int (nI (6)), .ref q_34, .ref q_34, .int (nI (u_58.2.2))])), (q9, .inl (cA9, (pw_c (wf jh y jp v) h9 + pw_o (wf jh y jp v) h9 p9), .inl pl9)), (o, .inr (ciP, [.ref q, .int (nI (n + 1))])), (q, .inl (cW, 40, .inr (.inr (.inr (.inr (va_up wa n (some a9))))))), (a9, .inr (ciW, [.int (nI (h9)), .long (lN (pw_b (wf jh y jp v) 0 h9)), .int (nI (p9)), .long (lN (pw_b (wf jh y jp v) h9 p9)), .int (nI (pw_c (wf jh y jp v) h9)), .int (nI (pw_o (wf jh y jp v) h9 p9)), .ref q9]))] H := hP
              have hD : va_D A [(q_34, .inr (ciW, [.int (nI (jh)), .long (lN (pw_b (wf jh y jp v) 0 jh)), .int (nI (jp)), .long (lN (pw_b (wf jh y jp v) jh jp)), .int (nI (pw_c (wf jh y jp v) jh)), .int (nI (pw_o (wf jh y jp v) jh jp)), .ref u_45.1])), (u_45.1, .inl (u_45.2.1, (pw_c (wf jh y jp v) jh + pw_o (wf jh y jp v) jh jp), .inl u_45.2.2)), (r_58, .inr (ciD, [.int (nI (u_58.1)), .int (nI (u_58.2.1)), .int (nI (6)), .ref q_34, .ref q_34, .int (nI (u_58.2.2))])), (q9, .inl (cA9, (pw_c (wf jh y jp v) h9 + pw_o (wf jh y jp v) h9 p9), .inl pl9)), (o, .inr (ciP, [.ref q, .int (nI (n + 1))])), (q, .inl (cW, 40, .inr (.inr (.inr (.inr (va_up wa n (some a9))))))), (a9, .inr (ciW, [.int (nI (h9)), .long (lN (pw_b (wf jh y jp v) 0 h9)), .int (nI (p9)), .long (lN (pw_b (wf jh y jp v) h9 p9)), .int (nI (pw_c (wf jh y jp v) h9)), .int (nI (pw_o (wf jh y jp v) h9 p9)), .ref q9]))] := hD
              refine W.widen (k := 5) (n := 260) (by omega) (by omega) ?_
              exact W.iret (v := (nI (n))) hx hb hr (fun t_ ht_ hW_ => ⟨⟨_, (n + 1, va_up wa n (some a9), fun i => if i = n then (h9, p9, (wf jh y jp v)) else Wd i), rfl, Or.inl ⟨jh, jp, ⟨hn40, hjh, hjp0, hjp, rfl, rfl⟩, h9, p9, hcan, Or.inl ⟨h60, p60, rfl, rfl, if_pos rfl, fun i hi => if_neg (Nat.ne_of_lt hi)⟩⟩, by rw [ht_]; exact hP.sub [4, 5] rfl, va_K.moved hW_.alike (hK.sub [0] rfl), hD.sub [4, 5] (by decide) rfl, by rw [ht_]; exact wdAll.moved hW_.alike (cs_new (cs_keep hAe hoz hqz hS hall) ⟨q9, cA9, pl9, hP.sub [6, 3] rfl, hK9, hpl9, ⟨h60, hcan.1, p60, hcan.2.1⟩, hz9, hzq9⟩)⟩, hS.F ht_⟩) hS.2.2 d_P_word_67
          · refine lv_iconst (v := (-1)) hx hb d_P_word_32 (by decide) ?_
            refine W.widen (k := 5) (n := 260) (by omega) (by omega) ?_
            exact W.iret (v := (-1)) hx hb hr (fun t_ ht_ hW_ => ⟨⟨_, (n, wa, Wd), rfl, Or.inr ⟨(fun ⟨jh, jp, hw_⟩ => by obtain ⟨w1, w2, w3, w4, w5, w6⟩ := hw_; subst w5; subst w6; first | exact nI_pos (by omega) c_1 | exact nI_nlt (by omega) (by omega) c_7 | exact nI_nlt (by omega) (by omega) c_12 | exact c_18 (nI_le (by omega) (by omega)) | omega), rfl, rfl, fun _ _ => rfl⟩, by rw [ht_]; exact hP.sub [0, 1] rfl, va_K.moved hW_.alike (hK.sub [0] rfl), hD.sub [0, 1] (by decide) rfl, by rw [ht_]; exact wdAll.moved hW_.alike (cs_keep hAe hoz hqz hS hall)⟩, hS.F ht_⟩) hS.2.2 d_P_word_33
        · refine lv_iconst (v := (-1)) hx hb d_P_word_21 (by decide) ?_
          refine W.widen (k := 5) (n := 260) (by omega) (by omega) ?_
          exact W.iret (v := (-1)) hx hb hr (fun t_ ht_ hW_ => ⟨⟨_, (n, wa, Wd), rfl, Or.inr ⟨(fun ⟨jh, jp, hw_⟩ => by obtain ⟨w1, w2, w3, w4, w5, w6⟩ := hw_; subst w5; subst w6; first | exact nI_pos (by omega) c_1 | exact nI_nlt (by omega) (by omega) c_7 | exact nI_nlt (by omega) (by omega) c_12 | exact c_18 (nI_le (by omega) (by omega)) | omega), rfl, rfl, fun _ _ => rfl⟩, by rw [ht_]; exact hP.sub [0, 1] rfl, va_K.moved hW_.alike (hK.sub [0] rfl), hD.sub [0, 1] (by decide) rfl, by rw [ht_]; exact wdAll.moved hW_.alike (cs_keep hAe hoz hqz hS hall)⟩, hS.F ht_⟩) hS.2.2 d_P_word_22
