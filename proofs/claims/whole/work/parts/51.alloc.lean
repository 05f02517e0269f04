set_option maxHeartbeats 1000000 in
set_option maxRecDepth 100000 in
theorem c_W_writePlaces (l : Launch) (dC : Nat → ClassId) (dI : Nat → Nat → Nat) {sz : Nat} {q N : Nat} {cA : ClassId} {pl : Nat → Int32} {u x : Nat} (hx1 : x < 2 ^ 60) (hu : u + pw_p x 60 ≤ N) (hN : N ≤ 1000) : Met l y_W_writePlaces ws_W_writePlaces ({ frames := 0, cells := 0, slots := 0, locals := 0 } : Room) (md_Pre [.ref q, .int (nI (u)), .long (lN (x))] dC dI sz [(cA, .int)] [(q, .inl (cA, N, .inl pl))]) (va_Qv (fun g => (∀ j, j < u → g j = pl j) ∧ ∀ j, j < pw_p x 60 → ∃ t, t < 60 ∧ g (u + j) = nI t ∧ x.testBit t = true ∧ pw_p x t = j) (wp_B dC dI (va_A [(q, .inl (cA, N, .inl pl))] sz) q cA N) (va_A [(q, .inl (cA, N, .inl pl))] sz)) 0 0 (va_A [(q, .inl (cA, N, .inl pl))] sz) := by
  refine Met.ofW (cc := b_W_writePlaces) (maxL := 6) (ret := none) (by decide) rfl ?_
  intro p e s m args below meth c s₁ B hml hv
  obtain ⟨rfl, hsz, hP, hK, hD0⟩ := hv
  have hx := B.exec
  have hb := B.bytes
  have hr := B.returns
  have hts := atoms_spec (ws := ws_W_writePlaces) B.pre
  have hown : s.vm.findClass R_W = some m.cls := findClass_of_methodNamed B.named
  have hlocks := B.notSynchronized
  subst hsz
  have hD := hD0.self (sz := s.heap.size)
  generalize hAe : va_A [(q, .inl (cA, N, .inl pl))] s.heap.size = A at hD ⊢
  have hA : ∀ q : Nat, s.heap.size ≤ q → A q := fun q h => by rw [← hAe]; exact Or.inr h
  have hS : va_S A s.heap s.heap [] := va_S.rf
  have hx64 : x < 2 ^ 64 := Nat.lt_trans hx1 (by decide)
  have hl := lv_entry ([.ref q, .int (nI (u)), .long (lN (x))]) (n := 6) (Nat.le_of_ble_eq_true rfl)
  rw [lg_entry_eq]
  generalize (lg_sl ([.ref q, .int (nI (u)), .long (lN (x))]) ++ List.replicate (6 - (lg_sl ([.ref q, .int (nI (u)), .long (lN (x))])).length) Slot.unset).toArray = ls at hl ⊢
  have hl : lv_has ls 6 [(0, .ref q), (1, .int (nI (u))), (2, .long (lN (x)))] := hl
  refine lv_iload_n hx hb d_W_writePlaces_0 rfl (lv_at hl 1 rfl) ?_
  refine lv_istore (lv' := [(4, .int (nI (u))), (0, .ref q), (1, .int (nI (u))), (2, .long (lN (x)))]) hx hb d_W_writePlaces_1 hl (by decide) rfl (fun ls hl => ?_)
  refine lv_iconst (v := nI 0) hx hb d_W_writePlaces_3 (by decide) ?_
  refine lv_istore (lv' := [(5, .int (nI (0))), (4, .int (nI (u))), (0, .ref q), (1, .int (nI (u))), (2, .long (lN (x)))]) hx hb d_W_writePlaces_4 hl (by decide) rfl (fun ls hl => ?_)
  have B_6 : ∀ (k_ : Nat) (nx : Nat) (k : Nat) (g : Nat → Int32) (H : Heap) (locs : List Loc) (ls : Array Slot), (60 - k) < k_ → (k ≤ 60) → (nx = u + pw_p x k) → (∀ j, j < u → g j = pl j) → (∀ j, j < pw_p x k → ∃ t, t < 60 ∧ g (u + j) = nI t ∧ x.testBit t = true ∧ pw_p x t = j) → (va_P (dC, dI) vwCl [(q, .inl (cA, N, .inl g))] H) → (va_D A [(q, .inl (cA, N, .inl g))]) → (va_S A s.heap H locs) → lv_has ls 6 [(0, .ref q), (2, .long (lN (x))), (4, .int (nI (nx))), (5, .int (nI (k)))] → W p l e (headSpec ws_W_writePlaces ({ frames := 0, cells := 0, slots := 0, locals := 0 } : Room)).room s m ([.ref q, .int (nI (u)), .long (lN (x))]).toArray below meth c H locs 0 0 (MQ below (va_Qv (fun g => (∀ j, j < u → g j = pl j) ∧ ∀ j, j < pw_p x 60 → ∃ t, t < 60 ∧ g (u + j) = nI t ∧ x.testBit t = true ∧ pw_p x t = j) (wp_B dC dI A q cA N) A) ([.ref q, .int (nI (u)), .long (lN (x))]).toArray s 0 0 A) (F0 m 6 ls []) := by
    intro k_
    induction k_ with
    | zero => intro nx k g H locs ls h_; omega
    | succ k_ ih_6 =>
      intro nx k g H locs ls hm_ hk hnx hg1 hg2 hP hD hS hl
      refine lv_iload hx hb d_W_writePlaces_6 (lv_at hl 3 rfl) ?_
      refine lv_bipush (v := nI 60) hx hb d_W_writePlaces_8 (by decide) ?_
      refine pq_icmp_ge (tgt := 46) (a := k) (b := 60) hx hb d_W_writePlaces_10 (by decide) (by omega) (by omega) (fun c_10 => ?_) (fun c_10 => ?_)
      · exact W.vret hx hb hr (fun t_ ht_ hW_ => ⟨⟨g, rfl, ⟨hg1, (show k = 60 by omega) ▸ hg2⟩, by rw [ht_]; exact hP, va_K.moved hW_.alike hK, hD⟩, hS.F ht_⟩) hS.2.2 d_W_writePlaces_46
      · refine lv_lload_n hx hb d_W_writePlaces_13 rfl (lv_at hl 1 rfl) ?_
        refine lv_iload hx hb d_W_writePlaces_14 (lv_at hl 3 rfl) ?_
        refine lv_lushr hx hb d_W_writePlaces_16 rfl ?_
        refine lv_topl (fun y_1 ey_1 => ?_)
        refine pq_top (y := .long (lN (x / 2 ^ k))) (by rw [ey_1, pq_lushr hx64 (by omega)]) ?_
        refine lv_lconst (v := lN 1) hx hb d_W_writePlaces_17 (by decide) ?_
        refine lv_land hx hb d_W_writePlaces_18 ?_
        refine lv_topl (fun y_2 ey_2 => ?_)
        refine pq_top (y := .long (lN (x / 2 ^ k % 2))) (by rw [ey_2, pq_land1 (Nat.lt_of_le_of_lt (Nat.div_le_self _ _) hx64)]) ?_
        refine lv_lconst (v := lN 1) hx hb d_W_writePlaces_19 (by decide) ?_
        refine W.lcmp hx hb d_W_writePlaces_20 ?_
        refine lv_topi (fun x_3 ex_3 => ?_)
        refine lv_if_ne (tgt := 40) hx hb d_W_writePlaces_21 (by decide) (fun c_21 => ?_) (fun c_21 => ?_)
        · have c_21n : x / 2 ^ k % 2 ≠ 1 := fun z_ => c_21 (by rw [ex_3]; exact (pq_cmpN (by omega) (by decide)).mpr z_)
          refine lv_iinc (v := nI (k + 1)) (lv' := [(5, .int (nI (k + 1))), (0, .ref q), (2, .long (lN (x))), (4, .int (nI (nx)))]) hx hb d_W_writePlaces_40 hl (k := 3) rfl (pq_inc _) (by decide) rfl (fun ls hl => ?_)
          refine lv_goto (tgt := 6) hx hb d_W_writePlaces_43 (by decide) ?_
          exact ih_6 (nx) (k + 1) (g) _ _ ls (by omega) (by omega) (by rw [pw_p_s, hnx]; omega) hg1 (wp_skip hg2 (by omega)) hP hD hS (lv_sub hl [1, 2, 3, 0] rfl)
        · have c_21n : x / 2 ^ k % 2 = 1 := (pq_cmpN (by omega) (by decide)).mp (by rw [← ex_3]; exact c_21)
          have hpm := pw_p_mono x (show k + 1 ≤ 60 by omega)
          have hps := pw_p_s x k
          refine lv_iload hx hb d_W_writePlaces_24 (lv_at hl 2 rfl) ?_
          refine lv_aload_n hx hb d_W_writePlaces_26 rfl (lv_at hl 0 rfl) ?_
          refine va_alen hx hb hK hP 0 0 rfl rfl (v := nI (N)) rfl d_W_writePlaces_27 ?_
          refine pq_icmp_ge (tgt := 40) (a := nx) (b := N) hx hb d_W_writePlaces_28 (by decide) (by omega) (by omega) (fun c_28 => absurd c_28 (by omega)) (fun c_28 => ?_)
          refine lv_aload_n hx hb d_W_writePlaces_31 rfl (lv_at hl 0 rfl) ?_
          refine lv_iload hx hb d_W_writePlaces_32 (lv_at hl 2 rfl) ?_
          refine lv_iload hx hb d_W_writePlaces_34 (lv_at hl 3 rfl) ?_
          refine va_iast hx hb hK hP hD hS 0 0 rfl rfl (vp_in_nI (n := nx) (by omega) (by omega)) d_W_writePlaces_36 (fun H locs hP hD hS => ?_)
          rw [pq_cl (by omega)] at hP hD
          have hP : va_P (dC, dI) vwCl [(q, .inl (cA, N, .inl (upd g nx (nI (k)))))] H := hP
          have hD : va_D A [(q, .inl (cA, N, .inl (upd g nx (nI (k)))))] := hD
          refine lv_iinc (v := nI (nx + 1)) (lv' := [(4, .int (nI (nx + 1))), (0, .ref q), (2, .long (lN (x))), (5, .int (nI (k)))]) hx hb d_W_writePlaces_37 hl (k := 2) rfl (pq_inc _) (by decide) rfl (fun ls hl => ?_)
          refine lv_iinc (v := nI (k + 1)) (lv' := [(5, .int (nI (k + 1))), (4, .int (nI (nx + 1))), (0, .ref q), (2, .long (lN (x)))]) hx hb d_W_writePlaces_40 hl (k := 3) rfl (pq_inc _) (by decide) rfl (fun ls hl => ?_)
          refine lv_goto (tgt := 6) hx hb d_W_writePlaces_43 (by decide) ?_
          exact ih_6 (nx + 1) (k + 1) (upd g nx (nI (k))) _ _ ls (by omega) (by omega) (by rw [pw_p_s, hnx]; omega) (fun j hj => (pk_un (by omega)).trans (hg1 j hj)) (wp_put hg2 hnx (by omega) c_21n) hP hD hS (lv_sub hl [2, 3, 1, 0] rfl)
  exact B_6 _ (u) (0) (pl) _ _ ls (Nat.lt_succ_self _) (by omega) rfl (fun j _ => rfl) (fun j hj => absurd hj (Nat.not_lt_zero j)) hP hD hS (lv_sub hl [2, 4, 1, 0] rfl)
set_option maxHeartbeats 1000000 in
set_option maxRecDepth 100000 in
theorem c_W_placesOf (l : Launch) (dC : Nat → ClassId) (dI : Nat → Nat → Nat) {sz : Nat} {h pp : Nat} {f : Nat → Bool} (hh : h ≤ 60) (hp6 : pp ≤ 60) : Met l y_W_placesOf ws_W_placesOf ({ frames := 1, cells := 1, slots := 120, locals := 25 } : Room) (dr_Pre [.long (lN (pw_b f 0 h)), .long (lN (pw_b f h pp))] dC dI sz [] []) (va_Qr (fun u => wd_pl h pp f u.2) (fun (u : ClassId × (Nat → Int32)) (r : Nat) (t : State) => wp_B dC dI (va_A [] sz) r u.1 (pw_c f h + pw_o f h pp) u.2 t) (va_A [] sz)) 1 120 (va_A [] sz) := by
  refine Met.ofW (cc := b_W_placesOf) (maxL := 6) (ret := (some (.array .int))) (by decide) rfl ?_
  intro p e s m args below meth c s₁ B hml hv
  obtain ⟨rfl, hsz, hW0, hK⟩ := hv
  have hx := B.exec
  have hb := B.bytes
  have hr := B.returns
  have hts := atoms_spec (ws := ws_W_placesOf) B.pre
  have hown : s.vm.findClass R_W = some m.cls := findClass_of_methodNamed B.named
  have hlocks := B.notSynchronized
  subst hsz
  generalize hAe : va_A [] s.heap.size = A
  have hA : ∀ q : Nat, s.heap.size ≤ q → A q := fun q h => by rw [← hAe]; exact Or.inr h
  have hAn : ∀ q : Nat, A q → s.heap.size ≤ q := fun q h => by rw [← hAe] at h; exact pw_A0 h
  have hS : va_S A s.heap s.heap [] := va_S.rf
  have hP : va_P (dC, dI) vwCl [] s.heap := pw_P0
  have hD : va_D A [] := pw_D0
  have ho := pw_o_le f h pp
  have hc := pw_c_le f h
  have hb0 := pq_lt60 (pw_b_lt f 0 h) hh
  have hb1 := pq_lt60 (pw_b_lt f h pp) hp6
  have hb064 : pw_b f 0 h < 2 ^ 64 := Nat.lt_trans hb0 (by decide)
  have hb164 : pw_b f h pp < 2 ^ 64 := Nat.lt_trans hb1 (by decide)
  have hq1 : pw_p (pw_b f 0 h) 60 = pw_c f h := by rw [pq_p_lt (pw_b_lt f 0 h) hh, pw_p_c f h h (Nat.le_refl h)]
  have hq2 : pw_p (pw_b f h pp) 60 = pw_o f h pp := by rw [pq_p_lt (pw_b_lt f h pp) hp6, pw_p_o]
  have hl := lv_entry ([.long (lN (pw_b f 0 h)), .long (lN (pw_b f h pp))]) (n := 6) (Nat.le_of_ble_eq_true rfl)
  rw [lg_entry_eq]
  generalize (lg_sl ([.long (lN (pw_b f 0 h)), .long (lN (pw_b f h pp))]) ++ List.replicate (6 - (lg_sl ([.long (lN (pw_b f 0 h)), .long (lN (pw_b f h pp))])).length) Slot.unset).toArray = ls at hl ⊢
  have hl : lv_has ls 6 [(0, .long (lN (pw_b f 0 h))), (2, .long (lN (pw_b f h pp)))] := hl
  refine lv_lload_n hx hb d_W_placesOf_0 rfl (lv_at hl 0 rfl) ?_
  refine vp_callSi (W.runS (As := [.long (lN (pw_b f 0 h))]) (rest := []) ⟨hx, hb, hml, hown, hts⟩ (c_bitCount l dC dI (x := pw_b f 0 h) hb064) (va_cwS 1 hts (gd_S mb_67 mb_68 mb_26 mb_69) rfl rfl rfl (by decide +kernel) ⟨Nat.le_of_ble_eq_true rfl, Nat.le_of_ble_eq_true rfl⟩) (pw_R_S pw_P0 (hK.sub [] rfl)) rfl rfl hl.1 rfl (lv_room (Nat.le_of_ble_eq_true rfl)) d_W_placesOf_1 ⟨Nat.le_of_ble_eq_true rfl, Nat.le_of_ble_eq_true rfl⟩) (fun r_1 hr_1 => ?_)
  subst hr_1
  refine pq_top (y := .int (nI (pw_c f h))) (by rw [pq_p_lt (pw_b_lt f 0 h) (by omega), pw_p_c f h h (Nat.le_refl h)]) ?_
  refine lv_istore (lv' := [(4, .int (nI (pw_c f h))), (0, .long (lN (pw_b f 0 h))), (2, .long (lN (pw_b f h pp)))]) hx hb d_W_placesOf_4 hl (by decide) rfl (fun ls hl => ?_)
  refine lv_iload hx hb d_W_placesOf_6 (lv_at hl 0 rfl) ?_
  refine lv_lload_n hx hb d_W_placesOf_8 rfl (lv_at hl 2 rfl) ?_
  refine vp_callSi (W.runS (As := [.long (lN (pw_b f h pp))]) (rest := [.int (nI (pw_c f h))]) ⟨hx, hb, hml, hown, hts⟩ (c_bitCount l dC dI (x := pw_b f h pp) hb164) (va_cwS 1 hts (gd_S mb_67 mb_68 mb_26 mb_69) rfl rfl rfl (by decide +kernel) ⟨Nat.le_of_ble_eq_true rfl, Nat.le_of_ble_eq_true rfl⟩) (pw_R_S pw_P0 (hK.sub [] rfl)) rfl rfl hl.1 rfl (lv_room (Nat.le_of_ble_eq_true rfl)) d_W_placesOf_9 ⟨Nat.le_of_ble_eq_true rfl, Nat.le_of_ble_eq_true rfl⟩) (fun r_9 hr_9 => ?_)
  subst hr_9
  refine pq_top (y := .int (nI (pw_o f h pp))) (by rw [pq_p_lt (pw_b_lt f h pp) (by omega), pw_p_o]) ?_
  refine pq_iadd (a := (pw_c f h)) (b := (pw_o f h pp)) hx hb d_W_placesOf_12 ?_
  refine va_newa (atype := .int) (ty := .int) (n := nI ((pw_c f h) + (pw_o f h pp))) (N' := ((pw_c f h) + (pw_o f h pp))) (a0 := ((pw_c f h) + (pw_o f h pp), .inl (fun _ => 0))) hx hb (hts (.arrayClass .int) (List.mem_cons_of_mem _ mb_107)) rfl hK hP hD hS hA (fun _ => rfl) (nI_pos (by omega)) (pq_cl (by omega)) (pq_nb .int (by decide) (by omega)) (Nat.le_of_ble_eq_true rfl) (Nat.le_trans (show 0 + (pw_c f h + pw_o f h pp) ≤ 120 by omega) (Nat.le_of_ble_eq_true rfl)) d_W_placesOf_13 (fun q_13 cA_13 H hK hP hD hS => ?_)
  have hK : va_K (dC, dI) vwCl [(cA_13, .int)] s := hK
  have hP : va_P (dC, dI) vwCl [(q_13, .inl (cA_13, ((pw_c f h) + (pw_o f h pp)), .inl (fun _ => 0)))] H := hP
  have hD : va_D A [(q_13, .inl (cA_13, ((pw_c f h) + (pw_o f h pp)), .inl (fun _ => 0)))] := hD
  refine W.widen (k := 1) (n := 120) (by omega) (by omega) ?_
  refine lv_astore (lv' := [(5, .ref q_13), (4, .int (nI (pw_c f h))), (0, .long (lN (pw_b f 0 h))), (2, .long (lN (pw_b f h pp)))]) hx hb d_W_placesOf_15 hl (by decide) rfl (fun ls hl => ?_)
  refine lv_aload hx hb d_W_placesOf_17 (lv_at hl 0 rfl) ?_
  refine lv_iconst (v := nI 0) hx hb d_W_placesOf_19 (by decide) ?_
  refine lv_lload_n hx hb d_W_placesOf_20 rfl (lv_at hl 2 rfl) ?_
  have hPc := hP.sub (ws' := [(q_13, .inl (cA_13, ((pw_c f h) + (pw_o f h pp)), .inl (fun _ => 0)))]) [0] rfl
  have hDc := hD.sub (ws' := [(q_13, .inl (cA_13, ((pw_c f h) + (pw_o f h pp)), .inl (fun _ => 0)))]) [0] (by decide) rfl
  have hKc := hK.sub (tys' := [(cA_13, .int)]) [0] rfl
  have hFc := va_free (wc := [(q_13, .inl (cA_13, ((pw_c f h) + (pw_o f h pp)), .inl (fun _ => 0)))]) hD hS hA [0] rfl
  refine va_callv (va_runS (As := [.ref q_13, .int (nI (0)), .long (lN (pw_b f 0 h))]) (rest := []) ⟨hx, hb, hml, hown, hts⟩ (c_W_writePlaces l dC dI (u := 0) (x := pw_b f 0 h) hb0 (by omega) (by omega)) (va_cwS 3 hts (gd_S mb_76 mb_77 mb_24 mb_78) rfl rfl rfl (by decide +kernel) ⟨Nat.le_of_ble_eq_true rfl, Nat.le_of_ble_eq_true rfl⟩) ⟨md_blind, fun U hU hW => ⟨rfl, by rw [hU], by rw [hU]; exact hPc, va_K.moved hW.alike hKc, hDc.weaken (fun _ _ _ _ => trivial)⟩⟩ rfl rfl hl.1 rfl (lv_room (Nat.le_of_ble_eq_true rfl)) d_W_placesOf_21 ⟨Nat.le_of_ble_eq_true rfl, Nat.le_of_ble_eq_true rfl⟩) hS (fun q _ h => hFc q h) hFc (fun u_21 t_ H1 locs ht_ hvm_ hr_21 hB_ hz1_ hk1_ hS => ?_)
  obtain ⟨hP1_, hK1_, hD1_⟩ := hB_
  rw [ht_] at hP1_
  obtain ⟨hP, hD⟩ := va_join (wr := []) (w1 := [(q_13, .inl (cA_13, (pw_c f h + pw_o f h pp), .inl u_21))]) hP hD [0] [] rfl rfl (by decide) (by decide) hk1_ hFc hP1_ hD1_
  generalize H1 = H at hP hS ⊢
  have hP : va_P (dC, dI) vwCl [(q_13, .inl (cA_13, (pw_c f h + pw_o f h pp), .inl u_21))] H := hP
  have hD : va_D A [(q_13, .inl (cA_13, (pw_c f h + pw_o f h pp), .inl u_21))] := hD
  refine lv_aload hx hb d_W_placesOf_24 (lv_at hl 0 rfl) ?_
  refine lv_iload hx hb d_W_placesOf_26 (lv_at hl 1 rfl) ?_
  refine lv_lload_n hx hb d_W_placesOf_28 rfl (lv_at hl 3 rfl) ?_
  have hPc := hP.sub (ws' := [(q_13, .inl (cA_13, (pw_c f h + pw_o f h pp), .inl u_21))]) [0] rfl
  have hDc := hD.sub (ws' := [(q_13, .inl (cA_13, (pw_c f h + pw_o f h pp), .inl u_21))]) [0] (by decide) rfl
  have hKc := hK.sub (tys' := [(cA_13, .int)]) [0] rfl
  have hFc := va_free (wc := [(q_13, .inl (cA_13, (pw_c f h + pw_o f h pp), .inl u_21))]) hD hS hA [0] rfl
  refine va_callv (va_runS (As := [.ref q_13, .int (nI (pw_c f h)), .long (lN (pw_b f h pp))]) (rest := []) ⟨hx, hb, hml, hown, hts⟩ (c_W_writePlaces l dC dI (u := pw_c f h) (x := pw_b f h pp) hb1 (by omega) (by omega)) (va_cwS 3 hts (gd_S mb_76 mb_77 mb_24 mb_78) rfl rfl rfl (by decide +kernel) ⟨Nat.le_of_ble_eq_true rfl, Nat.le_of_ble_eq_true rfl⟩) ⟨md_blind, fun U hU hW => ⟨rfl, by rw [hU], by rw [hU]; exact hPc, va_K.moved hW.alike hKc, hDc.weaken (fun _ _ _ _ => trivial)⟩⟩ rfl rfl hl.1 rfl (lv_room (Nat.le_of_ble_eq_true rfl)) d_W_placesOf_29 ⟨Nat.le_of_ble_eq_true rfl, Nat.le_of_ble_eq_true rfl⟩) hS (fun q _ h => hFc q h) hFc (fun u_29 t_ H1 locs ht_ hvm_ hr_29 hB_ hz1_ hk1_ hS => ?_)
  obtain ⟨hP1_, hK1_, hD1_⟩ := hB_
  rw [ht_] at hP1_
  obtain ⟨hP, hD⟩ := va_join (wr := []) (w1 := [(q_13, .inl (cA_13, (pw_c f h + pw_o f h pp), .inl u_29))]) hP hD [0] [] rfl rfl (by decide) (by decide) hk1_ hFc hP1_ hD1_
  generalize H1 = H at hP hS ⊢
  have hP : va_P (dC, dI) vwCl [(q_13, .inl (cA_13, (pw_c f h + pw_o f h pp), .inl u_29))] H := hP
  have hD : va_D A [(q_13, .inl (cA_13, (pw_c f h + pw_o f h pp), .inl u_29))] := hD
  refine lv_aload hx hb d_W_placesOf_32 (lv_at hl 0 rfl) ?_
  exact W.aret (v := .ref q_13) hx hb hr (Or.inr ⟨_, rfl⟩) (Or.inr ⟨_, rfl⟩) (fun t_ ht_ hW_ => ⟨⟨(cA_13, u_29), q_13, rfl, wp_pl hh hp6 hq1 hq2 hr_21 hr_29, by rw [ht_]; exact hP, va_K.moved hW_.alike hK, hD⟩, hS.F ht_⟩) hS.2.2 d_W_placesOf_34
set_option maxHeartbeats 1000000 in
set_option maxRecDepth 100000 in
theorem c_W_init (l : Launch) (dC : Nat → ClassId) (dI : Nat → Nat → Nat) {sz : Nat} {a h pp X Y : Nat} {f : Nat → Bool} (hh : h ≤ 60) (hp0 : 0 < pp) (hp6 : pp ≤ 60) (hX : X < 2 ^ 64) (hY : Y < 2 ^ 64) (hXf : X % 2 ^ h = pw_b f 0 h) (hYf : Y % 2 ^ pp = pw_b f h pp) : Met l y_W_init ws_W_init ({ frames := 2, cells := 1, slots := 120, locals := 50 } : Room) (md_Pre [.ref a, .int (nI (h)), .long (lN (X)), .int (nI (pp)), .long (lN (Y))] dC dI sz [] [(a, .inr (ciW, [.int 0, .long 0, .int 0, .long 0, .int 0, .int 0, .null]))]) (va_Qv (fun u => wd_pl h pp f u.2.2) (wi_B dC dI (va_A [(a, .inr (ciW, [.int 0, .long 0, .int 0, .long 0, .int 0, .int 0, .null]))] sz) a h pp f) (va_A [(a, .inr (ciW, [.int 0, .long 0, .int 0, .long 0, .int 0, .int 0, .null]))] sz)) 1 120 (va_A [(a, .inr (ciW, [.int 0, .long 0, .int 0, .long 0, .int 0, .int 0, .null]))] sz) := by
  refine Met.ofW (cc := b_W_init) (maxL := 7) (ret := none) (by decide) rfl ?_
  intro p e s m args below meth c s₁ B hml hv
  obtain ⟨rfl, hsz, hP, hK, hD0⟩ := hv
  have hx := B.exec
  have hb := B.bytes
  have hr := B.returns
  have hts := atoms_spec (ws := ws_W_init) B.pre
  have hown : s.vm.findClass R_W = some m.cls := findClass_of_methodNamed B.named
  have hlocks := B.notSynchronized
  subst hsz
  have hD := hD0.self (sz := s.heap.size)
  generalize hAe : va_A [(a, .inr (ciW, [.int 0, .long 0, .int 0, .long 0, .int 0, .int 0, .null]))] s.heap.size = A at hD ⊢
  have hA : ∀ q : Nat, s.heap.size ≤ q → A q := fun q h => by rw [← hAe]; exact Or.inr h
  have hS : va_S A s.heap s.heap [] := va_S.rf
  have hin : meth.name = "<init>" := (name_of_methodNamed B.named B.method).1
  have ho := pw_o_le f h pp
  have hc := pw_c_le f h
  have hb0 := pq_lt60 (pw_b_lt f 0 h) hh
  have hb1 := pq_lt60 (pw_b_lt f h pp) hp6
  have hb064 : pw_b f 0 h < 2 ^ 64 := Nat.lt_trans hb0 (by decide)
  have hb164 : pw_b f h pp < 2 ^ 64 := Nat.lt_trans hb1 (by decide)
  have hl := lv_entry ([.ref a, .int (nI (h)), .long (lN (X)), .int (nI (pp)), .long (lN (Y))]) (n := 7) (Nat.le_of_ble_eq_true rfl)
  rw [lg_entry_eq]
  generalize (lg_sl ([.ref a, .int (nI (h)), .long (lN (X)), .int (nI (pp)), .long (lN (Y))]) ++ List.replicate (7 - (lg_sl ([.ref a, .int (nI (h)), .long (lN (X)), .int (nI (pp)), .long (lN (Y))])).length) Slot.unset).toArray = ls at hl ⊢
  have hl : lv_has ls 7 [(0, .ref a), (1, .int (nI (h))), (2, .long (lN (X))), (4, .int (nI (pp))), (5, .long (lN (Y)))] := hl
  refine lv_aload_n hx hb d_W_init_0 rfl (lv_at hl 0 rfl) ?_
  refine W.objInit hx hb hown (hts (.methodLink R_W 3 objectInit) (List.mem_cons_of_mem _ mb_60)) (hts (.instanceMethod objectInit) (List.mem_cons_of_mem _ mb_41)) (hts (.code objectInit ⟨#[0xb1]⟩ 1 none) (List.mem_cons_of_mem _ mb_42)) rfl (by rw [hml]; exact hl.1) rfl d_W_init_1 (Nat.le_of_ble_eq_true rfl) (Nat.le_of_ble_eq_true rfl) ?_
  refine W.eq (g2 := F0 m 4 ls []) rfl ?_
  refine lv_aload_n hx hb d_W_init_4 rfl (lv_at hl 0 rfl) ?_
  refine lv_iload_n hx hb d_W_init_5 rfl (lv_at hl 1 rfl) ?_
  refine va_putF (D := (dC, dI)) (ci := ciW) (v := .int (nI (h))) (ty := .int) (C := R_W) (T := F_W) (N := 7) hx hb hts (fun w h => List.mem_cons_of_mem _ (in_W w h)) t_W t_W_ok n_W hown hK hP hD hS 0 rfl rfl 0 (by decide) (hts (.fieldLink R_W 9 "PeriodWords$Word" "headLength" "I") (List.mem_cons_of_mem _ mb_79)) (fun _ h9 => h9) rfl hin rfl (by decide +kernel) rfl rfl (Nat.le_of_ble_eq_true rfl) d_W_init_6 (fun H locs hP hD hS => ?_)
  have hP : va_P (dC, dI) vwCl [(a, .inr (ciW, [.int (nI (h)), .long (0), .int (0), .long (0), .int (0), .int (0), .null]))] H := hP
  have hD : va_D A [(a, .inr (ciW, [.int (nI (h)), .long (0), .int (0), .long (0), .int (0), .int (0), .null]))] := hD
  refine lv_aload_n hx hb d_W_init_9 rfl (lv_at hl 0 rfl) ?_
  refine lv_lload_n hx hb d_W_init_10 rfl (lv_at hl 2 rfl) ?_
  refine lv_iload_n hx hb d_W_init_11 rfl (lv_at hl 1 rfl) ?_
  refine vp_callSl (W.runS (As := [.int (nI (h))]) (rest := [.long (lN (X)), .ref a]) ⟨hx, hb, hml, hown, hts⟩ (c_W_lowest l dC dI (k := h) (by omega)) (va_cwS 1 hts (gd_S mb_61 mb_62 mb_24 mb_63) rfl rfl rfl (by decide +kernel) ⟨Nat.le_of_ble_eq_true rfl, Nat.le_of_ble_eq_true rfl⟩) (pw_R_S pw_P0 (hK.sub [] rfl)) rfl rfl hl.1 rfl (lv_room (Nat.le_of_ble_eq_true rfl)) d_W_init_12 ⟨Nat.le_of_ble_eq_true rfl, Nat.le_of_ble_eq_true rfl⟩) (fun r_12 hr_12 => ?_)
  subst hr_12
  refine lv_land hx hb d_W_init_15 ?_
  refine lv_topl (fun y_1 ey_1 => ?_)
  refine pq_top (y := .long (lN (pw_b f 0 h))) (by rw [ey_1, pq_mask hX (by omega), hXf]) ?_
  refine va_putF (D := (dC, dI)) (ci := ciW) (v := .long (lN (pw_b f 0 h))) (ty := .long) (C := R_W) (T := F_W) (N := 7) hx hb hts (fun w h => List.mem_cons_of_mem _ (in_W w h)) t_W t_W_ok n_W hown hK hP hD hS 0 rfl rfl 1 (by decide) (hts (.fieldLink R_W 19 "PeriodWords$Word" "headBits" "J") (List.mem_cons_of_mem _ mb_81)) (fun _ h9 => h9) rfl hin rfl (by decide +kernel) rfl rfl (Nat.le_of_ble_eq_true rfl) d_W_init_16 (fun H locs hP hD hS => ?_)
  have hP : va_P (dC, dI) vwCl [(a, .inr (ciW, [.int (nI (h)), .long (lN (pw_b f 0 h)), .int (0), .long (0), .int (0), .int (0), .null]))] H := hP
  have hD : va_D A [(a, .inr (ciW, [.int (nI (h)), .long (lN (pw_b f 0 h)), .int (0), .long (0), .int (0), .int (0), .null]))] := hD
  refine lv_aload_n hx hb d_W_init_19 rfl (lv_at hl 0 rfl) ?_
  refine lv_iconst (v := nI 1) hx hb d_W_init_20 (by decide) ?_
  refine lv_iload hx hb d_W_init_21 (lv_at hl 3 rfl) ?_
  refine va_mmax hx hb (hml.trans hl.1.symm) hown (hts (.methodLink R_W 23 Lib.Math.max.name) (List.mem_cons_of_mem _ mb_64)) (hts (.static Lib.Math.max.name) (List.mem_cons_of_mem _ mb_65)) (hts (.initialized "java/lang/Math") (List.mem_cons_of_mem _ mb_25)) (hts (.code Lib.Math.max.name Lib.Math.max.code 2 (some .int)) (List.mem_cons_of_mem _ mb_66)) (Nat.le_of_ble_eq_true rfl) (Nat.le_of_ble_eq_true rfl) (Nat.le_of_ble_eq_true rfl) (Nat.le_of_ble_eq_true rfl) d_W_init_23 ?_
  refine pq_top (y := .int (nI (max 1 pp))) (by rw [pq_max (by omega) (by omega)]) ?_
  refine pq_top (y := .int (nI (pp))) (by rw [Nat.max_eq_right (by omega)]) ?_
  refine va_putF (D := (dC, dI)) (ci := ciW) (v := .int (nI (pp))) (ty := .int) (C := R_W) (T := F_W) (N := 7) hx hb hts (fun w h => List.mem_cons_of_mem _ (in_W w h)) t_W t_W_ok n_W hown hK hP hD hS 0 rfl rfl 2 (by decide) (hts (.fieldLink R_W 29 "PeriodWords$Word" "ringLength" "I") (List.mem_cons_of_mem _ mb_83)) (fun _ h9 => h9) rfl hin rfl (by decide +kernel) rfl rfl (Nat.le_of_ble_eq_true rfl) d_W_init_26 (fun H locs hP hD hS => ?_)
  have hP : va_P (dC, dI) vwCl [(a, .inr (ciW, [.int (nI (h)), .long (lN (pw_b f 0 h)), .int (nI (pp)), .long (0), .int (0), .int (0), .null]))] H := hP
  have hD : va_D A [(a, .inr (ciW, [.int (nI (h)), .long (lN (pw_b f 0 h)), .int (nI (pp)), .long (0), .int (0), .int (0), .null]))] := hD
  refine lv_aload_n hx hb d_W_init_29 rfl (lv_at hl 0 rfl) ?_
  refine lv_lload hx hb d_W_init_30 (lv_at hl 4 rfl) ?_
  refine lv_aload_n hx hb d_W_init_32 rfl (lv_at hl 0 rfl) ?_
  refine va_get (D := (dC, dI)) (ci := ciW) (v := .int (nI (pp))) (C := R_W) (T := F_W) (N := 7) hx hb hts (fun w h => List.mem_cons_of_mem _ (in_W w h)) hown hK hP 0 rfl rfl 2 (by decide) (hts (.fieldLink R_W 29 "PeriodWords$Word" "ringLength" "I") (List.mem_cons_of_mem _ mb_83)) (fun _ h9 => h9) rfl d_W_init_33 ?_
  refine vp_callSl (W.runS (As := [.int (nI (pp))]) (rest := [.long (lN (Y)), .ref a]) ⟨hx, hb, hml, hown, hts⟩ (c_W_lowest l dC dI (k := pp) (by omega)) (va_cwS 1 hts (gd_S mb_61 mb_62 mb_24 mb_63) rfl rfl rfl (by decide +kernel) ⟨Nat.le_of_ble_eq_true rfl, Nat.le_of_ble_eq_true rfl⟩) (pw_R_S pw_P0 (hK.sub [] rfl)) rfl rfl hl.1 rfl (lv_room (Nat.le_of_ble_eq_true rfl)) d_W_init_36 ⟨Nat.le_of_ble_eq_true rfl, Nat.le_of_ble_eq_true rfl⟩) (fun r_36 hr_36 => ?_)
  subst hr_36
  refine lv_land hx hb d_W_init_39 ?_
  refine lv_topl (fun y_2 ey_2 => ?_)
  refine pq_top (y := .long (lN (pw_b f h pp))) (by rw [ey_2, pq_mask hY (by omega), hYf]) ?_
  refine va_putF (D := (dC, dI)) (ci := ciW) (v := .long (lN (pw_b f h pp))) (ty := .long) (C := R_W) (T := F_W) (N := 7) hx hb hts (fun w h => List.mem_cons_of_mem _ (in_W w h)) t_W t_W_ok n_W hown hK hP hD hS 0 rfl rfl 3 (by decide) (hts (.fieldLink R_W 32 "PeriodWords$Word" "ringBits" "J") (List.mem_cons_of_mem _ mb_85)) (fun _ h9 => h9) rfl hin rfl (by decide +kernel) rfl rfl (Nat.le_of_ble_eq_true rfl) d_W_init_40 (fun H locs hP hD hS => ?_)
  have hP : va_P (dC, dI) vwCl [(a, .inr (ciW, [.int (nI (h)), .long (lN (pw_b f 0 h)), .int (nI (pp)), .long (lN (pw_b f h pp)), .int (0), .int (0), .null]))] H := hP
  have hD : va_D A [(a, .inr (ciW, [.int (nI (h)), .long (lN (pw_b f 0 h)), .int (nI (pp)), .long (lN (pw_b f h pp)), .int (0), .int (0), .null]))] := hD
  refine lv_aload_n hx hb d_W_init_43 rfl (lv_at hl 0 rfl) ?_
  refine lv_aload_n hx hb d_W_init_44 rfl (lv_at hl 0 rfl) ?_
  refine va_get (D := (dC, dI)) (ci := ciW) (v := .long (lN (pw_b f 0 h))) (C := R_W) (T := F_W) (N := 7) hx hb hts (fun w h => List.mem_cons_of_mem _ (in_W w h)) hown hK hP 0 rfl rfl 1 (by decide) (hts (.fieldLink R_W 19 "PeriodWords$Word" "headBits" "J") (List.mem_cons_of_mem _ mb_81)) (fun _ h9 => h9) rfl d_W_init_45 ?_
  refine vp_callSi (W.runS (As := [.long (lN (pw_b f 0 h))]) (rest := [.ref a]) ⟨hx, hb, hml, hown, hts⟩ (c_bitCount l dC dI (x := pw_b f 0 h) hb064) (va_cwS 1 hts (gd_S mb_67 mb_68 mb_26 mb_69) rfl rfl rfl (by decide +kernel) ⟨Nat.le_of_ble_eq_true rfl, Nat.le_of_ble_eq_true rfl⟩) (pw_R_S pw_P0 (hK.sub [] rfl)) rfl rfl hl.1 rfl (lv_room (Nat.le_of_ble_eq_true rfl)) d_W_init_48 ⟨Nat.le_of_ble_eq_true rfl, Nat.le_of_ble_eq_true rfl⟩) (fun r_48 hr_48 => ?_)
  subst hr_48
  refine pq_top (y := .int (nI (pw_c f h))) (by rw [pq_p_lt (pw_b_lt f 0 h) (by omega), pw_p_c f h h (Nat.le_refl h)]) ?_
  refine va_putF (D := (dC, dI)) (ci := ciW) (v := .int (nI (pw_c f h))) (ty := .int) (C := R_W) (T := F_W) (N := 7) hx hb hts (fun w h => List.mem_cons_of_mem _ (in_W w h)) t_W t_W_ok n_W hown hK hP hD hS 0 rfl rfl 4 (by decide) (hts (.fieldLink R_W 41 "PeriodWords$Word" "headOnes" "I") (List.mem_cons_of_mem _ mb_87)) (fun _ h9 => h9) rfl hin rfl (by decide +kernel) rfl rfl (Nat.le_of_ble_eq_true rfl) d_W_init_51 (fun H locs hP hD hS => ?_)
  have hP : va_P (dC, dI) vwCl [(a, .inr (ciW, [.int (nI (h)), .long (lN (pw_b f 0 h)), .int (nI (pp)), .long (lN (pw_b f h pp)), .int (nI (pw_c f h)), .int (0), .null]))] H := hP
  have hD : va_D A [(a, .inr (ciW, [.int (nI (h)), .long (lN (pw_b f 0 h)), .int (nI (pp)), .long (lN (pw_b f h pp)), .int (nI (pw_c f h)), .int (0), .null]))] := hD
  refine lv_aload_n hx hb d_W_init_54 rfl (lv_at hl 0 rfl) ?_
  refine lv_aload_n hx hb d_W_init_55 rfl (lv_at hl 0 rfl) ?_
  refine va_get (D := (dC, dI)) (ci := ciW) (v := .long (lN (pw_b f h pp))) (C := R_W) (T := F_W) (N := 7) hx hb hts (fun w h => List.mem_cons_of_mem _ (in_W w h)) hown hK hP 0 rfl rfl 3 (by decide) (hts (.fieldLink R_W 32 "PeriodWords$Word" "ringBits" "J") (List.mem_cons_of_mem _ mb_85)) (fun _ h9 => h9) rfl d_W_init_56 ?_
  refine vp_callSi (W.runS (As := [.long (lN (pw_b f h pp))]) (rest := [.ref a]) ⟨hx, hb, hml, hown, hts⟩ (c_bitCount l dC dI (x := pw_b f h pp) hb164) (va_cwS 1 hts (gd_S mb_67 mb_68 mb_26 mb_69) rfl rfl rfl (by decide +kernel) ⟨Nat.le_of_ble_eq_true rfl, Nat.le_of_ble_eq_true rfl⟩) (pw_R_S pw_P0 (hK.sub [] rfl)) rfl rfl hl.1 rfl (lv_room (Nat.le_of_ble_eq_true rfl)) d_W_init_59 ⟨Nat.le_of_ble_eq_true rfl, Nat.le_of_ble_eq_true rfl⟩) (fun r_59 hr_59 => ?_)
  subst hr_59
  refine pq_top (y := .int (nI (pw_o f h pp))) (by rw [pq_p_lt (pw_b_lt f h pp) (by omega), pw_p_o]) ?_
  refine va_putF (D := (dC, dI)) (ci := ciW) (v := .int (nI (pw_o f h pp))) (ty := .int) (C := R_W) (T := F_W) (N := 7) hx hb hts (fun w h => List.mem_cons_of_mem _ (in_W w h)) t_W t_W_ok n_W hown hK hP hD hS 0 rfl rfl 5 (by decide) (hts (.fieldLink R_W 44 "PeriodWords$Word" "ringOnes" "I") (List.mem_cons_of_mem _ mb_89)) (fun _ h9 => h9) rfl hin rfl (by decide +kernel) rfl rfl (Nat.le_of_ble_eq_true rfl) d_W_init_62 (fun H locs hP hD hS => ?_)
  have hP : va_P (dC, dI) vwCl [(a, .inr (ciW, [.int (nI (h)), .long (lN (pw_b f 0 h)), .int (nI (pp)), .long (lN (pw_b f h pp)), .int (nI (pw_c f h)), .int (nI (pw_o f h pp)), .null]))] H := hP
  have hD : va_D A [(a, .inr (ciW, [.int (nI (h)), .long (lN (pw_b f 0 h)), .int (nI (pp)), .long (lN (pw_b f h pp)), .int (nI (pw_c f h)), .int (nI (pw_o f h pp)), .null]))] := hD
  refine lv_aload_n hx hb d_W_init_65 rfl (lv_at hl 0 rfl) ?_
  refine lv_aload_n hx hb d_W_init_66 rfl (lv_at hl 0 rfl) ?_
  refine va_get (D := (dC, dI)) (ci := ciW) (v := .long (lN (pw_b f 0 h))) (C := R_W) (T := F_W) (N := 7) hx hb hts (fun w h => List.mem_cons_of_mem _ (in_W w h)) hown hK hP 0 rfl rfl 1 (by decide) (hts (.fieldLink R_W 19 "PeriodWords$Word" "headBits" "J") (List.mem_cons_of_mem _ mb_81)) (fun _ h9 => h9) rfl d_W_init_67 ?_
  refine lv_aload_n hx hb d_W_init_70 rfl (lv_at hl 0 rfl) ?_
  refine va_get (D := (dC, dI)) (ci := ciW) (v := .long (lN (pw_b f h pp))) (C := R_W) (T := F_W) (N := 7) hx hb hts (fun w h => List.mem_cons_of_mem _ (in_W w h)) hown hK hP 0 rfl rfl 3 (by decide) (hts (.fieldLink R_W 32 "PeriodWords$Word" "ringBits" "J") (List.mem_cons_of_mem _ mb_85)) (fun _ h9 => h9) rfl d_W_init_71 ?_
  have hPc := hP.sub (ws' := []) [] rfl
  have hDc := hD.sub (ws' := []) [] (by decide) rfl
  have hKc := hK.sub (tys' := []) [] rfl
  have hFc := va_free (wc := []) hD hS hA [] rfl
  refine va_callr (va_runS (As := [.long (lN (pw_b f 0 h)), .long (lN (pw_b f h pp))]) (rest := [.ref a]) ⟨hx, hb, hml, hown, hts⟩ (c_W_placesOf l dC dI (h := h) (pp := pp) (f := f) hh hp6) (va_cwS 2 hts (gd_S mb_73 mb_74 mb_24 mb_75) rfl rfl rfl (by decide +kernel) ⟨Nat.le_of_ble_eq_true rfl, Nat.le_of_ble_eq_true rfl⟩) ⟨dr_blind, fun U hU hW => ⟨rfl, by rw [hU], by rw [hU]; exact pw_P0, va_K.moved hW.alike (hK.sub [] rfl)⟩⟩ rfl rfl hl.1 rfl (lv_room (Nat.le_of_ble_eq_true rfl)) d_W_init_74 ⟨Nat.le_of_ble_eq_true rfl, Nat.le_of_ble_eq_true rfl⟩) hS (fun q _ h => hFc q h) hFc (fun u_74 r_74 t_ H1 locs ht_ hvm_ hr_74 hB_ hz1_ hk1_ hS => ?_)
  obtain ⟨hP1_, hK1_, hD1_⟩ := hB_
  rw [ht_] at hP1_
  have hK : va_K (dC, dI) vwCl [(u_74.1, .int)] s := va_K.moved hvm_.symm hK1_
  obtain ⟨hP, hD⟩ := va_join (wr := [(a, .inr (ciW, [.int (nI (h)), .long (lN (pw_b f 0 h)), .int (nI (pp)), .long (lN (pw_b f h pp)), .int (nI (pw_c f h)), .int (nI (pw_o f h pp)), .null]))]) (w1 := [(r_74, .inl (u_74.1, (pw_c f h + pw_o f h pp), .inl u_74.2))]) hP hD [] [0] rfl rfl (by decide) (by decide) hk1_ hFc hP1_ hD1_
  generalize H1 = H at hP hS ⊢
  have hP : va_P (dC, dI) vwCl [(a, .inr (ciW, [.int (nI (h)), .long (lN (pw_b f 0 h)), .int (nI (pp)), .long (lN (pw_b f h pp)), .int (nI (pw_c f h)), .int (nI (pw_o f h pp)), .null])), (r_74, .inl (u_74.1, (pw_c f h + pw_o f h pp), .inl u_74.2))] H := hP
  have hD : va_D A [(a, .inr (ciW, [.int (nI (h)), .long (lN (pw_b f 0 h)), .int (nI (pp)), .long (lN (pw_b f h pp)), .int (nI (pw_c f h)), .int (nI (pw_o f h pp)), .null])), (r_74, .inl (u_74.1, (pw_c f h + pw_o f h pp), .inl u_74.2))] := hD
  refine va_putF (D := (dC, dI)) (ci := ciW) (v := .ref r_74) (ty := .array (.int)) (C := R_W) (T := F_W) (N := 7) hx hb hts (fun w h => List.mem_cons_of_mem _ (in_W w h)) t_W t_W_ok n_W hown hK hP hD hS 0 rfl rfl 6 (by decide) (hts (.fieldLink R_W 51 "PeriodWords$Word" "places" "[I") (List.mem_cons_of_mem _ mb_91)) (fun _ h9 => h9) rfl hin rfl (by decide +kernel) rfl rfl (Nat.le_of_ble_eq_true rfl) d_W_init_77 (fun H locs hP hD hS => ?_)
  have hP : va_P (dC, dI) vwCl [(a, .inr (ciW, [.int (nI (h)), .long (lN (pw_b f 0 h)), .int (nI (pp)), .long (lN (pw_b f h pp)), .int (nI (pw_c f h)), .int (nI (pw_o f h pp)), .ref r_74])), (r_74, .inl (u_74.1, (pw_c f h + pw_o f h pp), .inl u_74.2))] H := hP
  have hD : va_D A [(a, .inr (ciW, [.int (nI (h)), .long (lN (pw_b f 0 h)), .int (nI (pp)), .long (lN (pw_b f h pp)), .int (nI (pw_c f h)), .int (nI (pw_o f h pp)), .ref r_74])), (r_74, .inl (u_74.1, (pw_c f h + pw_o f h pp), .inl u_74.2))] := hD
  exact W.vret hx hb hr (fun t_ ht_ hW_ => ⟨⟨(r_74, u_74.1, u_74.2), rfl, hr_74, by rw [ht_]; exact hP, va_K.moved hW_.alike hK, hD⟩, hS.F ht_⟩) hS.2.2 d_W_init_80
set_option maxHeartbeats 1000000 in
set_option maxRecDepth 100000 in
theorem c_D_init (l : Launch) (dC : Nat → ClassId) (dI : Nat → Nat → Nat) {sz : Nat} {dd hd rd how late a a2 : Nat} : Met l y_D_init ws_D_init ({ frames := 1, cells := 0, slots := 0, locals := 20 } : Room) (md_Pre [.ref dd, .int (nI (how)), .ref a, .ref a2, .int (nI (late)), .int (nI (hd)), .int (nI (rd))] dC dI sz [] [(dd, .inr (ciD, [.int 0, .int 0, .int 0, .null, .null, .int 0]))]) (va_Qv (fun _ => True) (di_B dC dI (va_A [(dd, .inr (ciD, [.int 0, .int 0, .int 0, .null, .null, .int 0]))] sz) dd a a2 hd rd how late) (va_A [(dd, .inr (ciD, [.int 0, .int 0, .int 0, .null, .null, .int 0]))] sz)) 0 0 (va_A [(dd, .inr (ciD, [.int 0, .int 0, .int 0, .null, .null, .int 0]))] sz) := by
  refine Met.ofW (cc := b_D_init) (maxL := 7) (ret := none) (by decide) rfl ?_
  intro p e s m args below meth c s₁ B hml hv
  obtain ⟨rfl, hsz, hP, hK, hD0⟩ := hv
  have hx := B.exec
  have hb := B.bytes
  have hr := B.returns
  have hts := atoms_spec (ws := ws_D_init) B.pre
  have hown : s.vm.findClass R_D = some m.cls := findClass_of_methodNamed B.named
  have hlocks := B.notSynchronized
  subst hsz
  have hD := hD0.self (sz := s.heap.size)
  generalize hAe : va_A [(dd, .inr (ciD, [.int 0, .int 0, .int 0, .null, .null, .int 0]))] s.heap.size = A at hD ⊢
  have hA : ∀ q : Nat, s.heap.size ≤ q → A q := fun q h => by rw [← hAe]; exact Or.inr h
  have hS : va_S A s.heap s.heap [] := va_S.rf
  have hin : meth.name = "<init>" := (name_of_methodNamed B.named B.method).1
  have hl := lv_entry ([.ref dd, .int (nI (how)), .ref a, .ref a2, .int (nI (late)), .int (nI (hd)), .int (nI (rd))]) (n := 7) (Nat.le_of_ble_eq_true rfl)
  rw [lg_entry_eq]
  generalize (lg_sl ([.ref dd, .int (nI (how)), .ref a, .ref a2, .int (nI (late)), .int (nI (hd)), .int (nI (rd))]) ++ List.replicate (7 - (lg_sl ([.ref dd, .int (nI (how)), .ref a, .ref a2, .int (nI (late)), .int (nI (hd)), .int (nI (rd))])).length) Slot.unset).toArray = ls at hl ⊢
  have hl : lv_has ls 7 [(0, .ref dd), (1, .int (nI (how))), (2, .ref a), (3, .ref a2), (4, .int (nI (late))), (5, .int (nI (hd))), (6, .int (nI (rd)))] := hl
  refine lv_aload_n hx hb d_D_init_0 rfl (lv_at hl 0 rfl) ?_
  refine W.objInit hx hb hown (hts (.methodLink R_D 3 objectInit) (List.mem_cons_of_mem _ mb_119)) (hts (.instanceMethod objectInit) (List.mem_cons_of_mem _ mb_41)) (hts (.code objectInit ⟨#[0xb1]⟩ 1 none) (List.mem_cons_of_mem _ mb_42)) rfl (by rw [hml]; exact hl.1) rfl d_D_init_1 (Nat.le_of_ble_eq_true rfl) (Nat.le_of_ble_eq_true rfl) ?_
  refine W.eq (g2 := F0 m 4 ls []) rfl ?_
  refine lv_aload_n hx hb d_D_init_4 rfl (lv_at hl 0 rfl) ?_
  refine lv_iload_n hx hb d_D_init_5 rfl (lv_at hl 1 rfl) ?_
  refine va_putF (D := (dC, dI)) (ci := ciD) (v := .int (nI (how))) (ty := .int) (C := R_D) (T := F_D) (N := 6) hx hb hts (fun w h => List.mem_cons_of_mem _ (in_D w h)) t_D t_D_ok n_D hown hK hP hD hS 0 rfl rfl 2 (by decide) (hts (.fieldLink R_D 9 "PeriodWords$Draft" "how" "I") (List.mem_cons_of_mem _ mb_124)) (fun _ h9 => h9) rfl hin rfl (by decide +kernel) rfl rfl (Nat.le_of_ble_eq_true rfl) d_D_init_6 (fun H locs hP hD hS => ?_)
  have hP : va_P (dC, dI) vwCl [(dd, .inr (ciD, [.int (0), .int (0), .int (nI (how)), .null, .null, .int (0)]))] H := hP
  have hD : va_D A [(dd, .inr (ciD, [.int (0), .int (0), .int (nI (how)), .null, .null, .int (0)]))] := hD
  refine lv_aload_n hx hb d_D_init_9 rfl (lv_at hl 0 rfl) ?_
  refine lv_aload_n hx hb d_D_init_10 rfl (lv_at hl 2 rfl) ?_
  refine va_putF (D := (dC, dI)) (ci := ciD) (v := .ref a) (ty := .object "PeriodWords$Word") (C := R_D) (T := F_D) (N := 6) hx hb hts (fun w h => List.mem_cons_of_mem _ (in_D w h)) t_D t_D_ok n_D hown hK hP hD hS 0 rfl rfl 3 (by decide) (hts (.fieldLink R_D 15 "PeriodWords$Draft" "a" "LPeriodWords$Word;") (List.mem_cons_of_mem _ mb_125)) (fun _ h9 => h9) rfl hin rfl (by decide +kernel) rfl rfl (Nat.le_of_ble_eq_true rfl) d_D_init_11 (fun H locs hP hD hS => ?_)
  have hP : va_P (dC, dI) vwCl [(dd, .inr (ciD, [.int (0), .int (0), .int (nI (how)), .ref a, .null, .int (0)]))] H := hP
  have hD : va_D A [(dd, .inr (ciD, [.int (0), .int (0), .int (nI (how)), .ref a, .null, .int (0)]))] := hD
  refine lv_aload_n hx hb d_D_init_14 rfl (lv_at hl 0 rfl) ?_
  refine lv_aload_n hx hb d_D_init_15 rfl (lv_at hl 3 rfl) ?_
  refine va_putF (D := (dC, dI)) (ci := ciD) (v := .ref a2) (ty := .object "PeriodWords$Word") (C := R_D) (T := F_D) (N := 6) hx hb hts (fun w h => List.mem_cons_of_mem _ (in_D w h)) t_D t_D_ok n_D hown hK hP hD hS 0 rfl rfl 4 (by decide) (hts (.fieldLink R_D 19 "PeriodWords$Draft" "b" "LPeriodWords$Word;") (List.mem_cons_of_mem _ mb_126)) (fun _ h9 => h9) rfl hin rfl (by decide +kernel) rfl rfl (Nat.le_of_ble_eq_true rfl) d_D_init_16 (fun H locs hP hD hS => ?_)
  have hP : va_P (dC, dI) vwCl [(dd, .inr (ciD, [.int (0), .int (0), .int (nI (how)), .ref a, .ref a2, .int (0)]))] H := hP
  have hD : va_D A [(dd, .inr (ciD, [.int (0), .int (0), .int (nI (how)), .ref a, .ref a2, .int (0)]))] := hD
  refine lv_aload_n hx hb d_D_init_19 rfl (lv_at hl 0 rfl) ?_
  refine lv_iload hx hb d_D_init_20 (lv_at hl 4 rfl) ?_
  refine va_putF (D := (dC, dI)) (ci := ciD) (v := .int (nI (late))) (ty := .int) (C := R_D) (T := F_D) (N := 6) hx hb hts (fun w h => List.mem_cons_of_mem _ (in_D w h)) t_D t_D_ok n_D hown hK hP hD hS 0 rfl rfl 5 (by decide) (hts (.fieldLink R_D 22 "PeriodWords$Draft" "late" "I") (List.mem_cons_of_mem _ mb_127)) (fun _ h9 => h9) rfl hin rfl (by decide +kernel) rfl rfl (Nat.le_of_ble_eq_true rfl) d_D_init_22 (fun H locs hP hD hS => ?_)
  have hP : va_P (dC, dI) vwCl [(dd, .inr (ciD, [.int (0), .int (0), .int (nI (how)), .ref a, .ref a2, .int (nI (late))]))] H := hP
  have hD : va_D A [(dd, .inr (ciD, [.int (0), .int (0), .int (nI (how)), .ref a, .ref a2, .int (nI (late))]))] := hD
  refine lv_aload_n hx hb d_D_init_25 rfl (lv_at hl 0 rfl) ?_
  refine lv_iload hx hb d_D_init_26 (lv_at hl 5 rfl) ?_
  refine va_putF (D := (dC, dI)) (ci := ciD) (v := .int (nI (hd))) (ty := .int) (C := R_D) (T := F_D) (N := 6) hx hb hts (fun w h => List.mem_cons_of_mem _ (in_D w h)) t_D t_D_ok n_D hown hK hP hD hS 0 rfl rfl 0 (by decide) (hts (.fieldLink R_D 25 "PeriodWords$Draft" "headLength" "I") (List.mem_cons_of_mem _ mb_120)) (fun _ h9 => h9) rfl hin rfl (by decide +kernel) rfl rfl (Nat.le_of_ble_eq_true rfl) d_D_init_28 (fun H locs hP hD hS => ?_)
  have hP : va_P (dC, dI) vwCl [(dd, .inr (ciD, [.int (nI (hd)), .int (0), .int (nI (how)), .ref a, .ref a2, .int (nI (late))]))] H := hP
  have hD : va_D A [(dd, .inr (ciD, [.int (nI (hd)), .int (0), .int (nI (how)), .ref a, .ref a2, .int (nI (late))]))] := hD
  refine lv_aload_n hx hb d_D_init_31 rfl (lv_at hl 0 rfl) ?_
  refine lv_iload hx hb d_D_init_32 (lv_at hl 6 rfl) ?_
  refine va_putF (D := (dC, dI)) (ci := ciD) (v := .int (nI (rd))) (ty := .int) (C := R_D) (T := F_D) (N := 6) hx hb hts (fun w h => List.mem_cons_of_mem _ (in_D w h)) t_D t_D_ok n_D hown hK hP hD hS 0 rfl rfl 1 (by decide) (hts (.fieldLink R_D 28 "PeriodWords$Draft" "ringLength" "I") (List.mem_cons_of_mem _ mb_122)) (fun _ h9 => h9) rfl hin rfl (by decide +kernel) rfl rfl (Nat.le_of_ble_eq_true rfl) d_D_init_34 (fun H locs hP hD hS => ?_)
  have hP : va_P (dC, dI) vwCl [(dd, .inr (ciD, [.int (nI (hd)), .int (nI (rd)), .int (nI (how)), .ref a, .ref a2, .int (nI (late))]))] H := hP
  have hD : va_D A [(dd, .inr (ciD, [.int (nI (hd)), .int (nI (rd)), .int (nI (how)), .ref a, .ref a2, .int (nI (late))]))] := hD
  exact W.vret hx hb hr (fun t_ ht_ hW_ => ⟨⟨(), rfl, trivial, by rw [ht_]; exact hP, va_K.moved hW_.alike hK, hD⟩, hS.F ht_⟩) hS.2.2 d_D_init_37
