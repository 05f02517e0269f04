set_option maxHeartbeats 4000000 in
set_option maxRecDepth 100000 in
theorem c_M_word (l : Launch) (dC : Nat → ClassId) (dI : Nat → Nat → Nat) {sz : Nat} {o a1 a2 a3 a4 a5 : Nat} {c1 c2 c3 c4 c5 : ClassId} {th mo le : Int32} {n : Nat} {xh yr : Nat → Int32} {xb yb : Nat → Int64} {bs : Nat → Int32} (hn : n ≤ 40) {x y z v : Int32} : Met l y_M_word ws_M_word ({ frames := 2, cells := 0, slots := 0, locals := 49 } : Room) (md_Pre [.ref o, .int (x), .int (y), .int (z), .int (v)] dC dI sz (mdT c1 c2 c3 c4 c5) (md o a1 a2 a3 a4 a5 c1 c2 c3 c4 c5 th n mo le xh yr xb yb bs)) (va_Qi (fun r u => (∃ h p, sp_wdv n x z h p ∧ md_set (wf h y p v) n xh yr xb yb r u ∧ u.1 = nI 0) ∨ ((¬ ∃ h p, sp_wdv n x z h p) ∧ r = -1 ∧ u = (nI 0, n, mo, le, xh, yr, xb, yb, bs))) (md_B dC dI (va_A (md o a1 a2 a3 a4 a5 c1 c2 c3 c4 c5 th n mo le xh yr xb yb bs) sz) o a1 a2 a3 a4 a5 c1 c2 c3 c4 c5) (va_A (md o a1 a2 a3 a4 a5 c1 c2 c3 c4 c5 th n mo le xh yr xb yb bs) sz)) 0 0 (va_A (md o a1 a2 a3 a4 a5 c1 c2 c3 c4 c5 th n mo le xh yr xb yb bs) sz) := by
  refine Met.ofW (cc := b_M_word) (maxL := 6) (ret := (some .int)) (by decide) rfl ?_
  intro p e s m args below meth c s₁ B hml hv
  obtain ⟨rfl, hsz, hP, hK, hD0⟩ := hv
  have hx := B.exec
  have hb := B.bytes
  have hr := B.returns
  have hts := atoms_spec (ws := ws_M_word) B.pre
  have hown : s.vm.findClass R_M = some m.cls := findClass_of_methodNamed B.named
  have hlocks := B.notSynchronized
  subst hsz
  have hD := hD0.self (sz := s.heap.size)
  generalize hAe : va_A (md o a1 a2 a3 a4 a5 c1 c2 c3 c4 c5 th n mo le xh yr xb yb bs) s.heap.size = A at hD ⊢
  have hA : ∀ q : Nat, s.heap.size ≤ q → A q := fun q h => by rw [← hAe]; exact Or.inr h
  have hS : va_S A s.heap s.heap [] := va_S.rf
  have hl := lv_entry ([.ref o, .int (x), .int (y), .int (z), .int (v)]) (n := 6) (Nat.le_of_ble_eq_true rfl)
  rw [lg_entry_eq]
  generalize (lg_sl ([.ref o, .int (x), .int (y), .int (z), .int (v)]) ++ List.replicate (6 - (lg_sl ([.ref o, .int (x), .int (y), .int (z), .int (v)])).length) Slot.unset).toArray = ls at hl ⊢
  have hl : lv_has ls 6 [(0, .ref o), (1, .int (x)), (2, .int (y)), (3, .int (z)), (4, .int (v))] := hl
  refine lv_aload_n hx hb d_M_word_0 rfl (lv_at hl 0 rfl) ?_
  refine lv_iconst (v := nI 0) hx hb d_M_word_1 (by decide) ?_
  refine va_put (D := (dC, dI)) (ci := ciM) (v := .int (nI (0))) (ty := .int) (C := R_M) (T := F_M) (N := 9) hx hb hts (fun w h => List.mem_cons_of_mem _ (in_M w h)) t_M t_M_ok n_M hown hK hP hD hS 0 rfl rfl 0 (by decide) (hts (.fieldLink R_M 27 "PeriodWordsModel" "thrown" "I") (List.mem_cons_of_mem _ mb_383)) (fun _ h9 => h9) rfl (by decide +kernel) rfl rfl (Nat.le_of_ble_eq_true rfl) d_M_word_2 (fun H locs hP hD hS => ?_)
  have hP : va_P (dC, dI) vwCl [(o, .inr (ciM, [.int (nI (0)), .int (nI (n)), .ref a1, .ref a2, .ref a3, .ref a4, .ref a5, .int (mo), .int (le)])), (a1, .inl (c1, 40, .inl xh)), (a2, .inl (c2, 40, .inl yr)), (a3, .inl (c3, 40, .inr (.inl xb))), (a4, .inl (c4, 40, .inr (.inl yb))), (a5, .inl (c5, 7400, .inl bs))] H := hP
  have hD : va_D A [(o, .inr (ciM, [.int (nI (0)), .int (nI (n)), .ref a1, .ref a2, .ref a3, .ref a4, .ref a5, .int (mo), .int (le)])), (a1, .inl (c1, 40, .inl xh)), (a2, .inl (c2, 40, .inl yr)), (a3, .inl (c3, 40, .inr (.inl xb))), (a4, .inl (c4, 40, .inr (.inl yb))), (a5, .inl (c5, 7400, .inl bs))] := hD
  refine lv_iload_n hx hb d_M_word_5 rfl (lv_at hl 1 rfl) ?_
  refine lv_iconst (v := nI 0) hx hb d_M_word_6 (by decide) ?_
  refine lv_bipush (v := nI 30) hx hb d_M_word_7 (by decide) ?_
  refine vp_callSi (W.runS (As := [.int (x), .int (nI (0)), .int (nI (30))]) (rest := []) ⟨hx, hb, hml, hown, hts⟩ (c_M_in l dC dI (x := x) (lo := nI 0) (hi := nI 30)) (va_cwS 3 hts (gd_S mb_421 mb_422 mb_23 mb_423) rfl rfl rfl (by decide +kernel) ⟨Nat.le_of_ble_eq_true rfl, Nat.le_of_ble_eq_true rfl⟩) (pw_R_S pw_P0 (hK.sub [] rfl)) rfl rfl hl.1 rfl (lv_room (Nat.le_of_ble_eq_true rfl)) d_M_word_9 ⟨Nat.le_of_ble_eq_true rfl, Nat.le_of_ble_eq_true rfl⟩) (fun r_9 hr_9 => ?_)
  rcases hr_9 with ⟨hre, hlo, hhi⟩ | ⟨hre, hnin⟩
  · subst hre
    obtain ⟨h, hh, hxh⟩ := pq_in_of (by decide) hlo hhi
    rw [hxh] at hl
    refine pq_if_eq (tgt := 34) (a := 1) hx hb d_M_word_12 (by decide) (by omega) (fun c_12 => absurd c_12 (by omega)) (fun c_12 => ?_)
    refine lv_iload_n hx hb d_M_word_15 rfl (lv_at hl 3 rfl) ?_
    refine lv_iconst (v := nI 1) hx hb d_M_word_16 (by decide) ?_
    refine lv_bipush (v := nI 30) hx hb d_M_word_17 (by decide) ?_
    refine vp_callSi (W.runS (As := [.int (z), .int (nI (1)), .int (nI (30))]) (rest := []) ⟨hx, hb, hml, hown, hts⟩ (c_M_in l dC dI (x := z) (lo := nI 1) (hi := nI 30)) (va_cwS 3 hts (gd_S mb_421 mb_422 mb_23 mb_423) rfl rfl rfl (by decide +kernel) ⟨Nat.le_of_ble_eq_true rfl, Nat.le_of_ble_eq_true rfl⟩) (pw_R_S pw_P0 (hK.sub [] rfl)) rfl rfl hl.1 rfl (lv_room (Nat.le_of_ble_eq_true rfl)) d_M_word_19 ⟨Nat.le_of_ble_eq_true rfl, Nat.le_of_ble_eq_true rfl⟩) (fun r_19 hr_19 => ?_)
    rcases hr_19 with ⟨hre, hlo, hhi⟩ | ⟨hre, hnin⟩
    · subst hre
      obtain ⟨p9, hp0, hp6, hzp⟩ := pq_in_1 (by decide) hlo hhi
      rw [hzp] at hl
      obtain ⟨F, hF⟩ : ∃ F, F = wf h y p9 v := ⟨_, rfl⟩
      refine pq_if_eq (tgt := 34) (a := 1) hx hb d_M_word_22 (by decide) (by omega) (fun c_22 => absurd c_22 (by omega)) (fun c_22 => ?_)
      refine lv_aload_n hx hb d_M_word_25 rfl (lv_at hl 0 rfl) ?_
      refine va_get (D := (dC, dI)) (ci := ciM) (v := .int (nI (n))) (C := R_M) (T := F_M) (N := 9) hx hb hts (fun w h => List.mem_cons_of_mem _ (in_M w h)) hown hK hP 0 rfl rfl 1 (by decide) (hts (.fieldLink R_M 31 "PeriodWordsModel" "words" "I") (List.mem_cons_of_mem _ mb_384)) (fun _ h9 => h9) rfl d_M_word_26 ?_
      refine lv_bipush (v := nI 40) hx hb d_M_word_29 (by decide) ?_
      refine pq_icmp_ne (tgt := 36) (a := n) (b := 40) hx hb d_M_word_31 (by decide) (by omega) (by omega) (fun c_31 => ?_) (fun c_31 => ?_)
      · refine lv_iconst (v := nI 0) hx hb d_M_word_36 (by decide) ?_
        refine lv_istore (lv' := [(5, .int (nI (0))), (0, .ref o), (1, .int (nI (h))), (2, .int (y)), (3, .int (nI (p9))), (4, .int (v))]) hx hb d_M_word_37 hl (by decide) rfl (fun ls hl => ?_)
        have B_39 : ∀ (k_ : Nat) (k : Nat) (bz : Nat → Int32) (H : Heap) (locs : List Loc) (ls : Array Slot), (h - k) < k_ → (k ≤ h) → (∀ j, j < k → bz j = nI (wf h y p9 v j).toNat) → (va_P (dC, dI) vwCl [(o, .inr (ciM, [.int (nI (0)), .int (nI (n)), .ref a1, .ref a2, .ref a3, .ref a4, .ref a5, .int (mo), .int (le)])), (a1, .inl (c1, 40, .inl xh)), (a2, .inl (c2, 40, .inl yr)), (a3, .inl (c3, 40, .inr (.inl xb))), (a4, .inl (c4, 40, .inr (.inl yb))), (a5, .inl (c5, 7400, .inl bz))] H) → (va_D A [(o, .inr (ciM, [.int (nI (0)), .int (nI (n)), .ref a1, .ref a2, .ref a3, .ref a4, .ref a5, .int (mo), .int (le)])), (a1, .inl (c1, 40, .inl xh)), (a2, .inl (c2, 40, .inl yr)), (a3, .inl (c3, 40, .inr (.inl xb))), (a4, .inl (c4, 40, .inr (.inl yb))), (a5, .inl (c5, 7400, .inl bz))]) → (va_S A s.heap H locs) → lv_has ls 6 [(0, .ref o), (1, .int (nI (h))), (2, .int (y)), (3, .int (nI (p9))), (4, .int (v)), (5, .int (nI (k)))] → W p l e (headSpec ws_M_word ({ frames := 2, cells := 0, slots := 0, locals := 49 } : Room)).room s m ([.ref o, .int (x), .int (y), .int (z), .int (v)]).toArray below meth c H locs 0 0 (MQ below (va_Qi (fun r u => (∃ h p, sp_wdv n x z h p ∧ md_set (wf h y p v) n xh yr xb yb r u ∧ u.1 = nI 0) ∨ ((¬ ∃ h p, sp_wdv n x z h p) ∧ r = -1 ∧ u = (nI 0, n, mo, le, xh, yr, xb, yb, bs))) (md_B dC dI A o a1 a2 a3 a4 a5 c1 c2 c3 c4 c5) A) ([.ref o, .int (x), .int (y), .int (z), .int (v)]).toArray s 0 0 A) (F0 m 39 ls []) := by
          intro k_
          induction k_ with
          | zero => intro k bz H locs ls h_; omega
          | succ k_ ih_39 =>
            intro k bz H locs ls hm_ hk hbz hP hD hS hl
            refine lv_iload hx hb d_M_word_39 (lv_at hl 5 rfl) ?_
            refine lv_iload_n hx hb d_M_word_41 rfl (lv_at hl 1 rfl) ?_
            refine pq_icmp_ge (tgt := 73) (a := k) (b := h) hx hb d_M_word_42 (by decide) (by omega) (by omega) (fun c_42 => ?_) (fun c_42 => ?_)
            · refine lv_iconst (v := nI 0) hx hb d_M_word_73 (by decide) ?_
              refine lv_istore (lv' := [(5, .int (nI (0))), (0, .ref o), (1, .int (nI (h))), (2, .int (y)), (3, .int (nI (p9))), (4, .int (v))]) hx hb d_M_word_74 hl (by decide) rfl (fun ls hl => ?_)
              have B_76 : ∀ (k_ : Nat) (k : Nat) (bz : Nat → Int32) (H : Heap) (locs : List Loc) (ls : Array Slot), (p9 - k) < k_ → (k ≤ p9) → (∀ j, j < h + k → bz j = nI (wf h y p9 v j).toNat) → (va_P (dC, dI) vwCl [(o, .inr (ciM, [.int (nI (0)), .int (nI (n)), .ref a1, .ref a2, .ref a3, .ref a4, .ref a5, .int (mo), .int (le)])), (a1, .inl (c1, 40, .inl xh)), (a2, .inl (c2, 40, .inl yr)), (a3, .inl (c3, 40, .inr (.inl xb))), (a4, .inl (c4, 40, .inr (.inl yb))), (a5, .inl (c5, 7400, .inl bz))] H) → (va_D A [(o, .inr (ciM, [.int (nI (0)), .int (nI (n)), .ref a1, .ref a2, .ref a3, .ref a4, .ref a5, .int (mo), .int (le)])), (a1, .inl (c1, 40, .inl xh)), (a2, .inl (c2, 40, .inl yr)), (a3, .inl (c3, 40, .inr (.inl xb))), (a4, .inl (c4, 40, .inr (.inl yb))), (a5, .inl (c5, 7400, .inl bz))]) → (va_S A s.heap H locs) → lv_has ls 6 [(0, .ref o), (1, .int (nI (h))), (2, .int (y)), (3, .int (nI (p9))), (4, .int (v)), (5, .int (nI (k)))] → W p l e (headSpec ws_M_word ({ frames := 2, cells := 0, slots := 0, locals := 49 } : Room)).room s m ([.ref o, .int (x), .int (y), .int (z), .int (v)]).toArray below meth c H locs 0 0 (MQ below (va_Qi (fun r u => (∃ h p, sp_wdv n x z h p ∧ md_set (wf h y p v) n xh yr xb yb r u ∧ u.1 = nI 0) ∨ ((¬ ∃ h p, sp_wdv n x z h p) ∧ r = -1 ∧ u = (nI 0, n, mo, le, xh, yr, xb, yb, bs))) (md_B dC dI A o a1 a2 a3 a4 a5 c1 c2 c3 c4 c5) A) ([.ref o, .int (x), .int (y), .int (z), .int (v)]).toArray s 0 0 A) (F0 m 76 ls []) := by
                intro k_
                induction k_ with
                | zero => intro k bz H locs ls h_; omega
                | succ k_ ih_76 =>
                  intro k bz H locs ls hm_ hk hbz2 hP hD hS hl
                  refine lv_iload hx hb d_M_word_76 (lv_at hl 5 rfl) ?_
                  refine lv_iload_n hx hb d_M_word_78 rfl (lv_at hl 3 rfl) ?_
                  refine pq_icmp_ge (tgt := 113) (a := k) (b := p9) hx hb d_M_word_79 (by decide) (by omega) (by omega) (fun c_79 => ?_) (fun c_79 => ?_)
                  · refine lv_aload_n hx hb d_M_word_113 rfl (lv_at hl 0 rfl) ?_
                    refine lv_iload_n hx hb d_M_word_114 rfl (lv_at hl 1 rfl) ?_
                    refine lv_iload_n hx hb d_M_word_115 rfl (lv_at hl 3 rfl) ?_
                    have hFc := va_free (wc := [(o, .inr (ciM, [.int (nI (0)), .int (nI (n)), .ref a1, .ref a2, .ref a3, .ref a4, .ref a5, .int (mo), .int (le)])), (a1, .inl (c1, 40, .inl xh)), (a2, .inl (c2, 40, .inl yr)), (a3, .inl (c3, 40, .inr (.inl xb))), (a4, .inl (c4, 40, .inr (.inl yb))), (a5, .inl (c5, 7400, .inl bz))]) hD hS hA [0, 1, 2, 3, 4, 5] rfl
                    refine va_calli (va_runV (As := [.int (nI (h)), .int (nI (p9))]) (rest := []) ⟨hx, hb, hml, hown, hts⟩ (c_M_settle l dC dI (F := wf h y p9 v) (fun j hj => hbz2 j (by omega)) (by omega) hp0 (wf_E h y p9 v) (by omega)) (cwV 2 hts (gd_V mb_424 mb_426 mb_3 mb_23 mb_427) rfl rfl rfl (by decide +kernel) ⟨Nat.le_of_ble_eq_true rfl, Nat.le_of_ble_eq_true rfl⟩) ⟨md_blind, va_recv hK hP (ci := ciM) (q0 := 0) rfl rfl, fun U hU hW => ⟨rfl, by rw [hU], by rw [hU]; exact hP, va_K.moved hW.alike hK, hD.weaken (fun _ _ _ _ => trivial)⟩⟩ rfl rfl hl.1 rfl (lv_room (Nat.le_of_ble_eq_true rfl)) d_M_word_116 ⟨Nat.le_of_ble_eq_true rfl, Nat.le_of_ble_eq_true rfl⟩) hS (fun q _ h => hFc q h) hFc (fun r_116 u_116 t_ H1 locs ht_ hvm_ hr_116 hB_ hz1_ hk1_ hS => ?_)
                    obtain ⟨hP1_, hK1_, hD1_⟩ := hB_
                    rw [ht_] at hP1_
                    clear hP hD
                    have hP := hP1_
                    have hD := hD1_.weaken (fun k q _ h => hFc q.1 h)
                    generalize H1 = H at hP hS ⊢
                    have hP : va_P (dC, dI) vwCl [(o, .inr (ciM, [.int (u_116.1), .int (nI (u_116.2.1)), .ref a1, .ref a2, .ref a3, .ref a4, .ref a5, .int (u_116.2.2.1), .int (u_116.2.2.2.1)])), (a1, .inl (c1, 40, .inl u_116.2.2.2.2.1)), (a2, .inl (c2, 40, .inl u_116.2.2.2.2.2.1)), (a3, .inl (c3, 40, .inr (.inl u_116.2.2.2.2.2.2.1))), (a4, .inl (c4, 40, .inr (.inl u_116.2.2.2.2.2.2.2.1))), (a5, .inl (c5, 7400, .inl u_116.2.2.2.2.2.2.2.2))] H := hP
                    have hD : va_D A [(o, .inr (ciM, [.int (u_116.1), .int (nI (u_116.2.1)), .ref a1, .ref a2, .ref a3, .ref a4, .ref a5, .int (u_116.2.2.1), .int (u_116.2.2.2.1)])), (a1, .inl (c1, 40, .inl u_116.2.2.2.2.1)), (a2, .inl (c2, 40, .inl u_116.2.2.2.2.2.1)), (a3, .inl (c3, 40, .inr (.inl u_116.2.2.2.2.2.2.1))), (a4, .inl (c4, 40, .inr (.inl u_116.2.2.2.2.2.2.2.1))), (a5, .inl (c5, 7400, .inl u_116.2.2.2.2.2.2.2.2))] := hD
                    exact W.iret (v := (r_116)) hx hb hr (fun t_ ht_ hW_ => ⟨⟨_, u_116, rfl, Or.inl ⟨h, p9, ⟨by omega, hh, hp0, hp6, hxh, hzp⟩, hr_116.1, hr_116.2⟩, by rw [ht_]; exact hP, va_K.moved hW_.alike hK, hD⟩, hS.F ht_⟩) hS.2.2 d_M_word_119
                  · have B_106 : ∀ (xx : Nat) (H : Heap) (locs : List Loc) (ls : Array Slot), (xx = (wf h y p9 v (h + k)).toNat) → (va_P (dC, dI) vwCl [(o, .inr (ciM, [.int (nI (0)), .int (nI (n)), .ref a1, .ref a2, .ref a3, .ref a4, .ref a5, .int (mo), .int (le)])), (a1, .inl (c1, 40, .inl xh)), (a2, .inl (c2, 40, .inl yr)), (a3, .inl (c3, 40, .inr (.inl xb))), (a4, .inl (c4, 40, .inr (.inl yb))), (a5, .inl (c5, 7400, .inl bz))] H) → (va_D A [(o, .inr (ciM, [.int (nI (0)), .int (nI (n)), .ref a1, .ref a2, .ref a3, .ref a4, .ref a5, .int (mo), .int (le)])), (a1, .inl (c1, 40, .inl xh)), (a2, .inl (c2, 40, .inl yr)), (a3, .inl (c3, 40, .inr (.inl xb))), (a4, .inl (c4, 40, .inr (.inl yb))), (a5, .inl (c5, 7400, .inl bz))]) → (va_S A s.heap H locs) → lv_has ls 6 [(0, .ref o), (1, .int (nI (h))), (2, .int (y)), (3, .int (nI (p9))), (4, .int (v)), (5, .int (nI (k)))] → W p l e (headSpec ws_M_word ({ frames := 2, cells := 0, slots := 0, locals := 49 } : Room)).room s m ([.ref o, .int (x), .int (y), .int (z), .int (v)]).toArray below meth c H locs 0 0 (MQ below (va_Qi (fun r u => (∃ h p, sp_wdv n x z h p ∧ md_set (wf h y p v) n xh yr xb yb r u ∧ u.1 = nI 0) ∨ ((¬ ∃ h p, sp_wdv n x z h p) ∧ r = -1 ∧ u = (nI 0, n, mo, le, xh, yr, xb, yb, bs))) (md_B dC dI A o a1 a2 a3 a4 a5 c1 c2 c3 c4 c5) A) ([.ref o, .int (x), .int (y), .int (z), .int (v)]).toArray s 0 0 A) (F0 m 106 ls [.int (nI (xx)), .int (nI (h + k)), .ref a5]) := by
                      intro xx H locs ls hx2 hP hD hS hl
                      refine va_zast hx hb hK hP hD hS 5 4 rfl rfl (vp_in_nI (n := (h + k)) (by omega) (by omega)) d_M_word_106 (fun H locs hP hD hS => ?_)
                      rw [pq_cl (by omega)] at hP hD
                      have hP : va_P (dC, dI) vwCl [(o, .inr (ciM, [.int (nI (0)), .int (nI (n)), .ref a1, .ref a2, .ref a3, .ref a4, .ref a5, .int (mo), .int (le)])), (a1, .inl (c1, 40, .inl xh)), (a2, .inl (c2, 40, .inl yr)), (a3, .inl (c3, 40, .inr (.inl xb))), (a4, .inl (c4, 40, .inr (.inl yb))), (a5, .inl (c5, 7400, .inl (upd bz (h + k) (vp_nar .boolean (nI (xx))))))] H := hP
                      have hD : va_D A [(o, .inr (ciM, [.int (nI (0)), .int (nI (n)), .ref a1, .ref a2, .ref a3, .ref a4, .ref a5, .int (mo), .int (le)])), (a1, .inl (c1, 40, .inl xh)), (a2, .inl (c2, 40, .inl yr)), (a3, .inl (c3, 40, .inr (.inl xb))), (a4, .inl (c4, 40, .inr (.inl yb))), (a5, .inl (c5, 7400, .inl (upd bz (h + k) (vp_nar .boolean (nI (xx))))))] := hD
                      refine lv_iinc (v := nI (k + 1)) (lv' := [(5, .int (nI (k + 1))), (0, .ref o), (1, .int (nI (h))), (2, .int (y)), (3, .int (nI (p9))), (4, .int (v))]) hx hb d_M_word_107 hl (k := 5) rfl (pq_inc _) (by decide) rfl (fun ls hl => ?_)
                      refine lv_goto (tgt := 76) hx hb d_M_word_110 (by decide) ?_
                      exact ih_76 (k + 1) (upd bz (h + k) (vp_nar .boolean (nI (xx)))) _ _ ls (by omega) (by omega) (md_put hbz2 hx2) hP hD hS (lv_sub hl [1, 2, 3, 4, 5, 0] rfl)
                    refine lv_aload_n hx hb d_M_word_82 rfl (lv_at hl 0 rfl) ?_
                    refine va_get (D := (dC, dI)) (ci := ciM) (v := .ref a5) (C := R_M) (T := F_M) (N := 9) hx hb hts (fun w h => List.mem_cons_of_mem _ (in_M w h)) hown hK hP 0 rfl rfl 6 (by decide) (hts (.fieldLink R_M 23 "PeriodWordsModel" "bits" "[Z") (List.mem_cons_of_mem _ mb_389)) (fun _ h9 => h9) rfl d_M_word_83 ?_
                    refine lv_iload_n hx hb d_M_word_86 rfl (lv_at hl 1 rfl) ?_
                    refine lv_iload hx hb d_M_word_87 (lv_at hl 5 rfl) ?_
                    refine pq_iadd (a := h) (b := k) hx hb d_M_word_89 ?_
                    refine lv_iload hx hb d_M_word_90 (lv_at hl 4 rfl) ?_
                    refine lv_iload hx hb d_M_word_92 (lv_at hl 5 rfl) ?_
                    refine lv_ishr hx hb d_M_word_94 ?_
                    refine lv_topi (fun x_1 ex_1 => ?_)
                    refine pq_top (y := .int (v >>> (nI k &&& 31))) (by rw [ex_1]) ?_
                    refine lv_iconst (v := nI 1) hx hb d_M_word_95 (by decide) ?_
                    refine lv_iand hx hb d_M_word_96 ?_
                    refine lv_topi (fun x_2 ex_2 => ?_)
                    refine pq_top (y := .int (nI ((v.toBitVec.getLsbD k).toNat))) (by rw [ex_2, pq_ib v (by omega)]) ?_
                    refine lv_iconst (v := nI 1) hx hb d_M_word_97 (by decide) ?_
                    refine pq_icmp_ne (tgt := 105) (a := ((v.toBitVec.getLsbD k).toNat)) (b := 1) hx hb d_M_word_98 (by decide) (by have := pw_lt2 (v.toBitVec.getLsbD k); omega) (by omega) (fun c_98 => ?_) (fun c_98 => ?_)
                    · refine lv_iconst (v := nI 0) hx hb d_M_word_105 (by decide) ?_
                      exact B_106 (0) _ _ ls (by show _ = (if h + k < h then _ else v.toBitVec.getLsbD ((h + k - h) % p9)).toNat; rw [if_neg (by omega), Nat.add_sub_cancel_left, Nat.mod_eq_of_lt (by omega)]; have := pw_lt2 (v.toBitVec.getLsbD k); omega) hP hD hS (lv_sub hl [0, 1, 2, 3, 4, 5] rfl)
                    · refine lv_iconst (v := nI 1) hx hb d_M_word_101 (by decide) ?_
                      refine lv_goto (tgt := 106) hx hb d_M_word_102 (by decide) ?_
                      exact B_106 (1) _ _ ls (by show _ = (if h + k < h then _ else v.toBitVec.getLsbD ((h + k - h) % p9)).toNat; rw [if_neg (by omega), Nat.add_sub_cancel_left, Nat.mod_eq_of_lt (by omega)]; have := pw_lt2 (v.toBitVec.getLsbD k); omega) hP hD hS (lv_sub hl [0, 1, 2, 3, 4, 5] rfl)
              exact B_76 _ (0) (bz) _ _ ls (Nat.lt_succ_self _) (by omega) (fun j hj => hbz j (by omega)) hP hD hS (lv_sub hl [1, 2, 3, 4, 5, 0] rfl)
            · have B_66 : ∀ (xx : Nat) (H : Heap) (locs : List Loc) (ls : Array Slot), (xx = (wf h y p9 v k).toNat) → (va_P (dC, dI) vwCl [(o, .inr (ciM, [.int (nI (0)), .int (nI (n)), .ref a1, .ref a2, .ref a3, .ref a4, .ref a5, .int (mo), .int (le)])), (a1, .inl (c1, 40, .inl xh)), (a2, .inl (c2, 40, .inl yr)), (a3, .inl (c3, 40, .inr (.inl xb))), (a4, .inl (c4, 40, .inr (.inl yb))), (a5, .inl (c5, 7400, .inl bz))] H) → (va_D A [(o, .inr (ciM, [.int (nI (0)), .int (nI (n)), .ref a1, .ref a2, .ref a3, .ref a4, .ref a5, .int (mo), .int (le)])), (a1, .inl (c1, 40, .inl xh)), (a2, .inl (c2, 40, .inl yr)), (a3, .inl (c3, 40, .inr (.inl xb))), (a4, .inl (c4, 40, .inr (.inl yb))), (a5, .inl (c5, 7400, .inl bz))]) → (va_S A s.heap H locs) → lv_has ls 6 [(0, .ref o), (1, .int (nI (h))), (2, .int (y)), (3, .int (nI (p9))), (4, .int (v)), (5, .int (nI (k)))] → W p l e (headSpec ws_M_word ({ frames := 2, cells := 0, slots := 0, locals := 49 } : Room)).room s m ([.ref o, .int (x), .int (y), .int (z), .int (v)]).toArray below meth c H locs 0 0 (MQ below (va_Qi (fun r u => (∃ h p, sp_wdv n x z h p ∧ md_set (wf h y p v) n xh yr xb yb r u ∧ u.1 = nI 0) ∨ ((¬ ∃ h p, sp_wdv n x z h p) ∧ r = -1 ∧ u = (nI 0, n, mo, le, xh, yr, xb, yb, bs))) (md_B dC dI A o a1 a2 a3 a4 a5 c1 c2 c3 c4 c5) A) ([.ref o, .int (x), .int (y), .int (z), .int (v)]).toArray s 0 0 A) (F0 m 66 ls [.int (nI (xx)), .int (nI (k)), .ref a5]) := by
                intro xx H locs ls hx2 hP hD hS hl
                refine va_zast hx hb hK hP hD hS 5 4 rfl rfl (vp_in_nI (n := k) (by omega) (by omega)) d_M_word_66 (fun H locs hP hD hS => ?_)
                rw [pq_cl (by omega)] at hP hD
                have hP : va_P (dC, dI) vwCl [(o, .inr (ciM, [.int (nI (0)), .int (nI (n)), .ref a1, .ref a2, .ref a3, .ref a4, .ref a5, .int (mo), .int (le)])), (a1, .inl (c1, 40, .inl xh)), (a2, .inl (c2, 40, .inl yr)), (a3, .inl (c3, 40, .inr (.inl xb))), (a4, .inl (c4, 40, .inr (.inl yb))), (a5, .inl (c5, 7400, .inl (upd bz k (vp_nar .boolean (nI (xx))))))] H := hP
                have hD : va_D A [(o, .inr (ciM, [.int (nI (0)), .int (nI (n)), .ref a1, .ref a2, .ref a3, .ref a4, .ref a5, .int (mo), .int (le)])), (a1, .inl (c1, 40, .inl xh)), (a2, .inl (c2, 40, .inl yr)), (a3, .inl (c3, 40, .inr (.inl xb))), (a4, .inl (c4, 40, .inr (.inl yb))), (a5, .inl (c5, 7400, .inl (upd bz k (vp_nar .boolean (nI (xx))))))] := hD
                refine lv_iinc (v := nI (k + 1)) (lv' := [(5, .int (nI (k + 1))), (0, .ref o), (1, .int (nI (h))), (2, .int (y)), (3, .int (nI (p9))), (4, .int (v))]) hx hb d_M_word_67 hl (k := 5) rfl (pq_inc _) (by decide) rfl (fun ls hl => ?_)
                refine lv_goto (tgt := 39) hx hb d_M_word_70 (by decide) ?_
                exact ih_39 (k + 1) (upd bz k (vp_nar .boolean (nI (xx)))) _ _ ls (by omega) (by omega) (md_put hbz hx2) hP hD hS (lv_sub hl [1, 2, 3, 4, 5, 0] rfl)
              refine lv_aload_n hx hb d_M_word_45 rfl (lv_at hl 0 rfl) ?_
              refine va_get (D := (dC, dI)) (ci := ciM) (v := .ref a5) (C := R_M) (T := F_M) (N := 9) hx hb hts (fun w h => List.mem_cons_of_mem _ (in_M w h)) hown hK hP 0 rfl rfl 6 (by decide) (hts (.fieldLink R_M 23 "PeriodWordsModel" "bits" "[Z") (List.mem_cons_of_mem _ mb_389)) (fun _ h9 => h9) rfl d_M_word_46 ?_
              refine lv_iload hx hb d_M_word_49 (lv_at hl 5 rfl) ?_
              refine lv_iload_n hx hb d_M_word_51 rfl (lv_at hl 2 rfl) ?_
              refine lv_iload hx hb d_M_word_52 (lv_at hl 5 rfl) ?_
              refine lv_ishr hx hb d_M_word_54 ?_
              refine lv_topi (fun x_3 ex_3 => ?_)
              refine pq_top (y := .int (y >>> (nI k &&& 31))) (by rw [ex_3]) ?_
              refine lv_iconst (v := nI 1) hx hb d_M_word_55 (by decide) ?_
              refine lv_iand hx hb d_M_word_56 ?_
              refine lv_topi (fun x_4 ex_4 => ?_)
              refine pq_top (y := .int (nI ((y.toBitVec.getLsbD k).toNat))) (by rw [ex_4, pq_ib y (by omega)]) ?_
              refine lv_iconst (v := nI 1) hx hb d_M_word_57 (by decide) ?_
              refine pq_icmp_ne (tgt := 65) (a := ((y.toBitVec.getLsbD k).toNat)) (b := 1) hx hb d_M_word_58 (by decide) (by have := pw_lt2 (y.toBitVec.getLsbD k); omega) (by omega) (fun c_58 => ?_) (fun c_58 => ?_)
              · refine lv_iconst (v := nI 0) hx hb d_M_word_65 (by decide) ?_
                exact B_66 (0) _ _ ls (by show _ = (if k < h then y.toBitVec.getLsbD k else _).toNat; rw [if_pos (by omega)]; have := pw_lt2 (y.toBitVec.getLsbD k); omega) hP hD hS (lv_sub hl [0, 1, 2, 3, 4, 5] rfl)
              · refine lv_iconst (v := nI 1) hx hb d_M_word_61 (by decide) ?_
                refine lv_goto (tgt := 66) hx hb d_M_word_62 (by decide) ?_
                exact B_66 (1) _ _ ls (by show _ = (if k < h then y.toBitVec.getLsbD k else _).toNat; rw [if_pos (by omega)]; have := pw_lt2 (y.toBitVec.getLsbD k); omega) hP hD hS (lv_sub hl [0, 1, 2, 3, 4, 5] rfl)
        exact B_39 _ (0) (bs) _ _ ls (Nat.lt_succ_self _) (by omega) (fun j hj => absurd hj (Nat.not_lt_zero j)) hP hD hS (lv_sub hl [1, 2, 3, 4, 5, 0] rfl)
      · refine lv_iconst (v := (-1)) hx hb d_M_word_34 (by decide) ?_
        exact W.iret (v := (-1)) hx hb hr (fun t_ ht_ hW_ => ⟨⟨_, (nI (0), n, mo, le, xh, yr, xb, yb, bs), rfl, Or.inr ⟨fun ⟨h, p, hn4, hh, hp0, hp6, e1, e2⟩ => absurd hn4 (by omega), rfl, rfl⟩, by rw [ht_]; exact hP, va_K.moved hW_.alike hK, hD⟩, hS.F ht_⟩) hS.2.2 d_M_word_35
    · subst hre
      refine pq_if_eq (tgt := 34) (a := 0) hx hb d_M_word_22 (by decide) (by omega) (fun c_22 => ?_) (fun c_22 => absurd c_22 (by omega))
      refine lv_iconst (v := (-1)) hx hb d_M_word_34 (by decide) ?_
      exact W.iret (v := (-1)) hx hb hr (fun t_ ht_ hW_ => ⟨⟨_, (nI (0), n, mo, le, xh, yr, xb, yb, bs), rfl, Or.inr ⟨fun ⟨h, p, hn4, hh, hp0, hp6, e1, e2⟩ => hnin (by rw [e2]; exact ⟨nI_nlt hp0 (by omega), nI_nlt hp6 (by decide)⟩), rfl, rfl⟩, by rw [ht_]; exact hP, va_K.moved hW_.alike hK, hD⟩, hS.F ht_⟩) hS.2.2 d_M_word_35
  · subst hre
    refine pq_if_eq (tgt := 34) (a := 0) hx hb d_M_word_12 (by decide) (by omega) (fun c_12 => ?_) (fun c_12 => absurd c_12 (by omega))
    refine lv_iconst (v := (-1)) hx hb d_M_word_34 (by decide) ?_
    exact W.iret (v := (-1)) hx hb hr (fun t_ ht_ hW_ => ⟨⟨_, (nI (0), n, mo, le, xh, yr, xb, yb, bs), rfl, Or.inr ⟨fun ⟨h, p, hn4, hh, hp0, hp6, e1, e2⟩ => hnin (by rw [e1]; exact ⟨nI_pos (by omega), nI_nlt hh (by decide)⟩), rfl, rfl⟩, by rw [ht_]; exact hP, va_K.moved hW_.alike hK, hD⟩, hS.F ht_⟩) hS.2.2 d_M_word_35
set_option maxHeartbeats 4000000 in
set_option maxRecDepth 100000 in
theorem c_M_make (l : Launch) (dC : Nat → ClassId) (dI : Nat → Nat → Nat) {sz : Nat} {o a1 a2 a3 a4 a5 : Nat} {c1 c2 c3 c4 c5 : ClassId} {th mo le : Int32} {n : Nat} {xh yr : Nat → Int32} {xb yb : Nat → Int64} {bs : Nat → Int32} {Wd : Nat → pw_V} (hn : n ≤ 40) (hall : mdAll xh yr xb yb n Wd) {x y z : Int32} : Met l y_M_make ws_M_make ({ frames := 3, cells := 0, slots := 0, locals := 76 } : Room) (md_Pre [.ref o, .int (x), .int (y), .int (z)] dC dI sz (mdT c1 c2 c3 c4 c5) (md o a1 a2 a3 a4 a5 c1 c2 c3 c4 c5 th n mo le xh yr xb yb bs)) (va_Qi (fun r u => (∃ k i j d, sp_mkv n x y z k i j d ∧ (k = 5 → 0 < pw_o (Wd j).2.2 (Wd j).1 (Wd j).2.1) ∧ md_set (pw_mk k (Wd i).2.2 (Wd j).2.2 d) n xh yr xb yb r u ∧ u.1 = nI 0) ∨ (∃ i j d, sp_mkv n x y z 5 i j d ∧ pw_o (Wd j).2.2 (Wd j).1 (Wd j).2.1 = 0 ∧ u = (nI 1, n, mo, le, xh, yr, xb, yb, bs)) ∨ ((¬ ∃ k i j d, sp_mkv n x y z k i j d) ∧ r = -1 ∧ u = (nI 0, n, mo, le, xh, yr, xb, yb, bs))) (md_B dC dI (va_A (md o a1 a2 a3 a4 a5 c1 c2 c3 c4 c5 th n mo le xh yr xb yb bs) sz) o a1 a2 a3 a4 a5 c1 c2 c3 c4 c5) (va_A (md o a1 a2 a3 a4 a5 c1 c2 c3 c4 c5 th n mo le xh yr xb yb bs) sz)) 0 0 (va_A (md o a1 a2 a3 a4 a5 c1 c2 c3 c4 c5 th n mo le xh yr xb yb bs) sz) := by
  refine Met.ofW (cc := b_M_make) (maxL := 5) (ret := (some .int)) (by decide) rfl ?_
  intro p e s m args below meth c s₁ B hml hv
  obtain ⟨rfl, hsz, hP, hK, hD0⟩ := hv
  have hx := B.exec
  have hb := B.bytes
  have hr := B.returns
  have hts := atoms_spec (ws := ws_M_make) B.pre
  have hown : s.vm.findClass R_M = some m.cls := findClass_of_methodNamed B.named
  have hlocks := B.notSynchronized
  subst hsz
  have hD := hD0.self (sz := s.heap.size)
  generalize hAe : va_A (md o a1 a2 a3 a4 a5 c1 c2 c3 c4 c5 th n mo le xh yr xb yb bs) s.heap.size = A at hD ⊢
  have hA : ∀ q : Nat, s.heap.size ≤ q → A q := fun q h => by rw [← hAe]; exact Or.inr h
  have hS : va_S A s.heap s.heap [] := va_S.rf
  have hl := lv_entry ([.ref o, .int (x), .int (y), .int (z)]) (n := 5) (Nat.le_of_ble_eq_true rfl)
  rw [lg_entry_eq]
  generalize (lg_sl ([.ref o, .int (x), .int (y), .int (z)]) ++ List.replicate (5 - (lg_sl ([.ref o, .int (x), .int (y), .int (z)])).length) Slot.unset).toArray = ls at hl ⊢
  have hl : lv_has ls 5 [(0, .ref o), (1, .int (x)), (2, .int (y)), (3, .int (z))] := hl
  rcases pq_in8 (z := x) with ⟨k, hk8, hxk⟩ | hnox
  · rcases (show k = 0 ∨ k = 1 ∨ k = 2 ∨ k = 3 ∨ k = 4 ∨ k = 5 ∨ k = 6 ∨ k = 7 by omega) with rfl | rfl | rfl | rfl | rfl | rfl | rfl | rfl
    · rw [hxk] at hl
      refine lv_aload_n hx hb d_M_make_0 rfl (lv_at hl 0 rfl) ?_
      refine lv_iconst (v := nI 0) hx hb d_M_make_1 (by decide) ?_
      refine va_put (D := (dC, dI)) (ci := ciM) (v := .int (nI (0))) (ty := .int) (C := R_M) (T := F_M) (N := 9) hx hb hts (fun w h => List.mem_cons_of_mem _ (in_M w h)) t_M t_M_ok n_M hown hK hP hD hS 0 rfl rfl 0 (by decide) (hts (.fieldLink R_M 27 "PeriodWordsModel" "thrown" "I") (List.mem_cons_of_mem _ mb_383)) (fun _ h9 => h9) rfl (by decide +kernel) rfl rfl (Nat.le_of_ble_eq_true rfl) d_M_make_2 (fun H locs hP hD hS => ?_)
      have hP : va_P (dC, dI) vwCl [(o, .inr (ciM, [.int (nI (0)), .int (nI (n)), .ref a1, .ref a2, .ref a3, .ref a4, .ref a5, .int (mo), .int (le)])), (a1, .inl (c1, 40, .inl xh)), (a2, .inl (c2, 40, .inl yr)), (a3, .inl (c3, 40, .inr (.inl xb))), (a4, .inl (c4, 40, .inr (.inl yb))), (a5, .inl (c5, 7400, .inl bs))] H := hP
      have hD : va_D A [(o, .inr (ciM, [.int (nI (0)), .int (nI (n)), .ref a1, .ref a2, .ref a3, .ref a4, .ref a5, .int (mo), .int (le)])), (a1, .inl (c1, 40, .inl xh)), (a2, .inl (c2, 40, .inl yr)), (a3, .inl (c3, 40, .inr (.inl xb))), (a4, .inl (c4, 40, .inr (.inl yb))), (a5, .inl (c5, 7400, .inl bs))] := hD
      refine lv_iload_n hx hb d_M_make_5 rfl (lv_at hl 1 rfl) ?_
      refine lv_iconst (v := nI 3) hx hb d_M_make_6 (by decide) ?_
      refine pq_icmp_lt (tgt := 20) (a := 0) (b := 3) hx hb d_M_make_7 (by decide) (by omega) (by omega) (fun c_7 => ?_) (fun c_7 => absurd c_7 (by omega))
      refine lv_iconst (v := nI 1) hx hb d_M_make_20 (by decide) ?_
      refine lv_goto (tgt := 25) hx hb d_M_make_21 (by decide) ?_
      refine lv_istore (lv' := [(4, .int (nI (1))), (0, .ref o), (1, .int (nI (0))), (2, .int (y)), (3, .int (z))]) hx hb d_M_make_25 hl (by decide) rfl (fun ls hl => ?_)
      refine lv_iload_n hx hb d_M_make_27 rfl (lv_at hl 2 rfl) ?_
      refine lv_iconst (v := nI 0) hx hb d_M_make_28 (by decide) ?_
      refine lv_bipush (v := nI 7) hx hb d_M_make_29 (by decide) ?_
      refine vp_callSi (W.runS (As := [.int (nI (0)), .int (nI (0)), .int (nI (7))]) (rest := []) ⟨hx, hb, hml, hown, hts⟩ (c_M_in l dC dI (x := nI 0) (lo := nI 0) (hi := nI 7)) (va_cwS 3 hts (gd_S mb_421 mb_422 mb_23 mb_423) rfl rfl rfl (by decide +kernel) ⟨Nat.le_of_ble_eq_true rfl, Nat.le_of_ble_eq_true rfl⟩) (pw_R_S pw_P0 (hK.sub [] rfl)) rfl rfl hl.1 rfl (lv_room (Nat.le_of_ble_eq_true rfl)) d_M_make_31 ⟨Nat.le_of_ble_eq_true rfl, Nat.le_of_ble_eq_true rfl⟩) (fun r_31 hr_31 => ?_)
      have hre : r_31 = nI 1 := hr_31.elim (fun q => q.1) (fun q => absurd ⟨by decide, by decide⟩ q.2)
      subst hre
      refine pq_if_eq (tgt := 83) (a := 1) hx hb d_M_make_34 (by decide) (by omega) (fun c_34 => absurd c_34 (by omega)) (fun c_34 => ?_)
      refine lv_aload_n hx hb d_M_make_37 rfl (lv_at hl 1 rfl) ?_
      refine lv_iload_n hx hb d_M_make_38 rfl (lv_at hl 3 rfl) ?_
      refine vp_callSi (W.runV (As := [.int (y)]) (rest := []) ⟨hx, hb, hml, hown, hts⟩ (c_M_isWord l dC dI hn (x := y)) (cwV 1 hts (gd_V mb_436 mb_438 mb_5 mb_23 mb_439) rfl rfl rfl (by decide +kernel) ⟨Nat.le_of_ble_eq_true rfl, Nat.le_of_ble_eq_true rfl⟩) (pw_R_V (va_recv hK hP (ci := ciM) (q0 := 0) rfl rfl) hP hK) rfl rfl hl.1 rfl (lv_room (Nat.le_of_ble_eq_true rfl)) d_M_make_39 ⟨Nat.le_of_ble_eq_true rfl, Nat.le_of_ble_eq_true rfl⟩) (fun r_39 hr_39 => ?_)
      rcases hr_39 with ⟨hre, i1, hi1, hx1⟩ | ⟨hre, hno1⟩
      · subst hre
        rw [hx1] at hl
        have hmd1 := hall i1 hi1
        have hmd1_ := hmd1; obtain ⟨hj1, e11, e21, e31, e41, hok1⟩ := hmd1_; have hok1_ := hok1; obtain ⟨hh1, hp01, hp61, hE1⟩ := hok1_
        have ho1 := pw_o_le (Wd i1).2.2 (Wd i1).1 (Wd i1).2.1
        have hc1 := pw_c_le (Wd i1).2.2 (Wd i1).1
        have hb01 := pq_lt60 (pw_b_lt (Wd i1).2.2 0 (Wd i1).1) hh1
        have hb11 := pq_lt60 (pw_b_lt (Wd i1).2.2 (Wd i1).1 (Wd i1).2.1) hp61
        refine pq_if_eq (tgt := 83) (a := 1) hx hb d_M_make_42 (by decide) (by omega) (fun c_42 => absurd c_42 (by omega)) (fun c_42 => ?_)
        refine lv_iload hx hb d_M_make_45 (lv_at hl 0 rfl) ?_
        refine pq_if_eq (tgt := 58) (a := 1) hx hb d_M_make_47 (by decide) (by omega) (fun c_47 => absurd c_47 (by omega)) (fun c_47 => ?_)
        refine lv_aload_n hx hb d_M_make_50 rfl (lv_at hl 1 rfl) ?_
        refine lv_iload_n hx hb d_M_make_51 rfl (lv_at hl 4 rfl) ?_
        refine vp_callSi (W.runV (As := [.int (z)]) (rest := []) ⟨hx, hb, hml, hown, hts⟩ (c_M_isWord l dC dI hn (x := z)) (cwV 1 hts (gd_V mb_436 mb_438 mb_5 mb_23 mb_439) rfl rfl rfl (by decide +kernel) ⟨Nat.le_of_ble_eq_true rfl, Nat.le_of_ble_eq_true rfl⟩) (pw_R_V (va_recv hK hP (ci := ciM) (q0 := 0) rfl rfl) hP hK) rfl rfl hl.1 rfl (lv_room (Nat.le_of_ble_eq_true rfl)) d_M_make_52 ⟨Nat.le_of_ble_eq_true rfl, Nat.le_of_ble_eq_true rfl⟩) (fun r_52 hr_52 => ?_)
        rcases hr_52 with ⟨hre, i2, hi2, hx2⟩ | ⟨hre, hno2⟩
        · subst hre
          rw [hx2] at hl
          have hmd2 := hall i2 hi2
          have hmd2_ := hmd2; obtain ⟨hj2, e12, e22, e32, e42, hok2⟩ := hmd2_; have hok2_ := hok2; obtain ⟨hh2, hp02, hp62, hE2⟩ := hok2_
          have ho2 := pw_o_le (Wd i2).2.2 (Wd i2).1 (Wd i2).2.1
          have hc2 := pw_c_le (Wd i2).2.2 (Wd i2).1
          have hb02 := pq_lt60 (pw_b_lt (Wd i2).2.2 0 (Wd i2).1) hh2
          have hb12 := pq_lt60 (pw_b_lt (Wd i2).2.2 (Wd i2).1 (Wd i2).2.1) hp62
          refine pq_if_eq (tgt := 83) (a := 1) hx hb d_M_make_55 (by decide) (by omega) (fun c_55 => absurd c_55 (by omega)) (fun c_55 => ?_)
          refine lv_iload_n hx hb d_M_make_58 rfl (lv_at hl 2 rfl) ?_
          refine lv_bipush (v := nI 6) hx hb d_M_make_59 (by decide) ?_
          refine pq_icmp_ne (tgt := 74) (a := 0) (b := 6) hx hb d_M_make_61 (by decide) (by omega) (by omega) (fun c_61 => ?_) (fun c_61 => absurd c_61 (by omega))
          refine lv_aload_n hx hb d_M_make_74 rfl (lv_at hl 1 rfl) ?_
          refine va_get (D := (dC, dI)) (ci := ciM) (v := .int (nI (n))) (C := R_M) (T := F_M) (N := 9) hx hb hts (fun w h => List.mem_cons_of_mem _ (in_M w h)) hown hK hP 0 rfl rfl 1 (by decide) (hts (.fieldLink R_M 31 "PeriodWordsModel" "words" "I") (List.mem_cons_of_mem _ mb_384)) (fun _ h9 => h9) rfl d_M_make_75 ?_
          refine lv_bipush (v := nI 40) hx hb d_M_make_78 (by decide) ?_
          refine pq_icmp_ne (tgt := 85) (a := n) (b := 40) hx hb d_M_make_80 (by decide) (by omega) (by omega) (fun c_80 => ?_) (fun c_80 => ?_)
          · refine lv_iload_n hx hb d_M_make_85 rfl (lv_at hl 2 rfl) ?_
            refine lv_iconst (v := nI 5) hx hb d_M_make_86 (by decide) ?_
            refine pq_icmp_ne (tgt := 103) (a := 0) (b := 5) hx hb d_M_make_87 (by decide) (by omega) (by omega) (fun c_87 => ?_) (fun c_87 => absurd c_87 (by omega))
            refine lv_iload_n hx hb d_M_make_103 rfl (lv_at hl 2 rfl) ?_
            refine lv_tableOut (tgt := 173) hx hb d_M_make_104 (Or.inl (by decide)) (by decide) ?_
            refine lv_aload_n hx hb d_M_make_173 rfl (lv_at hl 1 rfl) ?_
            refine lv_iload_n hx hb d_M_make_174 rfl (lv_at hl 2 rfl) ?_
            refine lv_iload_n hx hb d_M_make_175 rfl (lv_at hl 3 rfl) ?_
            refine lv_iload_n hx hb d_M_make_176 rfl (lv_at hl 4 rfl) ?_
            have hFc := va_free (wc := [(o, .inr (ciM, [.int (nI (0)), .int (nI (n)), .ref a1, .ref a2, .ref a3, .ref a4, .ref a5, .int (mo), .int (le)])), (a1, .inl (c1, 40, .inl xh)), (a2, .inl (c2, 40, .inl yr)), (a3, .inl (c3, 40, .inr (.inl xb))), (a4, .inl (c4, 40, .inr (.inl yb))), (a5, .inl (c5, 7400, .inl bs))]) hD hS hA [0, 1, 2, 3, 4, 5] rfl
            refine va_calli (va_runV (As := [.int (nI (0)), .int (nI (i1)), .int (nI (i2))]) (rest := []) ⟨hx, hb, hml, hown, hts⟩ (c_M_joined l dC dI hmd1 hmd2 (how := 0) (d := 0) (by decide) (by omega)) (cwV 3 hts (gd_V mb_478 mb_480 mb_14 mb_23 mb_481) rfl rfl rfl (by decide +kernel) ⟨Nat.le_of_ble_eq_true rfl, Nat.le_of_ble_eq_true rfl⟩) ⟨md_blind, va_recv hK hP (ci := ciM) (q0 := 0) rfl rfl, fun U hU hW => ⟨rfl, by rw [hU], by rw [hU]; exact hP, va_K.moved hW.alike hK, hD.weaken (fun _ _ _ _ => trivial)⟩⟩ rfl rfl hl.1 rfl (lv_room (Nat.le_of_ble_eq_true rfl)) d_M_make_177 ⟨Nat.le_of_ble_eq_true rfl, Nat.le_of_ble_eq_true rfl⟩) hS (fun q _ h => hFc q h) hFc (fun r_177 u_177 t_ H1 locs ht_ hvm_ hr_177 hB_ hz1_ hk1_ hS => ?_)
            obtain ⟨hP1_, hK1_, hD1_⟩ := hB_
            rw [ht_] at hP1_
            clear hP hD
            have hP := hP1_
            have hD := hD1_.weaken (fun k q _ h => hFc q.1 h)
            generalize H1 = H at hP hS ⊢
            have hP : va_P (dC, dI) vwCl [(o, .inr (ciM, [.int (u_177.1), .int (nI (u_177.2.1)), .ref a1, .ref a2, .ref a3, .ref a4, .ref a5, .int (u_177.2.2.1), .int (u_177.2.2.2.1)])), (a1, .inl (c1, 40, .inl u_177.2.2.2.2.1)), (a2, .inl (c2, 40, .inl u_177.2.2.2.2.2.1)), (a3, .inl (c3, 40, .inr (.inl u_177.2.2.2.2.2.2.1))), (a4, .inl (c4, 40, .inr (.inl u_177.2.2.2.2.2.2.2.1))), (a5, .inl (c5, 7400, .inl u_177.2.2.2.2.2.2.2.2))] H := hP
            have hD : va_D A [(o, .inr (ciM, [.int (u_177.1), .int (nI (u_177.2.1)), .ref a1, .ref a2, .ref a3, .ref a4, .ref a5, .int (u_177.2.2.1), .int (u_177.2.2.2.1)])), (a1, .inl (c1, 40, .inl u_177.2.2.2.2.1)), (a2, .inl (c2, 40, .inl u_177.2.2.2.2.2.1)), (a3, .inl (c3, 40, .inr (.inl u_177.2.2.2.2.2.2.1))), (a4, .inl (c4, 40, .inr (.inl u_177.2.2.2.2.2.2.2.1))), (a5, .inl (c5, 7400, .inl u_177.2.2.2.2.2.2.2.2))] := hD
            exact W.iret (v := (r_177)) hx hb hr (fun t_ ht_ hW_ => ⟨⟨_, u_177, rfl, Or.inl ⟨0, i1, i2, 0, ⟨by omega, by decide, hxk, hi1, hx1, fun q => ⟨hi2, hx2⟩, fun q => absurd q (by decide), fun q => absurd (show sp_two 0 by unfold sp_two; omega) q, fun q => rfl⟩, fun q => absurd q (by decide), hr_177.1, hr_177.2⟩, by rw [ht_]; exact hP, va_K.moved hW_.alike hK, hD⟩, hS.F ht_⟩) hS.2.2 d_M_make_180
          · refine lv_iconst (v := (-1)) hx hb d_M_make_83 (by decide) ?_
            exact W.iret (v := (-1)) hx hb hr (fun t_ ht_ hW_ => ⟨⟨_, (nI (0), n, mo, le, xh, yr, xb, yb, bs), rfl, Or.inr (Or.inr ⟨fun ⟨k9, i, j, d, hn4, hk9, e1, hi, e2, h2, h6, h7, h8⟩ => absurd hn4 (by omega), rfl, rfl⟩), by rw [ht_]; exact hP, va_K.moved hW_.alike hK, hD⟩, hS.F ht_⟩) hS.2.2 d_M_make_84
        · subst hre
          refine pq_if_eq (tgt := 83) (a := 0) hx hb d_M_make_55 (by decide) (by omega) (fun c_55 => ?_) (fun c_55 => absurd c_55 (by omega))
          refine lv_iconst (v := (-1)) hx hb d_M_make_83 (by decide) ?_
          exact W.iret (v := (-1)) hx hb hr (fun t_ ht_ hW_ => ⟨⟨_, (nI (0), n, mo, le, xh, yr, xb, yb, bs), rfl, Or.inr (Or.inr ⟨fun ⟨k9, i, j, d, hn4, hk9, e1, hi, e2, h2, h6, h7, h8⟩ => (by have ek : k9 = 0 := (nI_eq (by omega) (by decide)).mp (e1.symm.trans hxk); subst ek; exact hno2 ⟨j, (h2 (by unfold sp_two; omega)).1, (h2 (by unfold sp_two; omega)).2⟩), rfl, rfl⟩), by rw [ht_]; exact hP, va_K.moved hW_.alike hK, hD⟩, hS.F ht_⟩) hS.2.2 d_M_make_84
      · subst hre
        refine pq_if_eq (tgt := 83) (a := 0) hx hb d_M_make_42 (by decide) (by omega) (fun c_42 => ?_) (fun c_42 => absurd c_42 (by omega))
        refine lv_iconst (v := (-1)) hx hb d_M_make_83 (by decide) ?_
        exact W.iret (v := (-1)) hx hb hr (fun t_ ht_ hW_ => ⟨⟨_, (nI (0), n, mo, le, xh, yr, xb, yb, bs), rfl, Or.inr (Or.inr ⟨fun ⟨k9, i, j, d, hn4, hk9, e1, hi, e2, h2, h6, h7, h8⟩ => hno1 ⟨i, hi, e2⟩, rfl, rfl⟩), by rw [ht_]; exact hP, va_K.moved hW_.alike hK, hD⟩, hS.F ht_⟩) hS.2.2 d_M_make_84
    · rw [hxk] at hl
      refine lv_aload_n hx hb d_M_make_0 rfl (lv_at hl 0 rfl) ?_
      refine lv_iconst (v := nI 0) hx hb d_M_make_1 (by decide) ?_
      refine va_put (D := (dC, dI)) (ci := ciM) (v := .int (nI (0))) (ty := .int) (C := R_M) (T := F_M) (N := 9) hx hb hts (fun w h => List.mem_cons_of_mem _ (in_M w h)) t_M t_M_ok n_M hown hK hP hD hS 0 rfl rfl 0 (by decide) (hts (.fieldLink R_M 27 "PeriodWordsModel" "thrown" "I") (List.mem_cons_of_mem _ mb_383)) (fun _ h9 => h9) rfl (by decide +kernel) rfl rfl (Nat.le_of_ble_eq_true rfl) d_M_make_2 (fun H locs hP hD hS => ?_)
      have hP : va_P (dC, dI) vwCl [(o, .inr (ciM, [.int (nI (0)), .int (nI (n)), .ref a1, .ref a2, .ref a3, .ref a4, .ref a5, .int (mo), .int (le)])), (a1, .inl (c1, 40, .inl xh)), (a2, .inl (c2, 40, .inl yr)), (a3, .inl (c3, 40, .inr (.inl xb))), (a4, .inl (c4, 40, .inr (.inl yb))), (a5, .inl (c5, 7400, .inl bs))] H := hP
      have hD : va_D A [(o, .inr (ciM, [.int (nI (0)), .int (nI (n)), .ref a1, .ref a2, .ref a3, .ref a4, .ref a5, .int (mo), .int (le)])), (a1, .inl (c1, 40, .inl xh)), (a2, .inl (c2, 40, .inl yr)), (a3, .inl (c3, 40, .inr (.inl xb))), (a4, .inl (c4, 40, .inr (.inl yb))), (a5, .inl (c5, 7400, .inl bs))] := hD
      refine lv_iload_n hx hb d_M_make_5 rfl (lv_at hl 1 rfl) ?_
      refine lv_iconst (v := nI 3) hx hb d_M_make_6 (by decide) ?_
      refine pq_icmp_lt (tgt := 20) (a := 1) (b := 3) hx hb d_M_make_7 (by decide) (by omega) (by omega) (fun c_7 => ?_) (fun c_7 => absurd c_7 (by omega))
      refine lv_iconst (v := nI 1) hx hb d_M_make_20 (by decide) ?_
      refine lv_goto (tgt := 25) hx hb d_M_make_21 (by decide) ?_
      refine lv_istore (lv' := [(4, .int (nI (1))), (0, .ref o), (1, .int (nI (1))), (2, .int (y)), (3, .int (z))]) hx hb d_M_make_25 hl (by decide) rfl (fun ls hl => ?_)
      refine lv_iload_n hx hb d_M_make_27 rfl (lv_at hl 2 rfl) ?_
      refine lv_iconst (v := nI 0) hx hb d_M_make_28 (by decide) ?_
      refine lv_bipush (v := nI 7) hx hb d_M_make_29 (by decide) ?_
      refine vp_callSi (W.runS (As := [.int (nI (1)), .int (nI (0)), .int (nI (7))]) (rest := []) ⟨hx, hb, hml, hown, hts⟩ (c_M_in l dC dI (x := nI 1) (lo := nI 0) (hi := nI 7)) (va_cwS 3 hts (gd_S mb_421 mb_422 mb_23 mb_423) rfl rfl rfl (by decide +kernel) ⟨Nat.le_of_ble_eq_true rfl, Nat.le_of_ble_eq_true rfl⟩) (pw_R_S pw_P0 (hK.sub [] rfl)) rfl rfl hl.1 rfl (lv_room (Nat.le_of_ble_eq_true rfl)) d_M_make_31 ⟨Nat.le_of_ble_eq_true rfl, Nat.le_of_ble_eq_true rfl⟩) (fun r_31 hr_31 => ?_)
      have hre : r_31 = nI 1 := hr_31.elim (fun q => q.1) (fun q => absurd ⟨by decide, by decide⟩ q.2)
      subst hre
      refine pq_if_eq (tgt := 83) (a := 1) hx hb d_M_make_34 (by decide) (by omega) (fun c_34 => absurd c_34 (by omega)) (fun c_34 => ?_)
      refine lv_aload_n hx hb d_M_make_37 rfl (lv_at hl 1 rfl) ?_
      refine lv_iload_n hx hb d_M_make_38 rfl (lv_at hl 3 rfl) ?_
      refine vp_callSi (W.runV (As := [.int (y)]) (rest := []) ⟨hx, hb, hml, hown, hts⟩ (c_M_isWord l dC dI hn (x := y)) (cwV 1 hts (gd_V mb_436 mb_438 mb_5 mb_23 mb_439) rfl rfl rfl (by decide +kernel) ⟨Nat.le_of_ble_eq_true rfl, Nat.le_of_ble_eq_true rfl⟩) (pw_R_V (va_recv hK hP (ci := ciM) (q0 := 0) rfl rfl) hP hK) rfl rfl hl.1 rfl (lv_room (Nat.le_of_ble_eq_true rfl)) d_M_make_39 ⟨Nat.le_of_ble_eq_true rfl, Nat.le_of_ble_eq_true rfl⟩) (fun r_39 hr_39 => ?_)
      rcases hr_39 with ⟨hre, i1, hi1, hx1⟩ | ⟨hre, hno1⟩
      · subst hre
        rw [hx1] at hl
        have hmd1 := hall i1 hi1
        have hmd1_ := hmd1; obtain ⟨hj1, e11, e21, e31, e41, hok1⟩ := hmd1_; have hok1_ := hok1; obtain ⟨hh1, hp01, hp61, hE1⟩ := hok1_
        have ho1 := pw_o_le (Wd i1).2.2 (Wd i1).1 (Wd i1).2.1
        have hc1 := pw_c_le (Wd i1).2.2 (Wd i1).1
        have hb01 := pq_lt60 (pw_b_lt (Wd i1).2.2 0 (Wd i1).1) hh1
        have hb11 := pq_lt60 (pw_b_lt (Wd i1).2.2 (Wd i1).1 (Wd i1).2.1) hp61
        refine pq_if_eq (tgt := 83) (a := 1) hx hb d_M_make_42 (by decide) (by omega) (fun c_42 => absurd c_42 (by omega)) (fun c_42 => ?_)
        refine lv_iload hx hb d_M_make_45 (lv_at hl 0 rfl) ?_
        refine pq_if_eq (tgt := 58) (a := 1) hx hb d_M_make_47 (by decide) (by omega) (fun c_47 => absurd c_47 (by omega)) (fun c_47 => ?_)
        refine lv_aload_n hx hb d_M_make_50 rfl (lv_at hl 1 rfl) ?_
        refine lv_iload_n hx hb d_M_make_51 rfl (lv_at hl 4 rfl) ?_
        refine vp_callSi (W.runV (As := [.int (z)]) (rest := []) ⟨hx, hb, hml, hown, hts⟩ (c_M_isWord l dC dI hn (x := z)) (cwV 1 hts (gd_V mb_436 mb_438 mb_5 mb_23 mb_439) rfl rfl rfl (by decide +kernel) ⟨Nat.le_of_ble_eq_true rfl, Nat.le_of_ble_eq_true rfl⟩) (pw_R_V (va_recv hK hP (ci := ciM) (q0 := 0) rfl rfl) hP hK) rfl rfl hl.1 rfl (lv_room (Nat.le_of_ble_eq_true rfl)) d_M_make_52 ⟨Nat.le_of_ble_eq_true rfl, Nat.le_of_ble_eq_true rfl⟩) (fun r_52 hr_52 => ?_)
        rcases hr_52 with ⟨hre, i2, hi2, hx2⟩ | ⟨hre, hno2⟩
        · subst hre
          rw [hx2] at hl
          have hmd2 := hall i2 hi2
          have hmd2_ := hmd2; obtain ⟨hj2, e12, e22, e32, e42, hok2⟩ := hmd2_; have hok2_ := hok2; obtain ⟨hh2, hp02, hp62, hE2⟩ := hok2_
          have ho2 := pw_o_le (Wd i2).2.2 (Wd i2).1 (Wd i2).2.1
          have hc2 := pw_c_le (Wd i2).2.2 (Wd i2).1
          have hb02 := pq_lt60 (pw_b_lt (Wd i2).2.2 0 (Wd i2).1) hh2
          have hb12 := pq_lt60 (pw_b_lt (Wd i2).2.2 (Wd i2).1 (Wd i2).2.1) hp62
          refine pq_if_eq (tgt := 83) (a := 1) hx hb d_M_make_55 (by decide) (by omega) (fun c_55 => absurd c_55 (by omega)) (fun c_55 => ?_)
          refine lv_iload_n hx hb d_M_make_58 rfl (lv_at hl 2 rfl) ?_
          refine lv_bipush (v := nI 6) hx hb d_M_make_59 (by decide) ?_
          refine pq_icmp_ne (tgt := 74) (a := 1) (b := 6) hx hb d_M_make_61 (by decide) (by omega) (by omega) (fun c_61 => ?_) (fun c_61 => absurd c_61 (by omega))
          refine lv_aload_n hx hb d_M_make_74 rfl (lv_at hl 1 rfl) ?_
          refine va_get (D := (dC, dI)) (ci := ciM) (v := .int (nI (n))) (C := R_M) (T := F_M) (N := 9) hx hb hts (fun w h => List.mem_cons_of_mem _ (in_M w h)) hown hK hP 0 rfl rfl 1 (by decide) (hts (.fieldLink R_M 31 "PeriodWordsModel" "words" "I") (List.mem_cons_of_mem _ mb_384)) (fun _ h9 => h9) rfl d_M_make_75 ?_
          refine lv_bipush (v := nI 40) hx hb d_M_make_78 (by decide) ?_
          refine pq_icmp_ne (tgt := 85) (a := n) (b := 40) hx hb d_M_make_80 (by decide) (by omega) (by omega) (fun c_80 => ?_) (fun c_80 => ?_)
          · refine lv_iload_n hx hb d_M_make_85 rfl (lv_at hl 2 rfl) ?_
            refine lv_iconst (v := nI 5) hx hb d_M_make_86 (by decide) ?_
            refine pq_icmp_ne (tgt := 103) (a := 1) (b := 5) hx hb d_M_make_87 (by decide) (by omega) (by omega) (fun c_87 => ?_) (fun c_87 => absurd c_87 (by omega))
            refine lv_iload_n hx hb d_M_make_103 rfl (lv_at hl 2 rfl) ?_
            refine lv_tableOut (tgt := 173) hx hb d_M_make_104 (Or.inl (by decide)) (by decide) ?_
            refine lv_aload_n hx hb d_M_make_173 rfl (lv_at hl 1 rfl) ?_
            refine lv_iload_n hx hb d_M_make_174 rfl (lv_at hl 2 rfl) ?_
            refine lv_iload_n hx hb d_M_make_175 rfl (lv_at hl 3 rfl) ?_
            refine lv_iload_n hx hb d_M_make_176 rfl (lv_at hl 4 rfl) ?_
            have hFc := va_free (wc := [(o, .inr (ciM, [.int (nI (0)), .int (nI (n)), .ref a1, .ref a2, .ref a3, .ref a4, .ref a5, .int (mo), .int (le)])), (a1, .inl (c1, 40, .inl xh)), (a2, .inl (c2, 40, .inl yr)), (a3, .inl (c3, 40, .inr (.inl xb))), (a4, .inl (c4, 40, .inr (.inl yb))), (a5, .inl (c5, 7400, .inl bs))]) hD hS hA [0, 1, 2, 3, 4, 5] rfl
            refine va_calli (va_runV (As := [.int (nI (1)), .int (nI (i1)), .int (nI (i2))]) (rest := []) ⟨hx, hb, hml, hown, hts⟩ (c_M_joined l dC dI hmd1 hmd2 (how := 1) (d := 0) (by decide) (by omega)) (cwV 3 hts (gd_V mb_478 mb_480 mb_14 mb_23 mb_481) rfl rfl rfl (by decide +kernel) ⟨Nat.le_of_ble_eq_true rfl, Nat.le_of_ble_eq_true rfl⟩) ⟨md_blind, va_recv hK hP (ci := ciM) (q0 := 0) rfl rfl, fun U hU hW => ⟨rfl, by rw [hU], by rw [hU]; exact hP, va_K.moved hW.alike hK, hD.weaken (fun _ _ _ _ => trivial)⟩⟩ rfl rfl hl.1 rfl (lv_room (Nat.le_of_ble_eq_true rfl)) d_M_make_177 ⟨Nat.le_of_ble_eq_true rfl, Nat.le_of_ble_eq_true rfl⟩) hS (fun q _ h => hFc q h) hFc (fun r_177 u_177 t_ H1 locs ht_ hvm_ hr_177 hB_ hz1_ hk1_ hS => ?_)
            obtain ⟨hP1_, hK1_, hD1_⟩ := hB_
            rw [ht_] at hP1_
            clear hP hD
            have hP := hP1_
            have hD := hD1_.weaken (fun k q _ h => hFc q.1 h)
            generalize H1 = H at hP hS ⊢
            have hP : va_P (dC, dI) vwCl [(o, .inr (ciM, [.int (u_177.1), .int (nI (u_177.2.1)), .ref a1, .ref a2, .ref a3, .ref a4, .ref a5, .int (u_177.2.2.1), .int (u_177.2.2.2.1)])), (a1, .inl (c1, 40, .inl u_177.2.2.2.2.1)), (a2, .inl (c2, 40, .inl u_177.2.2.2.2.2.1)), (a3, .inl (c3, 40, .inr (.inl u_177.2.2.2.2.2.2.1))), (a4, .inl (c4, 40, .inr (.inl u_177.2.2.2.2.2.2.2.1))), (a5, .inl (c5, 7400, .inl u_177.2.2.2.2.2.2.2.2))] H := hP
            have hD : va_D A [(o, .inr (ciM, [.int (u_177.1), .int (nI (u_177.2.1)), .ref a1, .ref a2, .ref a3, .ref a4, .ref a5, .int (u_177.2.2.1), .int (u_177.2.2.2.1)])), (a1, .inl (c1, 40, .inl u_177.2.2.2.2.1)), (a2, .inl (c2, 40, .inl u_177.2.2.2.2.2.1)), (a3, .inl (c3, 40, .inr (.inl u_177.2.2.2.2.2.2.1))), (a4, .inl (c4, 40, .inr (.inl u_177.2.2.2.2.2.2.2.1))), (a5, .inl (c5, 7400, .inl u_177.2.2.2.2.2.2.2.2))] := hD
            exact W.iret (v := (r_177)) hx hb hr (fun t_ ht_ hW_ => ⟨⟨_, u_177, rfl, Or.inl ⟨1, i1, i2, 0, ⟨by omega, by decide, hxk, hi1, hx1, fun q => ⟨hi2, hx2⟩, fun q => absurd q (by decide), fun q => absurd (show sp_two 1 by unfold sp_two; omega) q, fun q => rfl⟩, fun q => absurd q (by decide), hr_177.1, hr_177.2⟩, by rw [ht_]; exact hP, va_K.moved hW_.alike hK, hD⟩, hS.F ht_⟩) hS.2.2 d_M_make_180
          · refine lv_iconst (v := (-1)) hx hb d_M_make_83 (by decide) ?_
            exact W.iret (v := (-1)) hx hb hr (fun t_ ht_ hW_ => ⟨⟨_, (nI (0), n, mo, le, xh, yr, xb, yb, bs), rfl, Or.inr (Or.inr ⟨fun ⟨k9, i, j, d, hn4, hk9, e1, hi, e2, h2, h6, h7, h8⟩ => absurd hn4 (by omega), rfl, rfl⟩), by rw [ht_]; exact hP, va_K.moved hW_.alike hK, hD⟩, hS.F ht_⟩) hS.2.2 d_M_make_84
        · subst hre
          refine pq_if_eq (tgt := 83) (a := 0) hx hb d_M_make_55 (by decide) (by omega) (fun c_55 => ?_) (fun c_55 => absurd c_55 (by omega))
          refine lv_iconst (v := (-1)) hx hb d_M_make_83 (by decide) ?_
          exact W.iret (v := (-1)) hx hb hr (fun t_ ht_ hW_ => ⟨⟨_, (nI (0), n, mo, le, xh, yr, xb, yb, bs), rfl, Or.inr (Or.inr ⟨fun ⟨k9, i, j, d, hn4, hk9, e1, hi, e2, h2, h6, h7, h8⟩ => (by have ek : k9 = 1 := (nI_eq (by omega) (by decide)).mp (e1.symm.trans hxk); subst ek; exact hno2 ⟨j, (h2 (by unfold sp_two; omega)).1, (h2 (by unfold sp_two; omega)).2⟩), rfl, rfl⟩), by rw [ht_]; exact hP, va_K.moved hW_.alike hK, hD⟩, hS.F ht_⟩) hS.2.2 d_M_make_84
      · subst hre
        refine pq_if_eq (tgt := 83) (a := 0) hx hb d_M_make_42 (by decide) (by omega) (fun c_42 => ?_) (fun c_42 => absurd c_42 (by omega))
        refine lv_iconst (v := (-1)) hx hb d_M_make_83 (by decide) ?_
        exact W.iret (v := (-1)) hx hb hr (fun t_ ht_ hW_ => ⟨⟨_, (nI (0), n, mo, le, xh, yr, xb, yb, bs), rfl, Or.inr (Or.inr ⟨fun ⟨k9, i, j, d, hn4, hk9, e1, hi, e2, h2, h6, h7, h8⟩ => hno1 ⟨i, hi, e2⟩, rfl, rfl⟩), by rw [ht_]; exact hP, va_K.moved hW_.alike hK, hD⟩, hS.F ht_⟩) hS.2.2 d_M_make_84
    · rw [hxk] at hl
      refine lv_aload_n hx hb d_M_make_0 rfl (lv_at hl 0 rfl) ?_
      refine lv_iconst (v := nI 0) hx hb d_M_make_1 (by decide) ?_
      refine va_put (D := (dC, dI)) (ci := ciM) (v := .int (nI (0))) (ty := .int) (C := R_M) (T := F_M) (N := 9) hx hb hts (fun w h => List.mem_cons_of_mem _ (in_M w h)) t_M t_M_ok n_M hown hK hP hD hS 0 rfl rfl 0 (by decide) (hts (.fieldLink R_M 27 "PeriodWordsModel" "thrown" "I") (List.mem_cons_of_mem _ mb_383)) (fun _ h9 => h9) rfl (by decide +kernel) rfl rfl (Nat.le_of_ble_eq_true rfl) d_M_make_2 (fun H locs hP hD hS => ?_)
      have hP : va_P (dC, dI) vwCl [(o, .inr (ciM, [.int (nI (0)), .int (nI (n)), .ref a1, .ref a2, .ref a3, .ref a4, .ref a5, .int (mo), .int (le)])), (a1, .inl (c1, 40, .inl xh)), (a2, .inl (c2, 40, .inl yr)), (a3, .inl (c3, 40, .inr (.inl xb))), (a4, .inl (c4, 40, .inr (.inl yb))), (a5, .inl (c5, 7400, .inl bs))] H := hP
      have hD : va_D A [(o, .inr (ciM, [.int (nI (0)), .int (nI (n)), .ref a1, .ref a2, .ref a3, .ref a4, .ref a5, .int (mo), .int (le)])), (a1, .inl (c1, 40, .inl xh)), (a2, .inl (c2, 40, .inl yr)), (a3, .inl (c3, 40, .inr (.inl xb))), (a4, .inl (c4, 40, .inr (.inl yb))), (a5, .inl (c5, 7400, .inl bs))] := hD
      refine lv_iload_n hx hb d_M_make_5 rfl (lv_at hl 1 rfl) ?_
      refine lv_iconst (v := nI 3) hx hb d_M_make_6 (by decide) ?_
      refine pq_icmp_lt (tgt := 20) (a := 2) (b := 3) hx hb d_M_make_7 (by decide) (by omega) (by omega) (fun c_7 => ?_) (fun c_7 => absurd c_7 (by omega))
      refine lv_iconst (v := nI 1) hx hb d_M_make_20 (by decide) ?_
      refine lv_goto (tgt := 25) hx hb d_M_make_21 (by decide) ?_
      refine lv_istore (lv' := [(4, .int (nI (1))), (0, .ref o), (1, .int (nI (2))), (2, .int (y)), (3, .int (z))]) hx hb d_M_make_25 hl (by decide) rfl (fun ls hl => ?_)
      refine lv_iload_n hx hb d_M_make_27 rfl (lv_at hl 2 rfl) ?_
      refine lv_iconst (v := nI 0) hx hb d_M_make_28 (by decide) ?_
      refine lv_bipush (v := nI 7) hx hb d_M_make_29 (by decide) ?_
      refine vp_callSi (W.runS (As := [.int (nI (2)), .int (nI (0)), .int (nI (7))]) (rest := []) ⟨hx, hb, hml, hown, hts⟩ (c_M_in l dC dI (x := nI 2) (lo := nI 0) (hi := nI 7)) (va_cwS 3 hts (gd_S mb_421 mb_422 mb_23 mb_423) rfl rfl rfl (by decide +kernel) ⟨Nat.le_of_ble_eq_true rfl, Nat.le_of_ble_eq_true rfl⟩) (pw_R_S pw_P0 (hK.sub [] rfl)) rfl rfl hl.1 rfl (lv_room (Nat.le_of_ble_eq_true rfl)) d_M_make_31 ⟨Nat.le_of_ble_eq_true rfl, Nat.le_of_ble_eq_true rfl⟩) (fun r_31 hr_31 => ?_)
      have hre : r_31 = nI 1 := hr_31.elim (fun q => q.1) (fun q => absurd ⟨by decide, by decide⟩ q.2)
      subst hre
      refine pq_if_eq (tgt := 83) (a := 1) hx hb d_M_make_34 (by decide) (by omega) (fun c_34 => absurd c_34 (by omega)) (fun c_34 => ?_)
      refine lv_aload_n hx hb d_M_make_37 rfl (lv_at hl 1 rfl) ?_
      refine lv_iload_n hx hb d_M_make_38 rfl (lv_at hl 3 rfl) ?_
      refine vp_callSi (W.runV (As := [.int (y)]) (rest := []) ⟨hx, hb, hml, hown, hts⟩ (c_M_isWord l dC dI hn (x := y)) (cwV 1 hts (gd_V mb_436 mb_438 mb_5 mb_23 mb_439) rfl rfl rfl (by decide +kernel) ⟨Nat.le_of_ble_eq_true rfl, Nat.le_of_ble_eq_true rfl⟩) (pw_R_V (va_recv hK hP (ci := ciM) (q0 := 0) rfl rfl) hP hK) rfl rfl hl.1 rfl (lv_room (Nat.le_of_ble_eq_true rfl)) d_M_make_39 ⟨Nat.le_of_ble_eq_true rfl, Nat.le_of_ble_eq_true rfl⟩) (fun r_39 hr_39 => ?_)
      rcases hr_39 with ⟨hre, i1, hi1, hx1⟩ | ⟨hre, hno1⟩
      · subst hre
        rw [hx1] at hl
        have hmd1 := hall i1 hi1
        have hmd1_ := hmd1; obtain ⟨hj1, e11, e21, e31, e41, hok1⟩ := hmd1_; have hok1_ := hok1; obtain ⟨hh1, hp01, hp61, hE1⟩ := hok1_
        have ho1 := pw_o_le (Wd i1).2.2 (Wd i1).1 (Wd i1).2.1
        have hc1 := pw_c_le (Wd i1).2.2 (Wd i1).1
        have hb01 := pq_lt60 (pw_b_lt (Wd i1).2.2 0 (Wd i1).1) hh1
        have hb11 := pq_lt60 (pw_b_lt (Wd i1).2.2 (Wd i1).1 (Wd i1).2.1) hp61
        refine pq_if_eq (tgt := 83) (a := 1) hx hb d_M_make_42 (by decide) (by omega) (fun c_42 => absurd c_42 (by omega)) (fun c_42 => ?_)
        refine lv_iload hx hb d_M_make_45 (lv_at hl 0 rfl) ?_
        refine pq_if_eq (tgt := 58) (a := 1) hx hb d_M_make_47 (by decide) (by omega) (fun c_47 => absurd c_47 (by omega)) (fun c_47 => ?_)
        refine lv_aload_n hx hb d_M_make_50 rfl (lv_at hl 1 rfl) ?_
        refine lv_iload_n hx hb d_M_make_51 rfl (lv_at hl 4 rfl) ?_
        refine vp_callSi (W.runV (As := [.int (z)]) (rest := []) ⟨hx, hb, hml, hown, hts⟩ (c_M_isWord l dC dI hn (x := z)) (cwV 1 hts (gd_V mb_436 mb_438 mb_5 mb_23 mb_439) rfl rfl rfl (by decide +kernel) ⟨Nat.le_of_ble_eq_true rfl, Nat.le_of_ble_eq_true rfl⟩) (pw_R_V (va_recv hK hP (ci := ciM) (q0 := 0) rfl rfl) hP hK) rfl rfl hl.1 rfl (lv_room (Nat.le_of_ble_eq_true rfl)) d_M_make_52 ⟨Nat.le_of_ble_eq_true rfl, Nat.le_of_ble_eq_true rfl⟩) (fun r_52 hr_52 => ?_)
        rcases hr_52 with ⟨hre, i2, hi2, hx2⟩ | ⟨hre, hno2⟩
        · subst hre
          rw [hx2] at hl
          have hmd2 := hall i2 hi2
          have hmd2_ := hmd2; obtain ⟨hj2, e12, e22, e32, e42, hok2⟩ := hmd2_; have hok2_ := hok2; obtain ⟨hh2, hp02, hp62, hE2⟩ := hok2_
          have ho2 := pw_o_le (Wd i2).2.2 (Wd i2).1 (Wd i2).2.1
          have hc2 := pw_c_le (Wd i2).2.2 (Wd i2).1
          have hb02 := pq_lt60 (pw_b_lt (Wd i2).2.2 0 (Wd i2).1) hh2
          have hb12 := pq_lt60 (pw_b_lt (Wd i2).2.2 (Wd i2).1 (Wd i2).2.1) hp62
          refine pq_if_eq (tgt := 83) (a := 1) hx hb d_M_make_55 (by decide) (by omega) (fun c_55 => absurd c_55 (by omega)) (fun c_55 => ?_)
          refine lv_iload_n hx hb d_M_make_58 rfl (lv_at hl 2 rfl) ?_
          refine lv_bipush (v := nI 6) hx hb d_M_make_59 (by decide) ?_
          refine pq_icmp_ne (tgt := 74) (a := 2) (b := 6) hx hb d_M_make_61 (by decide) (by omega) (by omega) (fun c_61 => ?_) (fun c_61 => absurd c_61 (by omega))
          refine lv_aload_n hx hb d_M_make_74 rfl (lv_at hl 1 rfl) ?_
          refine va_get (D := (dC, dI)) (ci := ciM) (v := .int (nI (n))) (C := R_M) (T := F_M) (N := 9) hx hb hts (fun w h => List.mem_cons_of_mem _ (in_M w h)) hown hK hP 0 rfl rfl 1 (by decide) (hts (.fieldLink R_M 31 "PeriodWordsModel" "words" "I") (List.mem_cons_of_mem _ mb_384)) (fun _ h9 => h9) rfl d_M_make_75 ?_
          refine lv_bipush (v := nI 40) hx hb d_M_make_78 (by decide) ?_
          refine pq_icmp_ne (tgt := 85) (a := n) (b := 40) hx hb d_M_make_80 (by decide) (by omega) (by omega) (fun c_80 => ?_) (fun c_80 => ?_)
          · refine lv_iload_n hx hb d_M_make_85 rfl (lv_at hl 2 rfl) ?_
            refine lv_iconst (v := nI 5) hx hb d_M_make_86 (by decide) ?_
            refine pq_icmp_ne (tgt := 103) (a := 2) (b := 5) hx hb d_M_make_87 (by decide) (by omega) (by omega) (fun c_87 => ?_) (fun c_87 => absurd c_87 (by omega))
            refine lv_iload_n hx hb d_M_make_103 rfl (lv_at hl 2 rfl) ?_
            refine lv_tableOut (tgt := 173) hx hb d_M_make_104 (Or.inl (by decide)) (by decide) ?_
            refine lv_aload_n hx hb d_M_make_173 rfl (lv_at hl 1 rfl) ?_
            refine lv_iload_n hx hb d_M_make_174 rfl (lv_at hl 2 rfl) ?_
            refine lv_iload_n hx hb d_M_make_175 rfl (lv_at hl 3 rfl) ?_
            refine lv_iload_n hx hb d_M_make_176 rfl (lv_at hl 4 rfl) ?_
            have hFc := va_free (wc := [(o, .inr (ciM, [.int (nI (0)), .int (nI (n)), .ref a1, .ref a2, .ref a3, .ref a4, .ref a5, .int (mo), .int (le)])), (a1, .inl (c1, 40, .inl xh)), (a2, .inl (c2, 40, .inl yr)), (a3, .inl (c3, 40, .inr (.inl xb))), (a4, .inl (c4, 40, .inr (.inl yb))), (a5, .inl (c5, 7400, .inl bs))]) hD hS hA [0, 1, 2, 3, 4, 5] rfl
            refine va_calli (va_runV (As := [.int (nI (2)), .int (nI (i1)), .int (nI (i2))]) (rest := []) ⟨hx, hb, hml, hown, hts⟩ (c_M_joined l dC dI hmd1 hmd2 (how := 2) (d := 0) (by decide) (by omega)) (cwV 3 hts (gd_V mb_478 mb_480 mb_14 mb_23 mb_481) rfl rfl rfl (by decide +kernel) ⟨Nat.le_of_ble_eq_true rfl, Nat.le_of_ble_eq_true rfl⟩) ⟨md_blind, va_recv hK hP (ci := ciM) (q0 := 0) rfl rfl, fun U hU hW => ⟨rfl, by rw [hU], by rw [hU]; exact hP, va_K.moved hW.alike hK, hD.weaken (fun _ _ _ _ => trivial)⟩⟩ rfl rfl hl.1 rfl (lv_room (Nat.le_of_ble_eq_true rfl)) d_M_make_177 ⟨Nat.le_of_ble_eq_true rfl, Nat.le_of_ble_eq_true rfl⟩) hS (fun q _ h => hFc q h) hFc (fun r_177 u_177 t_ H1 locs ht_ hvm_ hr_177 hB_ hz1_ hk1_ hS => ?_)
            obtain ⟨hP1_, hK1_, hD1_⟩ := hB_
            rw [ht_] at hP1_
            clear hP hD
            have hP := hP1_
            have hD := hD1_.weaken (fun k q _ h => hFc q.1 h)
            generalize H1 = H at hP hS ⊢
            have hP : va_P (dC, dI) vwCl [(o, .inr (ciM, [.int (u_177.1), .int (nI (u_177.2.1)), .ref a1, .ref a2, .ref a3, .ref a4, .ref a5, .int (u_177.2.2.1), .int (u_177.2.2.2.1)])), (a1, .inl (c1, 40, .inl u_177.2.2.2.2.1)), (a2, .inl (c2, 40, .inl u_177.2.2.2.2.2.1)), (a3, .inl (c3, 40, .inr (.inl u_177.2.2.2.2.2.2.1))), (a4, .inl (c4, 40, .inr (.inl u_177.2.2.2.2.2.2.2.1))), (a5, .inl (c5, 7400, .inl u_177.2.2.2.2.2.2.2.2))] H := hP
            have hD : va_D A [(o, .inr (ciM, [.int (u_177.1), .int (nI (u_177.2.1)), .ref a1, .ref a2, .ref a3, .ref a4, .ref a5, .int (u_177.2.2.1), .int (u_177.2.2.2.1)])), (a1, .inl (c1, 40, .inl u_177.2.2.2.2.1)), (a2, .inl (c2, 40, .inl u_177.2.2.2.2.2.1)), (a3, .inl (c3, 40, .inr (.inl u_177.2.2.2.2.2.2.1))), (a4, .inl (c4, 40, .inr (.inl u_177.2.2.2.2.2.2.2.1))), (a5, .inl (c5, 7400, .inl u_177.2.2.2.2.2.2.2.2))] := hD
            exact W.iret (v := (r_177)) hx hb hr (fun t_ ht_ hW_ => ⟨⟨_, u_177, rfl, Or.inl ⟨2, i1, i2, 0, ⟨by omega, by decide, hxk, hi1, hx1, fun q => ⟨hi2, hx2⟩, fun q => absurd q (by decide), fun q => absurd (show sp_two 2 by unfold sp_two; omega) q, fun q => rfl⟩, fun q => absurd q (by decide), hr_177.1, hr_177.2⟩, by rw [ht_]; exact hP, va_K.moved hW_.alike hK, hD⟩, hS.F ht_⟩) hS.2.2 d_M_make_180
          · refine lv_iconst (v := (-1)) hx hb d_M_make_83 (by decide) ?_
            exact W.iret (v := (-1)) hx hb hr (fun t_ ht_ hW_ => ⟨⟨_, (nI (0), n, mo, le, xh, yr, xb, yb, bs), rfl, Or.inr (Or.inr ⟨fun ⟨k9, i, j, d, hn4, hk9, e1, hi, e2, h2, h6, h7, h8⟩ => absurd hn4 (by omega), rfl, rfl⟩), by rw [ht_]; exact hP, va_K.moved hW_.alike hK, hD⟩, hS.F ht_⟩) hS.2.2 d_M_make_84
        · subst hre
          refine pq_if_eq (tgt := 83) (a := 0) hx hb d_M_make_55 (by decide) (by omega) (fun c_55 => ?_) (fun c_55 => absurd c_55 (by omega))
          refine lv_iconst (v := (-1)) hx hb d_M_make_83 (by decide) ?_
          exact W.iret (v := (-1)) hx hb hr (fun t_ ht_ hW_ => ⟨⟨_, (nI (0), n, mo, le, xh, yr, xb, yb, bs), rfl, Or.inr (Or.inr ⟨fun ⟨k9, i, j, d, hn4, hk9, e1, hi, e2, h2, h6, h7, h8⟩ => (by have ek : k9 = 2 := (nI_eq (by omega) (by decide)).mp (e1.symm.trans hxk); subst ek; exact hno2 ⟨j, (h2 (by unfold sp_two; omega)).1, (h2 (by unfold sp_two; omega)).2⟩), rfl, rfl⟩), by rw [ht_]; exact hP, va_K.moved hW_.alike hK, hD⟩, hS.F ht_⟩) hS.2.2 d_M_make_84
      · subst hre
        refine pq_if_eq (tgt := 83) (a := 0) hx hb d_M_make_42 (by decide) (by omega) (fun c_42 => ?_) (fun c_42 => absurd c_42 (by omega))
        refine lv_iconst (v := (-1)) hx hb d_M_make_83 (by decide) ?_
        exact W.iret (v := (-1)) hx hb hr (fun t_ ht_ hW_ => ⟨⟨_, (nI (0), n, mo, le, xh, yr, xb, yb, bs), rfl, Or.inr (Or.inr ⟨fun ⟨k9, i, j, d, hn4, hk9, e1, hi, e2, h2, h6, h7, h8⟩ => hno1 ⟨i, hi, e2⟩, rfl, rfl⟩), by rw [ht_]; exact hP, va_K.moved hW_.alike hK, hD⟩, hS.F ht_⟩) hS.2.2 d_M_make_84
    · rw [hxk] at hl
      refine lv_aload_n hx hb d_M_make_0 rfl (lv_at hl 0 rfl) ?_
      refine lv_iconst (v := nI 0) hx hb d_M_make_1 (by decide) ?_
      refine va_put (D := (dC, dI)) (ci := ciM) (v := .int (nI (0))) (ty := .int) (C := R_M) (T := F_M) (N := 9) hx hb hts (fun w h => List.mem_cons_of_mem _ (in_M w h)) t_M t_M_ok n_M hown hK hP hD hS 0 rfl rfl 0 (by decide) (hts (.fieldLink R_M 27 "PeriodWordsModel" "thrown" "I") (List.mem_cons_of_mem _ mb_383)) (fun _ h9 => h9) rfl (by decide +kernel) rfl rfl (Nat.le_of_ble_eq_true rfl) d_M_make_2 (fun H locs hP hD hS => ?_)
      have hP : va_P (dC, dI) vwCl [(o, .inr (ciM, [.int (nI (0)), .int (nI (n)), .ref a1, .ref a2, .ref a3, .ref a4, .ref a5, .int (mo), .int (le)])), (a1, .inl (c1, 40, .inl xh)), (a2, .inl (c2, 40, .inl yr)), (a3, .inl (c3, 40, .inr (.inl xb))), (a4, .inl (c4, 40, .inr (.inl yb))), (a5, .inl (c5, 7400, .inl bs))] H := hP
      have hD : va_D A [(o, .inr (ciM, [.int (nI (0)), .int (nI (n)), .ref a1, .ref a2, .ref a3, .ref a4, .ref a5, .int (mo), .int (le)])), (a1, .inl (c1, 40, .inl xh)), (a2, .inl (c2, 40, .inl yr)), (a3, .inl (c3, 40, .inr (.inl xb))), (a4, .inl (c4, 40, .inr (.inl yb))), (a5, .inl (c5, 7400, .inl bs))] := hD
      refine lv_iload_n hx hb d_M_make_5 rfl (lv_at hl 1 rfl) ?_
      refine lv_iconst (v := nI 3) hx hb d_M_make_6 (by decide) ?_
      refine pq_icmp_lt (tgt := 20) (a := 3) (b := 3) hx hb d_M_make_7 (by decide) (by omega) (by omega) (fun c_7 => absurd c_7 (by omega)) (fun c_7 => ?_)
      refine lv_iload_n hx hb d_M_make_10 rfl (lv_at hl 1 rfl) ?_
      refine lv_iconst (v := nI 4) hx hb d_M_make_11 (by decide) ?_
      refine pq_icmp_eq (tgt := 20) (a := 3) (b := 4) hx hb d_M_make_12 (by decide) (by omega) (by omega) (fun c_12 => absurd c_12 (by omega)) (fun c_12 => ?_)
      refine lv_iload_n hx hb d_M_make_15 rfl (lv_at hl 1 rfl) ?_
      refine lv_iconst (v := nI 5) hx hb d_M_make_16 (by decide) ?_
      refine pq_icmp_ne (tgt := 24) (a := 3) (b := 5) hx hb d_M_make_17 (by decide) (by omega) (by omega) (fun c_17 => ?_) (fun c_17 => absurd c_17 (by omega))
      refine lv_iconst (v := nI 0) hx hb d_M_make_24 (by decide) ?_
      refine lv_istore (lv' := [(4, .int (nI (0))), (0, .ref o), (1, .int (nI (3))), (2, .int (y)), (3, .int (z))]) hx hb d_M_make_25 hl (by decide) rfl (fun ls hl => ?_)
      refine lv_iload_n hx hb d_M_make_27 rfl (lv_at hl 2 rfl) ?_
      refine lv_iconst (v := nI 0) hx hb d_M_make_28 (by decide) ?_
      refine lv_bipush (v := nI 7) hx hb d_M_make_29 (by decide) ?_
      refine vp_callSi (W.runS (As := [.int (nI (3)), .int (nI (0)), .int (nI (7))]) (rest := []) ⟨hx, hb, hml, hown, hts⟩ (c_M_in l dC dI (x := nI 3) (lo := nI 0) (hi := nI 7)) (va_cwS 3 hts (gd_S mb_421 mb_422 mb_23 mb_423) rfl rfl rfl (by decide +kernel) ⟨Nat.le_of_ble_eq_true rfl, Nat.le_of_ble_eq_true rfl⟩) (pw_R_S pw_P0 (hK.sub [] rfl)) rfl rfl hl.1 rfl (lv_room (Nat.le_of_ble_eq_true rfl)) d_M_make_31 ⟨Nat.le_of_ble_eq_true rfl, Nat.le_of_ble_eq_true rfl⟩) (fun r_31 hr_31 => ?_)
      have hre : r_31 = nI 1 := hr_31.elim (fun q => q.1) (fun q => absurd ⟨by decide, by decide⟩ q.2)
      subst hre
      refine pq_if_eq (tgt := 83) (a := 1) hx hb d_M_make_34 (by decide) (by omega) (fun c_34 => absurd c_34 (by omega)) (fun c_34 => ?_)
      refine lv_aload_n hx hb d_M_make_37 rfl (lv_at hl 1 rfl) ?_
      refine lv_iload_n hx hb d_M_make_38 rfl (lv_at hl 3 rfl) ?_
      refine vp_callSi (W.runV (As := [.int (y)]) (rest := []) ⟨hx, hb, hml, hown, hts⟩ (c_M_isWord l dC dI hn (x := y)) (cwV 1 hts (gd_V mb_436 mb_438 mb_5 mb_23 mb_439) rfl rfl rfl (by decide +kernel) ⟨Nat.le_of_ble_eq_true rfl, Nat.le_of_ble_eq_true rfl⟩) (pw_R_V (va_recv hK hP (ci := ciM) (q0 := 0) rfl rfl) hP hK) rfl rfl hl.1 rfl (lv_room (Nat.le_of_ble_eq_true rfl)) d_M_make_39 ⟨Nat.le_of_ble_eq_true rfl, Nat.le_of_ble_eq_true rfl⟩) (fun r_39 hr_39 => ?_)
      rcases hr_39 with ⟨hre, i1, hi1, hx1⟩ | ⟨hre, hno1⟩
      · subst hre
        rw [hx1] at hl
        have hmd1 := hall i1 hi1
        have hmd1_ := hmd1; obtain ⟨hj1, e11, e21, e31, e41, hok1⟩ := hmd1_; have hok1_ := hok1; obtain ⟨hh1, hp01, hp61, hE1⟩ := hok1_
        have ho1 := pw_o_le (Wd i1).2.2 (Wd i1).1 (Wd i1).2.1
        have hc1 := pw_c_le (Wd i1).2.2 (Wd i1).1
        have hb01 := pq_lt60 (pw_b_lt (Wd i1).2.2 0 (Wd i1).1) hh1
        have hb11 := pq_lt60 (pw_b_lt (Wd i1).2.2 (Wd i1).1 (Wd i1).2.1) hp61
        refine pq_if_eq (tgt := 83) (a := 1) hx hb d_M_make_42 (by decide) (by omega) (fun c_42 => absurd c_42 (by omega)) (fun c_42 => ?_)
        refine lv_iload hx hb d_M_make_45 (lv_at hl 0 rfl) ?_
        refine pq_if_eq (tgt := 58) (a := 0) hx hb d_M_make_47 (by decide) (by omega) (fun c_47 => ?_) (fun c_47 => absurd c_47 (by omega))
        refine lv_iload_n hx hb d_M_make_58 rfl (lv_at hl 2 rfl) ?_
        refine lv_bipush (v := nI 6) hx hb d_M_make_59 (by decide) ?_
        refine pq_icmp_ne (tgt := 74) (a := 3) (b := 6) hx hb d_M_make_61 (by decide) (by omega) (by omega) (fun c_61 => ?_) (fun c_61 => absurd c_61 (by omega))
        refine lv_aload_n hx hb d_M_make_74 rfl (lv_at hl 1 rfl) ?_
        refine va_get (D := (dC, dI)) (ci := ciM) (v := .int (nI (n))) (C := R_M) (T := F_M) (N := 9) hx hb hts (fun w h => List.mem_cons_of_mem _ (in_M w h)) hown hK hP 0 rfl rfl 1 (by decide) (hts (.fieldLink R_M 31 "PeriodWordsModel" "words" "I") (List.mem_cons_of_mem _ mb_384)) (fun _ h9 => h9) rfl d_M_make_75 ?_
        refine lv_bipush (v := nI 40) hx hb d_M_make_78 (by decide) ?_
        refine pq_icmp_ne (tgt := 85) (a := n) (b := 40) hx hb d_M_make_80 (by decide) (by omega) (by omega) (fun c_80 => ?_) (fun c_80 => ?_)
        · refine lv_iload_n hx hb d_M_make_85 rfl (lv_at hl 2 rfl) ?_
          refine lv_iconst (v := nI 5) hx hb d_M_make_86 (by decide) ?_
          refine pq_icmp_ne (tgt := 103) (a := 3) (b := 5) hx hb d_M_make_87 (by decide) (by omega) (by omega) (fun c_87 => ?_) (fun c_87 => absurd c_87 (by omega))
          refine lv_iload_n hx hb d_M_make_103 rfl (lv_at hl 2 rfl) ?_
          refine lv_tableIn (tgt := 140) hx hb d_M_make_104 (by decide) (by decide) rfl (by decide) ?_
          refine lv_aload_n hx hb d_M_make_140 rfl (lv_at hl 1 rfl) ?_
          refine lv_iload_n hx hb d_M_make_141 rfl (lv_at hl 3 rfl) ?_
          have hFc := va_free (wc := [(o, .inr (ciM, [.int (nI (0)), .int (nI (n)), .ref a1, .ref a2, .ref a3, .ref a4, .ref a5, .int (mo), .int (le)])), (a1, .inl (c1, 40, .inl xh)), (a2, .inl (c2, 40, .inl yr)), (a3, .inl (c3, 40, .inr (.inl xb))), (a4, .inl (c4, 40, .inr (.inl yb))), (a5, .inl (c5, 7400, .inl bs))]) hD hS hA [0, 1, 2, 3, 4, 5] rfl
          refine va_calli (va_runV (As := [.int (nI (i1))]) (rest := []) ⟨hx, hb, hml, hown, hts⟩ (c_M_opposite l dC dI hmd1 (f2 := (Wd i1).2.2) (d := 0) (by omega)) (cwV 1 hts (gd_V mb_451 mb_453 mb_8 mb_23 mb_454) rfl rfl rfl (by decide +kernel) ⟨Nat.le_of_ble_eq_true rfl, Nat.le_of_ble_eq_true rfl⟩) ⟨md_blind, va_recv hK hP (ci := ciM) (q0 := 0) rfl rfl, fun U hU hW => ⟨rfl, by rw [hU], by rw [hU]; exact hP, va_K.moved hW.alike hK, hD.weaken (fun _ _ _ _ => trivial)⟩⟩ rfl rfl hl.1 rfl (lv_room (Nat.le_of_ble_eq_true rfl)) d_M_make_142 ⟨Nat.le_of_ble_eq_true rfl, Nat.le_of_ble_eq_true rfl⟩) hS (fun q _ h => hFc q h) hFc (fun r_142 u_142 t_ H1 locs ht_ hvm_ hr_142 hB_ hz1_ hk1_ hS => ?_)
          obtain ⟨hP1_, hK1_, hD1_⟩ := hB_
          rw [ht_] at hP1_
          clear hP hD
          have hP := hP1_
          have hD := hD1_.weaken (fun k q _ h => hFc q.1 h)
          generalize H1 = H at hP hS ⊢
          have hP : va_P (dC, dI) vwCl [(o, .inr (ciM, [.int (u_142.1), .int (nI (u_142.2.1)), .ref a1, .ref a2, .ref a3, .ref a4, .ref a5, .int (u_142.2.2.1), .int (u_142.2.2.2.1)])), (a1, .inl (c1, 40, .inl u_142.2.2.2.2.1)), (a2, .inl (c2, 40, .inl u_142.2.2.2.2.2.1)), (a3, .inl (c3, 40, .inr (.inl u_142.2.2.2.2.2.2.1))), (a4, .inl (c4, 40, .inr (.inl u_142.2.2.2.2.2.2.2.1))), (a5, .inl (c5, 7400, .inl u_142.2.2.2.2.2.2.2.2))] H := hP
          have hD : va_D A [(o, .inr (ciM, [.int (u_142.1), .int (nI (u_142.2.1)), .ref a1, .ref a2, .ref a3, .ref a4, .ref a5, .int (u_142.2.2.1), .int (u_142.2.2.2.1)])), (a1, .inl (c1, 40, .inl u_142.2.2.2.2.1)), (a2, .inl (c2, 40, .inl u_142.2.2.2.2.2.1)), (a3, .inl (c3, 40, .inr (.inl u_142.2.2.2.2.2.2.1))), (a4, .inl (c4, 40, .inr (.inl u_142.2.2.2.2.2.2.2.1))), (a5, .inl (c5, 7400, .inl u_142.2.2.2.2.2.2.2.2))] := hD
          exact W.iret (v := (r_142)) hx hb hr (fun t_ ht_ hW_ => ⟨⟨_, u_142, rfl, Or.inl ⟨3, i1, i1, 0, ⟨by omega, by decide, hxk, hi1, hx1, fun q => absurd q (by unfold sp_two; omega), fun q => absurd q (by decide), fun q => rfl, fun q => rfl⟩, fun q => absurd q (by decide), hr_142.1, hr_142.2⟩, by rw [ht_]; exact hP, va_K.moved hW_.alike hK, hD⟩, hS.F ht_⟩) hS.2.2 d_M_make_145
        · refine lv_iconst (v := (-1)) hx hb d_M_make_83 (by decide) ?_
          exact W.iret (v := (-1)) hx hb hr (fun t_ ht_ hW_ => ⟨⟨_, (nI (0), n, mo, le, xh, yr, xb, yb, bs), rfl, Or.inr (Or.inr ⟨fun ⟨k9, i, j, d, hn4, hk9, e1, hi, e2, h2, h6, h7, h8⟩ => absurd hn4 (by omega), rfl, rfl⟩), by rw [ht_]; exact hP, va_K.moved hW_.alike hK, hD⟩, hS.F ht_⟩) hS.2.2 d_M_make_84
      · subst hre
        refine pq_if_eq (tgt := 83) (a := 0) hx hb d_M_make_42 (by decide) (by omega) (fun c_42 => ?_) (fun c_42 => absurd c_42 (by omega))
        refine lv_iconst (v := (-1)) hx hb d_M_make_83 (by decide) ?_
        exact W.iret (v := (-1)) hx hb hr (fun t_ ht_ hW_ => ⟨⟨_, (nI (0), n, mo, le, xh, yr, xb, yb, bs), rfl, Or.inr (Or.inr ⟨fun ⟨k9, i, j, d, hn4, hk9, e1, hi, e2, h2, h6, h7, h8⟩ => hno1 ⟨i, hi, e2⟩, rfl, rfl⟩), by rw [ht_]; exact hP, va_K.moved hW_.alike hK, hD⟩, hS.F ht_⟩) hS.2.2 d_M_make_84
    · rw [hxk] at hl
      refine lv_aload_n hx hb d_M_make_0 rfl (lv_at hl 0 rfl) ?_
      refine lv_iconst (v := nI 0) hx hb d_M_make_1 (by decide) ?_
      refine va_put (D := (dC, dI)) (ci := ciM) (v := .int (nI (0))) (ty := .int) (C := R_M) (T := F_M) (N := 9) hx hb hts (fun w h => List.mem_cons_of_mem _ (in_M w h)) t_M t_M_ok n_M hown hK hP hD hS 0 rfl rfl 0 (by decide) (hts (.fieldLink R_M 27 "PeriodWordsModel" "thrown" "I") (List.mem_cons_of_mem _ mb_383)) (fun _ h9 => h9) rfl (by decide +kernel) rfl rfl (Nat.le_of_ble_eq_true rfl) d_M_make_2 (fun H locs hP hD hS => ?_)
      have hP : va_P (dC, dI) vwCl [(o, .inr (ciM, [.int (nI (0)), .int (nI (n)), .ref a1, .ref a2, .ref a3, .ref a4, .ref a5, .int (mo), .int (le)])), (a1, .inl (c1, 40, .inl xh)), (a2, .inl (c2, 40, .inl yr)), (a3, .inl (c3, 40, .inr (.inl xb))), (a4, .inl (c4, 40, .inr (.inl yb))), (a5, .inl (c5, 7400, .inl bs))] H := hP
      have hD : va_D A [(o, .inr (ciM, [.int (nI (0)), .int (nI (n)), .ref a1, .ref a2, .ref a3, .ref a4, .ref a5, .int (mo), .int (le)])), (a1, .inl (c1, 40, .inl xh)), (a2, .inl (c2, 40, .inl yr)), (a3, .inl (c3, 40, .inr (.inl xb))), (a4, .inl (c4, 40, .inr (.inl yb))), (a5, .inl (c5, 7400, .inl bs))] := hD
      refine lv_iload_n hx hb d_M_make_5 rfl (lv_at hl 1 rfl) ?_
      refine lv_iconst (v := nI 3) hx hb d_M_make_6 (by decide) ?_
      refine pq_icmp_lt (tgt := 20) (a := 4) (b := 3) hx hb d_M_make_7 (by decide) (by omega) (by omega) (fun c_7 => absurd c_7 (by omega)) (fun c_7 => ?_)
      refine lv_iload_n hx hb d_M_make_10 rfl (lv_at hl 1 rfl) ?_
      refine lv_iconst (v := nI 4) hx hb d_M_make_11 (by decide) ?_
      refine pq_icmp_eq (tgt := 20) (a := 4) (b := 4) hx hb d_M_make_12 (by decide) (by omega) (by omega) (fun c_12 => ?_) (fun c_12 => absurd c_12 (by omega))
      refine lv_iconst (v := nI 1) hx hb d_M_make_20 (by decide) ?_
      refine lv_goto (tgt := 25) hx hb d_M_make_21 (by decide) ?_
      refine lv_istore (lv' := [(4, .int (nI (1))), (0, .ref o), (1, .int (nI (4))), (2, .int (y)), (3, .int (z))]) hx hb d_M_make_25 hl (by decide) rfl (fun ls hl => ?_)
      refine lv_iload_n hx hb d_M_make_27 rfl (lv_at hl 2 rfl) ?_
      refine lv_iconst (v := nI 0) hx hb d_M_make_28 (by decide) ?_
      refine lv_bipush (v := nI 7) hx hb d_M_make_29 (by decide) ?_
      refine vp_callSi (W.runS (As := [.int (nI (4)), .int (nI (0)), .int (nI (7))]) (rest := []) ⟨hx, hb, hml, hown, hts⟩ (c_M_in l dC dI (x := nI 4) (lo := nI 0) (hi := nI 7)) (va_cwS 3 hts (gd_S mb_421 mb_422 mb_23 mb_423) rfl rfl rfl (by decide +kernel) ⟨Nat.le_of_ble_eq_true rfl, Nat.le_of_ble_eq_true rfl⟩) (pw_R_S pw_P0 (hK.sub [] rfl)) rfl rfl hl.1 rfl (lv_room (Nat.le_of_ble_eq_true rfl)) d_M_make_31 ⟨Nat.le_of_ble_eq_true rfl, Nat.le_of_ble_eq_true rfl⟩) (fun r_31 hr_31 => ?_)
      have hre : r_31 = nI 1 := hr_31.elim (fun q => q.1) (fun q => absurd ⟨by decide, by decide⟩ q.2)
      subst hre
      refine pq_if_eq (tgt := 83) (a := 1) hx hb d_M_make_34 (by decide) (by omega) (fun c_34 => absurd c_34 (by omega)) (fun c_34 => ?_)
      refine lv_aload_n hx hb d_M_make_37 rfl (lv_at hl 1 rfl) ?_
      refine lv_iload_n hx hb d_M_make_38 rfl (lv_at hl 3 rfl) ?_
      refine vp_callSi (W.runV (As := [.int (y)]) (rest := []) ⟨hx, hb, hml, hown, hts⟩ (c_M_isWord l dC dI hn (x := y)) (cwV 1 hts (gd_V mb_436 mb_438 mb_5 mb_23 mb_439) rfl rfl rfl (by decide +kernel) ⟨Nat.le_of_ble_eq_true rfl, Nat.le_of_ble_eq_true rfl⟩) (pw_R_V (va_recv hK hP (ci := ciM) (q0 := 0) rfl rfl) hP hK) rfl rfl hl.1 rfl (lv_room (Nat.le_of_ble_eq_true rfl)) d_M_make_39 ⟨Nat.le_of_ble_eq_true rfl, Nat.le_of_ble_eq_true rfl⟩) (fun r_39 hr_39 => ?_)
      rcases hr_39 with ⟨hre, i1, hi1, hx1⟩ | ⟨hre, hno1⟩
      · subst hre
        rw [hx1] at hl
        have hmd1 := hall i1 hi1
        have hmd1_ := hmd1; obtain ⟨hj1, e11, e21, e31, e41, hok1⟩ := hmd1_; have hok1_ := hok1; obtain ⟨hh1, hp01, hp61, hE1⟩ := hok1_
        have ho1 := pw_o_le (Wd i1).2.2 (Wd i1).1 (Wd i1).2.1
        have hc1 := pw_c_le (Wd i1).2.2 (Wd i1).1
        have hb01 := pq_lt60 (pw_b_lt (Wd i1).2.2 0 (Wd i1).1) hh1
        have hb11 := pq_lt60 (pw_b_lt (Wd i1).2.2 (Wd i1).1 (Wd i1).2.1) hp61
        refine pq_if_eq (tgt := 83) (a := 1) hx hb d_M_make_42 (by decide) (by omega) (fun c_42 => absurd c_42 (by omega)) (fun c_42 => ?_)
        refine lv_iload hx hb d_M_make_45 (lv_at hl 0 rfl) ?_
        refine pq_if_eq (tgt := 58) (a := 1) hx hb d_M_make_47 (by decide) (by omega) (fun c_47 => absurd c_47 (by omega)) (fun c_47 => ?_)
        refine lv_aload_n hx hb d_M_make_50 rfl (lv_at hl 1 rfl) ?_
        refine lv_iload_n hx hb d_M_make_51 rfl (lv_at hl 4 rfl) ?_
        refine vp_callSi (W.runV (As := [.int (z)]) (rest := []) ⟨hx, hb, hml, hown, hts⟩ (c_M_isWord l dC dI hn (x := z)) (cwV 1 hts (gd_V mb_436 mb_438 mb_5 mb_23 mb_439) rfl rfl rfl (by decide +kernel) ⟨Nat.le_of_ble_eq_true rfl, Nat.le_of_ble_eq_true rfl⟩) (pw_R_V (va_recv hK hP (ci := ciM) (q0 := 0) rfl rfl) hP hK) rfl rfl hl.1 rfl (lv_room (Nat.le_of_ble_eq_true rfl)) d_M_make_52 ⟨Nat.le_of_ble_eq_true rfl, Nat.le_of_ble_eq_true rfl⟩) (fun r_52 hr_52 => ?_)
        rcases hr_52 with ⟨hre, i2, hi2, hx2⟩ | ⟨hre, hno2⟩
        · subst hre
          rw [hx2] at hl
          have hmd2 := hall i2 hi2
          have hmd2_ := hmd2; obtain ⟨hj2, e12, e22, e32, e42, hok2⟩ := hmd2_; have hok2_ := hok2; obtain ⟨hh2, hp02, hp62, hE2⟩ := hok2_
          have ho2 := pw_o_le (Wd i2).2.2 (Wd i2).1 (Wd i2).2.1
          have hc2 := pw_c_le (Wd i2).2.2 (Wd i2).1
          have hb02 := pq_lt60 (pw_b_lt (Wd i2).2.2 0 (Wd i2).1) hh2
          have hb12 := pq_lt60 (pw_b_lt (Wd i2).2.2 (Wd i2).1 (Wd i2).2.1) hp62
          refine pq_if_eq (tgt := 83) (a := 1) hx hb d_M_make_55 (by decide) (by omega) (fun c_55 => absurd c_55 (by omega)) (fun c_55 => ?_)
          refine lv_iload_n hx hb d_M_make_58 rfl (lv_at hl 2 rfl) ?_
          refine lv_bipush (v := nI 6) hx hb d_M_make_59 (by decide) ?_
          refine pq_icmp_ne (tgt := 74) (a := 4) (b := 6) hx hb d_M_make_61 (by decide) (by omega) (by omega) (fun c_61 => ?_) (fun c_61 => absurd c_61 (by omega))
          refine lv_aload_n hx hb d_M_make_74 rfl (lv_at hl 1 rfl) ?_
          refine va_get (D := (dC, dI)) (ci := ciM) (v := .int (nI (n))) (C := R_M) (T := F_M) (N := 9) hx hb hts (fun w h => List.mem_cons_of_mem _ (in_M w h)) hown hK hP 0 rfl rfl 1 (by decide) (hts (.fieldLink R_M 31 "PeriodWordsModel" "words" "I") (List.mem_cons_of_mem _ mb_384)) (fun _ h9 => h9) rfl d_M_make_75 ?_
          refine lv_bipush (v := nI 40) hx hb d_M_make_78 (by decide) ?_
          refine pq_icmp_ne (tgt := 85) (a := n) (b := 40) hx hb d_M_make_80 (by decide) (by omega) (by omega) (fun c_80 => ?_) (fun c_80 => ?_)
          · refine lv_iload_n hx hb d_M_make_85 rfl (lv_at hl 2 rfl) ?_
            refine lv_iconst (v := nI 5) hx hb d_M_make_86 (by decide) ?_
            refine pq_icmp_ne (tgt := 103) (a := 4) (b := 5) hx hb d_M_make_87 (by decide) (by omega) (by omega) (fun c_87 => ?_) (fun c_87 => absurd c_87 (by omega))
            refine lv_iload_n hx hb d_M_make_103 rfl (lv_at hl 2 rfl) ?_
            refine lv_tableIn (tgt := 146) hx hb d_M_make_104 (by decide) (by decide) rfl (by decide) ?_
            refine lv_aload_n hx hb d_M_make_146 rfl (lv_at hl 1 rfl) ?_
            refine lv_iload_n hx hb d_M_make_147 rfl (lv_at hl 3 rfl) ?_
            refine lv_iload_n hx hb d_M_make_148 rfl (lv_at hl 4 rfl) ?_
            have hFc := va_free (wc := [(o, .inr (ciM, [.int (nI (0)), .int (nI (n)), .ref a1, .ref a2, .ref a3, .ref a4, .ref a5, .int (mo), .int (le)])), (a1, .inl (c1, 40, .inl xh)), (a2, .inl (c2, 40, .inl yr)), (a3, .inl (c3, 40, .inr (.inl xb))), (a4, .inl (c4, 40, .inr (.inl yb))), (a5, .inl (c5, 7400, .inl bs))]) hD hS hA [0, 1, 2, 3, 4, 5] rfl
            refine va_calli (va_runV (As := [.int (nI (i1)), .int (nI (i2))]) (rest := []) ⟨hx, hb, hml, hown, hts⟩ (c_M_on l dC dI hmd1 hmd2 (d := 0) (by omega)) (cwV 2 hts (gd_V mb_459 mb_461 mb_10 mb_23 mb_462) rfl rfl rfl (by decide +kernel) ⟨Nat.le_of_ble_eq_true rfl, Nat.le_of_ble_eq_true rfl⟩) ⟨md_blind, va_recv hK hP (ci := ciM) (q0 := 0) rfl rfl, fun U hU hW => ⟨rfl, by rw [hU], by rw [hU]; exact hP, va_K.moved hW.alike hK, hD.weaken (fun _ _ _ _ => trivial)⟩⟩ rfl rfl hl.1 rfl (lv_room (Nat.le_of_ble_eq_true rfl)) d_M_make_149 ⟨Nat.le_of_ble_eq_true rfl, Nat.le_of_ble_eq_true rfl⟩) hS (fun q _ h => hFc q h) hFc (fun r_149 u_149 t_ H1 locs ht_ hvm_ hr_149 hB_ hz1_ hk1_ hS => ?_)
            obtain ⟨hP1_, hK1_, hD1_⟩ := hB_
            rw [ht_] at hP1_
            clear hP hD
            have hP := hP1_
            have hD := hD1_.weaken (fun k q _ h => hFc q.1 h)
            generalize H1 = H at hP hS ⊢
            have hP : va_P (dC, dI) vwCl [(o, .inr (ciM, [.int (u_149.1), .int (nI (u_149.2.1)), .ref a1, .ref a2, .ref a3, .ref a4, .ref a5, .int (u_149.2.2.1), .int (u_149.2.2.2.1)])), (a1, .inl (c1, 40, .inl u_149.2.2.2.2.1)), (a2, .inl (c2, 40, .inl u_149.2.2.2.2.2.1)), (a3, .inl (c3, 40, .inr (.inl u_149.2.2.2.2.2.2.1))), (a4, .inl (c4, 40, .inr (.inl u_149.2.2.2.2.2.2.2.1))), (a5, .inl (c5, 7400, .inl u_149.2.2.2.2.2.2.2.2))] H := hP
            have hD : va_D A [(o, .inr (ciM, [.int (u_149.1), .int (nI (u_149.2.1)), .ref a1, .ref a2, .ref a3, .ref a4, .ref a5, .int (u_149.2.2.1), .int (u_149.2.2.2.1)])), (a1, .inl (c1, 40, .inl u_149.2.2.2.2.1)), (a2, .inl (c2, 40, .inl u_149.2.2.2.2.2.1)), (a3, .inl (c3, 40, .inr (.inl u_149.2.2.2.2.2.2.1))), (a4, .inl (c4, 40, .inr (.inl u_149.2.2.2.2.2.2.2.1))), (a5, .inl (c5, 7400, .inl u_149.2.2.2.2.2.2.2.2))] := hD
            exact W.iret (v := (r_149)) hx hb hr (fun t_ ht_ hW_ => ⟨⟨_, u_149, rfl, Or.inl ⟨4, i1, i2, 0, ⟨by omega, by decide, hxk, hi1, hx1, fun q => ⟨hi2, hx2⟩, fun q => absurd q (by decide), fun q => absurd (show sp_two 4 by unfold sp_two; omega) q, fun q => rfl⟩, fun q => absurd q (by decide), hr_149.1, hr_149.2⟩, by rw [ht_]; exact hP, va_K.moved hW_.alike hK, hD⟩, hS.F ht_⟩) hS.2.2 d_M_make_152
          · refine lv_iconst (v := (-1)) hx hb d_M_make_83 (by decide) ?_
            exact W.iret (v := (-1)) hx hb hr (fun t_ ht_ hW_ => ⟨⟨_, (nI (0), n, mo, le, xh, yr, xb, yb, bs), rfl, Or.inr (Or.inr ⟨fun ⟨k9, i, j, d, hn4, hk9, e1, hi, e2, h2, h6, h7, h8⟩ => absurd hn4 (by omega), rfl, rfl⟩), by rw [ht_]; exact hP, va_K.moved hW_.alike hK, hD⟩, hS.F ht_⟩) hS.2.2 d_M_make_84
        · subst hre
          refine pq_if_eq (tgt := 83) (a := 0) hx hb d_M_make_55 (by decide) (by omega) (fun c_55 => ?_) (fun c_55 => absurd c_55 (by omega))
          refine lv_iconst (v := (-1)) hx hb d_M_make_83 (by decide) ?_
          exact W.iret (v := (-1)) hx hb hr (fun t_ ht_ hW_ => ⟨⟨_, (nI (0), n, mo, le, xh, yr, xb, yb, bs), rfl, Or.inr (Or.inr ⟨fun ⟨k9, i, j, d, hn4, hk9, e1, hi, e2, h2, h6, h7, h8⟩ => (by have ek : k9 = 4 := (nI_eq (by omega) (by decide)).mp (e1.symm.trans hxk); subst ek; exact hno2 ⟨j, (h2 (by unfold sp_two; omega)).1, (h2 (by unfold sp_two; omega)).2⟩), rfl, rfl⟩), by rw [ht_]; exact hP, va_K.moved hW_.alike hK, hD⟩, hS.F ht_⟩) hS.2.2 d_M_make_84
      · subst hre
        refine pq_if_eq (tgt := 83) (a := 0) hx hb d_M_make_42 (by decide) (by omega) (fun c_42 => ?_) (fun c_42 => absurd c_42 (by omega))
        refine lv_iconst (v := (-1)) hx hb d_M_make_83 (by decide) ?_
        exact W.iret (v := (-1)) hx hb hr (fun t_ ht_ hW_ => ⟨⟨_, (nI (0), n, mo, le, xh, yr, xb, yb, bs), rfl, Or.inr (Or.inr ⟨fun ⟨k9, i, j, d, hn4, hk9, e1, hi, e2, h2, h6, h7, h8⟩ => hno1 ⟨i, hi, e2⟩, rfl, rfl⟩), by rw [ht_]; exact hP, va_K.moved hW_.alike hK, hD⟩, hS.F ht_⟩) hS.2.2 d_M_make_84
    · rw [hxk] at hl
      refine lv_aload_n hx hb d_M_make_0 rfl (lv_at hl 0 rfl) ?_
      refine lv_iconst (v := nI 0) hx hb d_M_make_1 (by decide) ?_
      refine va_put (D := (dC, dI)) (ci := ciM) (v := .int (nI (0))) (ty := .int) (C := R_M) (T := F_M) (N := 9) hx hb hts (fun w h => List.mem_cons_of_mem _ (in_M w h)) t_M t_M_ok n_M hown hK hP hD hS 0 rfl rfl 0 (by decide) (hts (.fieldLink R_M 27 "PeriodWordsModel" "thrown" "I") (List.mem_cons_of_mem _ mb_383)) (fun _ h9 => h9) rfl (by decide +kernel) rfl rfl (Nat.le_of_ble_eq_true rfl) d_M_make_2 (fun H locs hP hD hS => ?_)
      have hP : va_P (dC, dI) vwCl [(o, .inr (ciM, [.int (nI (0)), .int (nI (n)), .ref a1, .ref a2, .ref a3, .ref a4, .ref a5, .int (mo), .int (le)])), (a1, .inl (c1, 40, .inl xh)), (a2, .inl (c2, 40, .inl yr)), (a3, .inl (c3, 40, .inr (.inl xb))), (a4, .inl (c4, 40, .inr (.inl yb))), (a5, .inl (c5, 7400, .inl bs))] H := hP
      have hD : va_D A [(o, .inr (ciM, [.int (nI (0)), .int (nI (n)), .ref a1, .ref a2, .ref a3, .ref a4, .ref a5, .int (mo), .int (le)])), (a1, .inl (c1, 40, .inl xh)), (a2, .inl (c2, 40, .inl yr)), (a3, .inl (c3, 40, .inr (.inl xb))), (a4, .inl (c4, 40, .inr (.inl yb))), (a5, .inl (c5, 7400, .inl bs))] := hD
      refine lv_iload_n hx hb d_M_make_5 rfl (lv_at hl 1 rfl) ?_
      refine lv_iconst (v := nI 3) hx hb d_M_make_6 (by decide) ?_
      refine pq_icmp_lt (tgt := 20) (a := 5) (b := 3) hx hb d_M_make_7 (by decide) (by omega) (by omega) (fun c_7 => absurd c_7 (by omega)) (fun c_7 => ?_)
      refine lv_iload_n hx hb d_M_make_10 rfl (lv_at hl 1 rfl) ?_
      refine lv_iconst (v := nI 4) hx hb d_M_make_11 (by decide) ?_
      refine pq_icmp_eq (tgt := 20) (a := 5) (b := 4) hx hb d_M_make_12 (by decide) (by omega) (by omega) (fun c_12 => absurd c_12 (by omega)) (fun c_12 => ?_)
      refine lv_iload_n hx hb d_M_make_15 rfl (lv_at hl 1 rfl) ?_
      refine lv_iconst (v := nI 5) hx hb d_M_make_16 (by decide) ?_
      refine pq_icmp_ne (tgt := 24) (a := 5) (b := 5) hx hb d_M_make_17 (by decide) (by omega) (by omega) (fun c_17 => absurd c_17 (by omega)) (fun c_17 => ?_)
      refine lv_iconst (v := nI 1) hx hb d_M_make_20 (by decide) ?_
      refine lv_goto (tgt := 25) hx hb d_M_make_21 (by decide) ?_
      refine lv_istore (lv' := [(4, .int (nI (1))), (0, .ref o), (1, .int (nI (5))), (2, .int (y)), (3, .int (z))]) hx hb d_M_make_25 hl (by decide) rfl (fun ls hl => ?_)
      refine lv_iload_n hx hb d_M_make_27 rfl (lv_at hl 2 rfl) ?_
      refine lv_iconst (v := nI 0) hx hb d_M_make_28 (by decide) ?_
      refine lv_bipush (v := nI 7) hx hb d_M_make_29 (by decide) ?_
      refine vp_callSi (W.runS (As := [.int (nI (5)), .int (nI (0)), .int (nI (7))]) (rest := []) ⟨hx, hb, hml, hown, hts⟩ (c_M_in l dC dI (x := nI 5) (lo := nI 0) (hi := nI 7)) (va_cwS 3 hts (gd_S mb_421 mb_422 mb_23 mb_423) rfl rfl rfl (by decide +kernel) ⟨Nat.le_of_ble_eq_true rfl, Nat.le_of_ble_eq_true rfl⟩) (pw_R_S pw_P0 (hK.sub [] rfl)) rfl rfl hl.1 rfl (lv_room (Nat.le_of_ble_eq_true rfl)) d_M_make_31 ⟨Nat.le_of_ble_eq_true rfl, Nat.le_of_ble_eq_true rfl⟩) (fun r_31 hr_31 => ?_)
      have hre : r_31 = nI 1 := hr_31.elim (fun q => q.1) (fun q => absurd ⟨by decide, by decide⟩ q.2)
      subst hre
      refine pq_if_eq (tgt := 83) (a := 1) hx hb d_M_make_34 (by decide) (by omega) (fun c_34 => absurd c_34 (by omega)) (fun c_34 => ?_)
      refine lv_aload_n hx hb d_M_make_37 rfl (lv_at hl 1 rfl) ?_
      refine lv_iload_n hx hb d_M_make_38 rfl (lv_at hl 3 rfl) ?_
      refine vp_callSi (W.runV (As := [.int (y)]) (rest := []) ⟨hx, hb, hml, hown, hts⟩ (c_M_isWord l dC dI hn (x := y)) (cwV 1 hts (gd_V mb_436 mb_438 mb_5 mb_23 mb_439) rfl rfl rfl (by decide +kernel) ⟨Nat.le_of_ble_eq_true rfl, Nat.le_of_ble_eq_true rfl⟩) (pw_R_V (va_recv hK hP (ci := ciM) (q0 := 0) rfl rfl) hP hK) rfl rfl hl.1 rfl (lv_room (Nat.le_of_ble_eq_true rfl)) d_M_make_39 ⟨Nat.le_of_ble_eq_true rfl, Nat.le_of_ble_eq_true rfl⟩) (fun r_39 hr_39 => ?_)
      rcases hr_39 with ⟨hre, i1, hi1, hx1⟩ | ⟨hre, hno1⟩
      · subst hre
        rw [hx1] at hl
        have hmd1 := hall i1 hi1
        have hmd1_ := hmd1; obtain ⟨hj1, e11, e21, e31, e41, hok1⟩ := hmd1_; have hok1_ := hok1; obtain ⟨hh1, hp01, hp61, hE1⟩ := hok1_
        have ho1 := pw_o_le (Wd i1).2.2 (Wd i1).1 (Wd i1).2.1
        have hc1 := pw_c_le (Wd i1).2.2 (Wd i1).1
        have hb01 := pq_lt60 (pw_b_lt (Wd i1).2.2 0 (Wd i1).1) hh1
        have hb11 := pq_lt60 (pw_b_lt (Wd i1).2.2 (Wd i1).1 (Wd i1).2.1) hp61
        refine pq_if_eq (tgt := 83) (a := 1) hx hb d_M_make_42 (by decide) (by omega) (fun c_42 => absurd c_42 (by omega)) (fun c_42 => ?_)
        refine lv_iload hx hb d_M_make_45 (lv_at hl 0 rfl) ?_
        refine pq_if_eq (tgt := 58) (a := 1) hx hb d_M_make_47 (by decide) (by omega) (fun c_47 => absurd c_47 (by omega)) (fun c_47 => ?_)
        refine lv_aload_n hx hb d_M_make_50 rfl (lv_at hl 1 rfl) ?_
        refine lv_iload_n hx hb d_M_make_51 rfl (lv_at hl 4 rfl) ?_
        refine vp_callSi (W.runV (As := [.int (z)]) (rest := []) ⟨hx, hb, hml, hown, hts⟩ (c_M_isWord l dC dI hn (x := z)) (cwV 1 hts (gd_V mb_436 mb_438 mb_5 mb_23 mb_439) rfl rfl rfl (by decide +kernel) ⟨Nat.le_of_ble_eq_true rfl, Nat.le_of_ble_eq_true rfl⟩) (pw_R_V (va_recv hK hP (ci := ciM) (q0 := 0) rfl rfl) hP hK) rfl rfl hl.1 rfl (lv_room (Nat.le_of_ble_eq_true rfl)) d_M_make_52 ⟨Nat.le_of_ble_eq_true rfl, Nat.le_of_ble_eq_true rfl⟩) (fun r_52 hr_52 => ?_)
        rcases hr_52 with ⟨hre, i2, hi2, hx2⟩ | ⟨hre, hno2⟩
        · subst hre
          rw [hx2] at hl
          have hmd2 := hall i2 hi2
          have hmd2_ := hmd2; obtain ⟨hj2, e12, e22, e32, e42, hok2⟩ := hmd2_; have hok2_ := hok2; obtain ⟨hh2, hp02, hp62, hE2⟩ := hok2_
          have ho2 := pw_o_le (Wd i2).2.2 (Wd i2).1 (Wd i2).2.1
          have hc2 := pw_c_le (Wd i2).2.2 (Wd i2).1
          have hb02 := pq_lt60 (pw_b_lt (Wd i2).2.2 0 (Wd i2).1) hh2
          have hb12 := pq_lt60 (pw_b_lt (Wd i2).2.2 (Wd i2).1 (Wd i2).2.1) hp62
          refine pq_if_eq (tgt := 83) (a := 1) hx hb d_M_make_55 (by decide) (by omega) (fun c_55 => absurd c_55 (by omega)) (fun c_55 => ?_)
          refine lv_iload_n hx hb d_M_make_58 rfl (lv_at hl 2 rfl) ?_
          refine lv_bipush (v := nI 6) hx hb d_M_make_59 (by decide) ?_
          refine pq_icmp_ne (tgt := 74) (a := 5) (b := 6) hx hb d_M_make_61 (by decide) (by omega) (by omega) (fun c_61 => ?_) (fun c_61 => absurd c_61 (by omega))
          refine lv_aload_n hx hb d_M_make_74 rfl (lv_at hl 1 rfl) ?_
          refine va_get (D := (dC, dI)) (ci := ciM) (v := .int (nI (n))) (C := R_M) (T := F_M) (N := 9) hx hb hts (fun w h => List.mem_cons_of_mem _ (in_M w h)) hown hK hP 0 rfl rfl 1 (by decide) (hts (.fieldLink R_M 31 "PeriodWordsModel" "words" "I") (List.mem_cons_of_mem _ mb_384)) (fun _ h9 => h9) rfl d_M_make_75 ?_
          refine lv_bipush (v := nI 40) hx hb d_M_make_78 (by decide) ?_
          refine pq_icmp_ne (tgt := 85) (a := n) (b := 40) hx hb d_M_make_80 (by decide) (by omega) (by omega) (fun c_80 => ?_) (fun c_80 => ?_)
          · refine lv_iload_n hx hb d_M_make_85 rfl (lv_at hl 2 rfl) ?_
            refine lv_iconst (v := nI 5) hx hb d_M_make_86 (by decide) ?_
            refine pq_icmp_ne (tgt := 103) (a := 5) (b := 5) hx hb d_M_make_87 (by decide) (by omega) (by omega) (fun c_87 => absurd c_87 (by omega)) (fun c_87 => ?_)
            refine lv_aload_n hx hb d_M_make_90 rfl (lv_at hl 1 rfl) ?_
            refine lv_iload_n hx hb d_M_make_91 rfl (lv_at hl 4 rfl) ?_
            refine vp_callSi (W.runV (As := [.int (nI (i2))]) (rest := []) ⟨hx, hb, hml, hown, hts⟩ (c_M_inRing l dC dI hmd2) (cwV 1 hts (gd_V mb_440 mb_442 mb_6 mb_23 mb_443) rfl rfl rfl (by decide +kernel) ⟨Nat.le_of_ble_eq_true rfl, Nat.le_of_ble_eq_true rfl⟩) (pw_R_V (va_recv hK hP (ci := ciM) (q0 := 0) rfl rfl) hP hK) rfl rfl hl.1 rfl (lv_room (Nat.le_of_ble_eq_true rfl)) d_M_make_92 ⟨Nat.le_of_ble_eq_true rfl, Nat.le_of_ble_eq_true rfl⟩) (fun r_92 hr_92 => ?_)
            subst hr_92
            refine pq_if_ne (tgt := 103) (a := (pw_o (Wd i2).2.2 (Wd i2).1 (Wd i2).2.1)) hx hb d_M_make_95 (by decide) (by omega) (fun c_95 => ?_) (fun c_95 => ?_)
            · have hob := c_95
              refine lv_iload_n hx hb d_M_make_103 rfl (lv_at hl 2 rfl) ?_
              refine lv_tableIn (tgt := 153) hx hb d_M_make_104 (by decide) (by decide) rfl (by decide) ?_
              refine lv_aload_n hx hb d_M_make_153 rfl (lv_at hl 1 rfl) ?_
              refine lv_iload_n hx hb d_M_make_154 rfl (lv_at hl 3 rfl) ?_
              refine lv_iload_n hx hb d_M_make_155 rfl (lv_at hl 4 rfl) ?_
              have hFc := va_free (wc := [(o, .inr (ciM, [.int (nI (0)), .int (nI (n)), .ref a1, .ref a2, .ref a3, .ref a4, .ref a5, .int (mo), .int (le)])), (a1, .inl (c1, 40, .inl xh)), (a2, .inl (c2, 40, .inl yr)), (a3, .inl (c3, 40, .inr (.inl xb))), (a4, .inl (c4, 40, .inr (.inl yb))), (a5, .inl (c5, 7400, .inl bs))]) hD hS hA [0, 1, 2, 3, 4, 5] rfl
              refine va_calli (va_runV (As := [.int (nI (i1)), .int (nI (i2))]) (rest := []) ⟨hx, hb, hml, hown, hts⟩ (c_M_by l dC dI hmd1 hmd2 (d := 0) hob (by omega)) (cwV 2 hts (gd_V mb_463 mb_465 mb_11 mb_23 mb_466) rfl rfl rfl (by decide +kernel) ⟨Nat.le_of_ble_eq_true rfl, Nat.le_of_ble_eq_true rfl⟩) ⟨md_blind, va_recv hK hP (ci := ciM) (q0 := 0) rfl rfl, fun U hU hW => ⟨rfl, by rw [hU], by rw [hU]; exact hP, va_K.moved hW.alike hK, hD.weaken (fun _ _ _ _ => trivial)⟩⟩ rfl rfl hl.1 rfl (lv_room (Nat.le_of_ble_eq_true rfl)) d_M_make_156 ⟨Nat.le_of_ble_eq_true rfl, Nat.le_of_ble_eq_true rfl⟩) hS (fun q _ h => hFc q h) hFc (fun r_156 u_156 t_ H1 locs ht_ hvm_ hr_156 hB_ hz1_ hk1_ hS => ?_)
              obtain ⟨hP1_, hK1_, hD1_⟩ := hB_
              rw [ht_] at hP1_
              clear hP hD
              have hP := hP1_
              have hD := hD1_.weaken (fun k q _ h => hFc q.1 h)
              generalize H1 = H at hP hS ⊢
              have hP : va_P (dC, dI) vwCl [(o, .inr (ciM, [.int (u_156.1), .int (nI (u_156.2.1)), .ref a1, .ref a2, .ref a3, .ref a4, .ref a5, .int (u_156.2.2.1), .int (u_156.2.2.2.1)])), (a1, .inl (c1, 40, .inl u_156.2.2.2.2.1)), (a2, .inl (c2, 40, .inl u_156.2.2.2.2.2.1)), (a3, .inl (c3, 40, .inr (.inl u_156.2.2.2.2.2.2.1))), (a4, .inl (c4, 40, .inr (.inl u_156.2.2.2.2.2.2.2.1))), (a5, .inl (c5, 7400, .inl u_156.2.2.2.2.2.2.2.2))] H := hP
              have hD : va_D A [(o, .inr (ciM, [.int (u_156.1), .int (nI (u_156.2.1)), .ref a1, .ref a2, .ref a3, .ref a4, .ref a5, .int (u_156.2.2.1), .int (u_156.2.2.2.1)])), (a1, .inl (c1, 40, .inl u_156.2.2.2.2.1)), (a2, .inl (c2, 40, .inl u_156.2.2.2.2.2.1)), (a3, .inl (c3, 40, .inr (.inl u_156.2.2.2.2.2.2.1))), (a4, .inl (c4, 40, .inr (.inl u_156.2.2.2.2.2.2.2.1))), (a5, .inl (c5, 7400, .inl u_156.2.2.2.2.2.2.2.2))] := hD
              exact W.iret (v := (r_156)) hx hb hr (fun t_ ht_ hW_ => ⟨⟨_, u_156, rfl, Or.inl ⟨5, i1, i2, 0, ⟨by omega, by decide, hxk, hi1, hx1, fun q => ⟨hi2, hx2⟩, fun q => absurd q (by decide), fun q => absurd (show sp_two 5 by unfold sp_two; omega) q, fun q => rfl⟩, fun _ => hob, hr_156.1, hr_156.2⟩, by rw [ht_]; exact hP, va_K.moved hW_.alike hK, hD⟩, hS.F ht_⟩) hS.2.2 d_M_make_159
            · refine lv_aload_n hx hb d_M_make_98 rfl (lv_at hl 1 rfl) ?_
              have hFc := va_free (wc := [(o, .inr (ciM, [.int (nI (0)), .int (nI (n)), .ref a1, .ref a2, .ref a3, .ref a4, .ref a5, .int (mo), .int (le)])), (a1, .inl (c1, 40, .inl xh)), (a2, .inl (c2, 40, .inl yr)), (a3, .inl (c3, 40, .inr (.inl xb))), (a4, .inl (c4, 40, .inr (.inl yb))), (a5, .inl (c5, 7400, .inl bs))]) hD hS hA [0, 1, 2, 3, 4, 5] rfl
              refine va_calli (va_runV (As := []) (rest := []) ⟨hx, hb, hml, hown, hts⟩ (c_M_raise l dC dI) (cwV 0 hts (gd_V mb_447 mb_449 mb_7 mb_23 mb_450) rfl rfl rfl (by decide +kernel) ⟨Nat.le_of_ble_eq_true rfl, Nat.le_of_ble_eq_true rfl⟩) ⟨md_blind, va_recv hK hP (ci := ciM) (q0 := 0) rfl rfl, fun U hU hW => ⟨rfl, by rw [hU], by rw [hU]; exact hP, va_K.moved hW.alike hK, hD.weaken (fun _ _ _ _ => trivial)⟩⟩ rfl rfl hl.1 rfl (lv_room (Nat.le_of_ble_eq_true rfl)) d_M_make_99 ⟨Nat.le_of_ble_eq_true rfl, Nat.le_of_ble_eq_true rfl⟩) hS (fun q _ h => hFc q h) hFc (fun r_99 u_99 t_ H1 locs ht_ hvm_ hr_99 hB_ hz1_ hk1_ hS => ?_)
              obtain ⟨hP1_, hK1_, hD1_⟩ := hB_
              rw [ht_] at hP1_
              clear hP hD
              have hP := hP1_
              have hD := hD1_.weaken (fun k q _ h => hFc q.1 h)
              generalize H1 = H at hP hS ⊢
              have hP : va_P (dC, dI) vwCl [(o, .inr (ciM, [.int (u_99.1), .int (nI (u_99.2.1)), .ref a1, .ref a2, .ref a3, .ref a4, .ref a5, .int (u_99.2.2.1), .int (u_99.2.2.2.1)])), (a1, .inl (c1, 40, .inl u_99.2.2.2.2.1)), (a2, .inl (c2, 40, .inl u_99.2.2.2.2.2.1)), (a3, .inl (c3, 40, .inr (.inl u_99.2.2.2.2.2.2.1))), (a4, .inl (c4, 40, .inr (.inl u_99.2.2.2.2.2.2.2.1))), (a5, .inl (c5, 7400, .inl u_99.2.2.2.2.2.2.2.2))] H := hP
              have hD : va_D A [(o, .inr (ciM, [.int (u_99.1), .int (nI (u_99.2.1)), .ref a1, .ref a2, .ref a3, .ref a4, .ref a5, .int (u_99.2.2.1), .int (u_99.2.2.2.1)])), (a1, .inl (c1, 40, .inl u_99.2.2.2.2.1)), (a2, .inl (c2, 40, .inl u_99.2.2.2.2.2.1)), (a3, .inl (c3, 40, .inr (.inl u_99.2.2.2.2.2.2.1))), (a4, .inl (c4, 40, .inr (.inl u_99.2.2.2.2.2.2.2.1))), (a5, .inl (c5, 7400, .inl u_99.2.2.2.2.2.2.2.2))] := hD
              exact W.iret (v := (r_99)) hx hb hr (fun t_ ht_ hW_ => ⟨⟨_, u_99, rfl, Or.inr (Or.inl ⟨i1, i2, 0, ⟨by omega, by decide, hxk, hi1, hx1, fun q => ⟨hi2, hx2⟩, fun q => absurd q (by decide), fun q => absurd (show sp_two 5 by unfold sp_two; omega) q, fun q => rfl⟩, c_95, hr_99.2⟩), by rw [ht_]; exact hP, va_K.moved hW_.alike hK, hD⟩, hS.F ht_⟩) hS.2.2 d_M_make_102
          · refine lv_iconst (v := (-1)) hx hb d_M_make_83 (by decide) ?_
            exact W.iret (v := (-1)) hx hb hr (fun t_ ht_ hW_ => ⟨⟨_, (nI (0), n, mo, le, xh, yr, xb, yb, bs), rfl, Or.inr (Or.inr ⟨fun ⟨k9, i, j, d, hn4, hk9, e1, hi, e2, h2, h6, h7, h8⟩ => absurd hn4 (by omega), rfl, rfl⟩), by rw [ht_]; exact hP, va_K.moved hW_.alike hK, hD⟩, hS.F ht_⟩) hS.2.2 d_M_make_84
        · subst hre
          refine pq_if_eq (tgt := 83) (a := 0) hx hb d_M_make_55 (by decide) (by omega) (fun c_55 => ?_) (fun c_55 => absurd c_55 (by omega))
          refine lv_iconst (v := (-1)) hx hb d_M_make_83 (by decide) ?_
          exact W.iret (v := (-1)) hx hb hr (fun t_ ht_ hW_ => ⟨⟨_, (nI (0), n, mo, le, xh, yr, xb, yb, bs), rfl, Or.inr (Or.inr ⟨fun ⟨k9, i, j, d, hn4, hk9, e1, hi, e2, h2, h6, h7, h8⟩ => (by have ek : k9 = 5 := (nI_eq (by omega) (by decide)).mp (e1.symm.trans hxk); subst ek; exact hno2 ⟨j, (h2 (by unfold sp_two; omega)).1, (h2 (by unfold sp_two; omega)).2⟩), rfl, rfl⟩), by rw [ht_]; exact hP, va_K.moved hW_.alike hK, hD⟩, hS.F ht_⟩) hS.2.2 d_M_make_84
      · subst hre
        refine pq_if_eq (tgt := 83) (a := 0) hx hb d_M_make_42 (by decide) (by omega) (fun c_42 => ?_) (fun c_42 => absurd c_42 (by omega))
        refine lv_iconst (v := (-1)) hx hb d_M_make_83 (by decide) ?_
        exact W.iret (v := (-1)) hx hb hr (fun t_ ht_ hW_ => ⟨⟨_, (nI (0), n, mo, le, xh, yr, xb, yb, bs), rfl, Or.inr (Or.inr ⟨fun ⟨k9, i, j, d, hn4, hk9, e1, hi, e2, h2, h6, h7, h8⟩ => hno1 ⟨i, hi, e2⟩, rfl, rfl⟩), by rw [ht_]; exact hP, va_K.moved hW_.alike hK, hD⟩, hS.F ht_⟩) hS.2.2 d_M_make_84
    · rw [hxk] at hl
      refine lv_aload_n hx hb d_M_make_0 rfl (lv_at hl 0 rfl) ?_
      refine lv_iconst (v := nI 0) hx hb d_M_make_1 (by decide) ?_
      refine va_put (D := (dC, dI)) (ci := ciM) (v := .int (nI (0))) (ty := .int) (C := R_M) (T := F_M) (N := 9) hx hb hts (fun w h => List.mem_cons_of_mem _ (in_M w h)) t_M t_M_ok n_M hown hK hP hD hS 0 rfl rfl 0 (by decide) (hts (.fieldLink R_M 27 "PeriodWordsModel" "thrown" "I") (List.mem_cons_of_mem _ mb_383)) (fun _ h9 => h9) rfl (by decide +kernel) rfl rfl (Nat.le_of_ble_eq_true rfl) d_M_make_2 (fun H locs hP hD hS => ?_)
      have hP : va_P (dC, dI) vwCl [(o, .inr (ciM, [.int (nI (0)), .int (nI (n)), .ref a1, .ref a2, .ref a3, .ref a4, .ref a5, .int (mo), .int (le)])), (a1, .inl (c1, 40, .inl xh)), (a2, .inl (c2, 40, .inl yr)), (a3, .inl (c3, 40, .inr (.inl xb))), (a4, .inl (c4, 40, .inr (.inl yb))), (a5, .inl (c5, 7400, .inl bs))] H := hP
      have hD : va_D A [(o, .inr (ciM, [.int (nI (0)), .int (nI (n)), .ref a1, .ref a2, .ref a3, .ref a4, .ref a5, .int (mo), .int (le)])), (a1, .inl (c1, 40, .inl xh)), (a2, .inl (c2, 40, .inl yr)), (a3, .inl (c3, 40, .inr (.inl xb))), (a4, .inl (c4, 40, .inr (.inl yb))), (a5, .inl (c5, 7400, .inl bs))] := hD
      refine lv_iload_n hx hb d_M_make_5 rfl (lv_at hl 1 rfl) ?_
      refine lv_iconst (v := nI 3) hx hb d_M_make_6 (by decide) ?_
      refine pq_icmp_lt (tgt := 20) (a := 6) (b := 3) hx hb d_M_make_7 (by decide) (by omega) (by omega) (fun c_7 => absurd c_7 (by omega)) (fun c_7 => ?_)
      refine lv_iload_n hx hb d_M_make_10 rfl (lv_at hl 1 rfl) ?_
      refine lv_iconst (v := nI 4) hx hb d_M_make_11 (by decide) ?_
      refine pq_icmp_eq (tgt := 20) (a := 6) (b := 4) hx hb d_M_make_12 (by decide) (by omega) (by omega) (fun c_12 => absurd c_12 (by omega)) (fun c_12 => ?_)
      refine lv_iload_n hx hb d_M_make_15 rfl (lv_at hl 1 rfl) ?_
      refine lv_iconst (v := nI 5) hx hb d_M_make_16 (by decide) ?_
      refine pq_icmp_ne (tgt := 24) (a := 6) (b := 5) hx hb d_M_make_17 (by decide) (by omega) (by omega) (fun c_17 => ?_) (fun c_17 => absurd c_17 (by omega))
      refine lv_iconst (v := nI 0) hx hb d_M_make_24 (by decide) ?_
      refine lv_istore (lv' := [(4, .int (nI (0))), (0, .ref o), (1, .int (nI (6))), (2, .int (y)), (3, .int (z))]) hx hb d_M_make_25 hl (by decide) rfl (fun ls hl => ?_)
      refine lv_iload_n hx hb d_M_make_27 rfl (lv_at hl 2 rfl) ?_
      refine lv_iconst (v := nI 0) hx hb d_M_make_28 (by decide) ?_
      refine lv_bipush (v := nI 7) hx hb d_M_make_29 (by decide) ?_
      refine vp_callSi (W.runS (As := [.int (nI (6)), .int (nI (0)), .int (nI (7))]) (rest := []) ⟨hx, hb, hml, hown, hts⟩ (c_M_in l dC dI (x := nI 6) (lo := nI 0) (hi := nI 7)) (va_cwS 3 hts (gd_S mb_421 mb_422 mb_23 mb_423) rfl rfl rfl (by decide +kernel) ⟨Nat.le_of_ble_eq_true rfl, Nat.le_of_ble_eq_true rfl⟩) (pw_R_S pw_P0 (hK.sub [] rfl)) rfl rfl hl.1 rfl (lv_room (Nat.le_of_ble_eq_true rfl)) d_M_make_31 ⟨Nat.le_of_ble_eq_true rfl, Nat.le_of_ble_eq_true rfl⟩) (fun r_31 hr_31 => ?_)
      have hre : r_31 = nI 1 := hr_31.elim (fun q => q.1) (fun q => absurd ⟨by decide, by decide⟩ q.2)
      subst hre
      refine pq_if_eq (tgt := 83) (a := 1) hx hb d_M_make_34 (by decide) (by omega) (fun c_34 => absurd c_34 (by omega)) (fun c_34 => ?_)
      refine lv_aload_n hx hb d_M_make_37 rfl (lv_at hl 1 rfl) ?_
      refine lv_iload_n hx hb d_M_make_38 rfl (lv_at hl 3 rfl) ?_
      refine vp_callSi (W.runV (As := [.int (y)]) (rest := []) ⟨hx, hb, hml, hown, hts⟩ (c_M_isWord l dC dI hn (x := y)) (cwV 1 hts (gd_V mb_436 mb_438 mb_5 mb_23 mb_439) rfl rfl rfl (by decide +kernel) ⟨Nat.le_of_ble_eq_true rfl, Nat.le_of_ble_eq_true rfl⟩) (pw_R_V (va_recv hK hP (ci := ciM) (q0 := 0) rfl rfl) hP hK) rfl rfl hl.1 rfl (lv_room (Nat.le_of_ble_eq_true rfl)) d_M_make_39 ⟨Nat.le_of_ble_eq_true rfl, Nat.le_of_ble_eq_true rfl⟩) (fun r_39 hr_39 => ?_)
      rcases hr_39 with ⟨hre, i1, hi1, hx1⟩ | ⟨hre, hno1⟩
      · subst hre
        rw [hx1] at hl
        have hmd1 := hall i1 hi1
        have hmd1_ := hmd1; obtain ⟨hj1, e11, e21, e31, e41, hok1⟩ := hmd1_; have hok1_ := hok1; obtain ⟨hh1, hp01, hp61, hE1⟩ := hok1_
        have ho1 := pw_o_le (Wd i1).2.2 (Wd i1).1 (Wd i1).2.1
        have hc1 := pw_c_le (Wd i1).2.2 (Wd i1).1
        have hb01 := pq_lt60 (pw_b_lt (Wd i1).2.2 0 (Wd i1).1) hh1
        have hb11 := pq_lt60 (pw_b_lt (Wd i1).2.2 (Wd i1).1 (Wd i1).2.1) hp61
        refine pq_if_eq (tgt := 83) (a := 1) hx hb d_M_make_42 (by decide) (by omega) (fun c_42 => absurd c_42 (by omega)) (fun c_42 => ?_)
        refine lv_iload hx hb d_M_make_45 (lv_at hl 0 rfl) ?_
        refine pq_if_eq (tgt := 58) (a := 0) hx hb d_M_make_47 (by decide) (by omega) (fun c_47 => ?_) (fun c_47 => absurd c_47 (by omega))
        refine lv_iload_n hx hb d_M_make_58 rfl (lv_at hl 2 rfl) ?_
        refine lv_bipush (v := nI 6) hx hb d_M_make_59 (by decide) ?_
        refine pq_icmp_ne (tgt := 74) (a := 6) (b := 6) hx hb d_M_make_61 (by decide) (by omega) (by omega) (fun c_61 => absurd c_61 (by omega)) (fun c_61 => ?_)
        refine lv_iload_n hx hb d_M_make_64 rfl (lv_at hl 4 rfl) ?_
        refine lv_iconst (v := nI 0) hx hb d_M_make_65 (by decide) ?_
        refine lv_bipush (v := nI 30) hx hb d_M_make_66 (by decide) ?_
        refine vp_callSi (W.runS (As := [.int (z), .int (nI (0)), .int (nI (30))]) (rest := []) ⟨hx, hb, hml, hown, hts⟩ (c_M_in l dC dI (x := z) (lo := nI 0) (hi := nI 30)) (va_cwS 3 hts (gd_S mb_421 mb_422 mb_23 mb_423) rfl rfl rfl (by decide +kernel) ⟨Nat.le_of_ble_eq_true rfl, Nat.le_of_ble_eq_true rfl⟩) (pw_R_S pw_P0 (hK.sub [] rfl)) rfl rfl hl.1 rfl (lv_room (Nat.le_of_ble_eq_true rfl)) d_M_make_68 ⟨Nat.le_of_ble_eq_true rfl, Nat.le_of_ble_eq_true rfl⟩) (fun r_68 hr_68 => ?_)
        rcases hr_68 with ⟨hre, hlo, hhi⟩ | ⟨hre, hnin⟩
        · subst hre
          obtain ⟨d, hd, hzd⟩ := pq_in_of (by decide) hlo hhi
          rw [hzd] at hl
          refine pq_if_eq (tgt := 83) (a := 1) hx hb d_M_make_71 (by decide) (by omega) (fun c_71 => absurd c_71 (by omega)) (fun c_71 => ?_)
          refine lv_aload_n hx hb d_M_make_74 rfl (lv_at hl 1 rfl) ?_
          refine va_get (D := (dC, dI)) (ci := ciM) (v := .int (nI (n))) (C := R_M) (T := F_M) (N := 9) hx hb hts (fun w h => List.mem_cons_of_mem _ (in_M w h)) hown hK hP 0 rfl rfl 1 (by decide) (hts (.fieldLink R_M 31 "PeriodWordsModel" "words" "I") (List.mem_cons_of_mem _ mb_384)) (fun _ h9 => h9) rfl d_M_make_75 ?_
          refine lv_bipush (v := nI 40) hx hb d_M_make_78 (by decide) ?_
          refine pq_icmp_ne (tgt := 85) (a := n) (b := 40) hx hb d_M_make_80 (by decide) (by omega) (by omega) (fun c_80 => ?_) (fun c_80 => ?_)
          · refine lv_iload_n hx hb d_M_make_85 rfl (lv_at hl 2 rfl) ?_
            refine lv_iconst (v := nI 5) hx hb d_M_make_86 (by decide) ?_
            refine pq_icmp_ne (tgt := 103) (a := 6) (b := 5) hx hb d_M_make_87 (by decide) (by omega) (by omega) (fun c_87 => ?_) (fun c_87 => absurd c_87 (by omega))
            refine lv_iload_n hx hb d_M_make_103 rfl (lv_at hl 2 rfl) ?_
            refine lv_tableIn (tgt := 160) hx hb d_M_make_104 (by decide) (by decide) rfl (by decide) ?_
            refine lv_aload_n hx hb d_M_make_160 rfl (lv_at hl 1 rfl) ?_
            refine lv_iload_n hx hb d_M_make_161 rfl (lv_at hl 3 rfl) ?_
            refine lv_iload_n hx hb d_M_make_162 rfl (lv_at hl 4 rfl) ?_
            have hFc := va_free (wc := [(o, .inr (ciM, [.int (nI (0)), .int (nI (n)), .ref a1, .ref a2, .ref a3, .ref a4, .ref a5, .int (mo), .int (le)])), (a1, .inl (c1, 40, .inl xh)), (a2, .inl (c2, 40, .inl yr)), (a3, .inl (c3, 40, .inr (.inl xb))), (a4, .inl (c4, 40, .inr (.inl yb))), (a5, .inl (c5, 7400, .inl bs))]) hD hS hA [0, 1, 2, 3, 4, 5] rfl
            refine va_calli (va_runV (As := [.int (nI (i1)), .int (nI (d))]) (rest := []) ⟨hx, hb, hml, hown, hts⟩ (c_M_late l dC dI hmd1 (f2 := (Wd i1).2.2) (d := d) hd (by omega)) (cwV 2 hts (gd_V mb_470 mb_472 mb_12 mb_23 mb_473) rfl rfl rfl (by decide +kernel) ⟨Nat.le_of_ble_eq_true rfl, Nat.le_of_ble_eq_true rfl⟩) ⟨md_blind, va_recv hK hP (ci := ciM) (q0 := 0) rfl rfl, fun U hU hW => ⟨rfl, by rw [hU], by rw [hU]; exact hP, va_K.moved hW.alike hK, hD.weaken (fun _ _ _ _ => trivial)⟩⟩ rfl rfl hl.1 rfl (lv_room (Nat.le_of_ble_eq_true rfl)) d_M_make_163 ⟨Nat.le_of_ble_eq_true rfl, Nat.le_of_ble_eq_true rfl⟩) hS (fun q _ h => hFc q h) hFc (fun r_163 u_163 t_ H1 locs ht_ hvm_ hr_163 hB_ hz1_ hk1_ hS => ?_)
            obtain ⟨hP1_, hK1_, hD1_⟩ := hB_
            rw [ht_] at hP1_
            clear hP hD
            have hP := hP1_
            have hD := hD1_.weaken (fun k q _ h => hFc q.1 h)
            generalize H1 = H at hP hS ⊢
            have hP : va_P (dC, dI) vwCl [(o, .inr (ciM, [.int (u_163.1), .int (nI (u_163.2.1)), .ref a1, .ref a2, .ref a3, .ref a4, .ref a5, .int (u_163.2.2.1), .int (u_163.2.2.2.1)])), (a1, .inl (c1, 40, .inl u_163.2.2.2.2.1)), (a2, .inl (c2, 40, .inl u_163.2.2.2.2.2.1)), (a3, .inl (c3, 40, .inr (.inl u_163.2.2.2.2.2.2.1))), (a4, .inl (c4, 40, .inr (.inl u_163.2.2.2.2.2.2.2.1))), (a5, .inl (c5, 7400, .inl u_163.2.2.2.2.2.2.2.2))] H := hP
            have hD : va_D A [(o, .inr (ciM, [.int (u_163.1), .int (nI (u_163.2.1)), .ref a1, .ref a2, .ref a3, .ref a4, .ref a5, .int (u_163.2.2.1), .int (u_163.2.2.2.1)])), (a1, .inl (c1, 40, .inl u_163.2.2.2.2.1)), (a2, .inl (c2, 40, .inl u_163.2.2.2.2.2.1)), (a3, .inl (c3, 40, .inr (.inl u_163.2.2.2.2.2.2.1))), (a4, .inl (c4, 40, .inr (.inl u_163.2.2.2.2.2.2.2.1))), (a5, .inl (c5, 7400, .inl u_163.2.2.2.2.2.2.2.2))] := hD
            exact W.iret (v := (r_163)) hx hb hr (fun t_ ht_ hW_ => ⟨⟨_, u_163, rfl, Or.inl ⟨6, i1, i1, d, ⟨by omega, by decide, hxk, hi1, hx1, fun q => absurd q (by unfold sp_two; omega), fun q => ⟨hd, hzd⟩, fun q => rfl, fun q => absurd rfl q⟩, fun q => absurd q (by decide), hr_163.1, hr_163.2⟩, by rw [ht_]; exact hP, va_K.moved hW_.alike hK, hD⟩, hS.F ht_⟩) hS.2.2 d_M_make_166
          · refine lv_iconst (v := (-1)) hx hb d_M_make_83 (by decide) ?_
            exact W.iret (v := (-1)) hx hb hr (fun t_ ht_ hW_ => ⟨⟨_, (nI (0), n, mo, le, xh, yr, xb, yb, bs), rfl, Or.inr (Or.inr ⟨fun ⟨k9, i, j, d, hn4, hk9, e1, hi, e2, h2, h6, h7, h8⟩ => absurd hn4 (by omega), rfl, rfl⟩), by rw [ht_]; exact hP, va_K.moved hW_.alike hK, hD⟩, hS.F ht_⟩) hS.2.2 d_M_make_84
        · subst hre
          refine pq_if_eq (tgt := 83) (a := 0) hx hb d_M_make_71 (by decide) (by omega) (fun c_71 => ?_) (fun c_71 => absurd c_71 (by omega))
          refine lv_iconst (v := (-1)) hx hb d_M_make_83 (by decide) ?_
          exact W.iret (v := (-1)) hx hb hr (fun t_ ht_ hW_ => ⟨⟨_, (nI (0), n, mo, le, xh, yr, xb, yb, bs), rfl, Or.inr (Or.inr ⟨fun ⟨k9, i, j, d, hn4, hk9, e1, hi, e2, h2, h6, h7, h8⟩ => (by have ek : k9 = 6 := (nI_eq (by omega) (by decide)).mp (e1.symm.trans hxk); subst ek; exact hnin (by rw [(h6 rfl).2]; exact ⟨nI_pos (by have := (h6 rfl).1; omega), nI_nlt (h6 rfl).1 (by decide)⟩)), rfl, rfl⟩), by rw [ht_]; exact hP, va_K.moved hW_.alike hK, hD⟩, hS.F ht_⟩) hS.2.2 d_M_make_84
      · subst hre
        refine pq_if_eq (tgt := 83) (a := 0) hx hb d_M_make_42 (by decide) (by omega) (fun c_42 => ?_) (fun c_42 => absurd c_42 (by omega))
        refine lv_iconst (v := (-1)) hx hb d_M_make_83 (by decide) ?_
        exact W.iret (v := (-1)) hx hb hr (fun t_ ht_ hW_ => ⟨⟨_, (nI (0), n, mo, le, xh, yr, xb, yb, bs), rfl, Or.inr (Or.inr ⟨fun ⟨k9, i, j, d, hn4, hk9, e1, hi, e2, h2, h6, h7, h8⟩ => hno1 ⟨i, hi, e2⟩, rfl, rfl⟩), by rw [ht_]; exact hP, va_K.moved hW_.alike hK, hD⟩, hS.F ht_⟩) hS.2.2 d_M_make_84
    · rw [hxk] at hl
      refine lv_aload_n hx hb d_M_make_0 rfl (lv_at hl 0 rfl) ?_
      refine lv_iconst (v := nI 0) hx hb d_M_make_1 (by decide) ?_
      refine va_put (D := (dC, dI)) (ci := ciM) (v := .int (nI (0))) (ty := .int) (C := R_M) (T := F_M) (N := 9) hx hb hts (fun w h => List.mem_cons_of_mem _ (in_M w h)) t_M t_M_ok n_M hown hK hP hD hS 0 rfl rfl 0 (by decide) (hts (.fieldLink R_M 27 "PeriodWordsModel" "thrown" "I") (List.mem_cons_of_mem _ mb_383)) (fun _ h9 => h9) rfl (by decide +kernel) rfl rfl (Nat.le_of_ble_eq_true rfl) d_M_make_2 (fun H locs hP hD hS => ?_)
      have hP : va_P (dC, dI) vwCl [(o, .inr (ciM, [.int (nI (0)), .int (nI (n)), .ref a1, .ref a2, .ref a3, .ref a4, .ref a5, .int (mo), .int (le)])), (a1, .inl (c1, 40, .inl xh)), (a2, .inl (c2, 40, .inl yr)), (a3, .inl (c3, 40, .inr (.inl xb))), (a4, .inl (c4, 40, .inr (.inl yb))), (a5, .inl (c5, 7400, .inl bs))] H := hP
      have hD : va_D A [(o, .inr (ciM, [.int (nI (0)), .int (nI (n)), .ref a1, .ref a2, .ref a3, .ref a4, .ref a5, .int (mo), .int (le)])), (a1, .inl (c1, 40, .inl xh)), (a2, .inl (c2, 40, .inl yr)), (a3, .inl (c3, 40, .inr (.inl xb))), (a4, .inl (c4, 40, .inr (.inl yb))), (a5, .inl (c5, 7400, .inl bs))] := hD
      refine lv_iload_n hx hb d_M_make_5 rfl (lv_at hl 1 rfl) ?_
      refine lv_iconst (v := nI 3) hx hb d_M_make_6 (by decide) ?_
      refine pq_icmp_lt (tgt := 20) (a := 7) (b := 3) hx hb d_M_make_7 (by decide) (by omega) (by omega) (fun c_7 => absurd c_7 (by omega)) (fun c_7 => ?_)
      refine lv_iload_n hx hb d_M_make_10 rfl (lv_at hl 1 rfl) ?_
      refine lv_iconst (v := nI 4) hx hb d_M_make_11 (by decide) ?_
      refine pq_icmp_eq (tgt := 20) (a := 7) (b := 4) hx hb d_M_make_12 (by decide) (by omega) (by omega) (fun c_12 => absurd c_12 (by omega)) (fun c_12 => ?_)
      refine lv_iload_n hx hb d_M_make_15 rfl (lv_at hl 1 rfl) ?_
      refine lv_iconst (v := nI 5) hx hb d_M_make_16 (by decide) ?_
      refine pq_icmp_ne (tgt := 24) (a := 7) (b := 5) hx hb d_M_make_17 (by decide) (by omega) (by omega) (fun c_17 => ?_) (fun c_17 => absurd c_17 (by omega))
      refine lv_iconst (v := nI 0) hx hb d_M_make_24 (by decide) ?_
      refine lv_istore (lv' := [(4, .int (nI (0))), (0, .ref o), (1, .int (nI (7))), (2, .int (y)), (3, .int (z))]) hx hb d_M_make_25 hl (by decide) rfl (fun ls hl => ?_)
      refine lv_iload_n hx hb d_M_make_27 rfl (lv_at hl 2 rfl) ?_
      refine lv_iconst (v := nI 0) hx hb d_M_make_28 (by decide) ?_
      refine lv_bipush (v := nI 7) hx hb d_M_make_29 (by decide) ?_
      refine vp_callSi (W.runS (As := [.int (nI (7)), .int (nI (0)), .int (nI (7))]) (rest := []) ⟨hx, hb, hml, hown, hts⟩ (c_M_in l dC dI (x := nI 7) (lo := nI 0) (hi := nI 7)) (va_cwS 3 hts (gd_S mb_421 mb_422 mb_23 mb_423) rfl rfl rfl (by decide +kernel) ⟨Nat.le_of_ble_eq_true rfl, Nat.le_of_ble_eq_true rfl⟩) (pw_R_S pw_P0 (hK.sub [] rfl)) rfl rfl hl.1 rfl (lv_room (Nat.le_of_ble_eq_true rfl)) d_M_make_31 ⟨Nat.le_of_ble_eq_true rfl, Nat.le_of_ble_eq_true rfl⟩) (fun r_31 hr_31 => ?_)
      have hre : r_31 = nI 1 := hr_31.elim (fun q => q.1) (fun q => absurd ⟨by decide, by decide⟩ q.2)
      subst hre
      refine pq_if_eq (tgt := 83) (a := 1) hx hb d_M_make_34 (by decide) (by omega) (fun c_34 => absurd c_34 (by omega)) (fun c_34 => ?_)
      refine lv_aload_n hx hb d_M_make_37 rfl (lv_at hl 1 rfl) ?_
      refine lv_iload_n hx hb d_M_make_38 rfl (lv_at hl 3 rfl) ?_
      refine vp_callSi (W.runV (As := [.int (y)]) (rest := []) ⟨hx, hb, hml, hown, hts⟩ (c_M_isWord l dC dI hn (x := y)) (cwV 1 hts (gd_V mb_436 mb_438 mb_5 mb_23 mb_439) rfl rfl rfl (by decide +kernel) ⟨Nat.le_of_ble_eq_true rfl, Nat.le_of_ble_eq_true rfl⟩) (pw_R_V (va_recv hK hP (ci := ciM) (q0 := 0) rfl rfl) hP hK) rfl rfl hl.1 rfl (lv_room (Nat.le_of_ble_eq_true rfl)) d_M_make_39 ⟨Nat.le_of_ble_eq_true rfl, Nat.le_of_ble_eq_true rfl⟩) (fun r_39 hr_39 => ?_)
      rcases hr_39 with ⟨hre, i1, hi1, hx1⟩ | ⟨hre, hno1⟩
      · subst hre
        rw [hx1] at hl
        have hmd1 := hall i1 hi1
        have hmd1_ := hmd1; obtain ⟨hj1, e11, e21, e31, e41, hok1⟩ := hmd1_; have hok1_ := hok1; obtain ⟨hh1, hp01, hp61, hE1⟩ := hok1_
        have ho1 := pw_o_le (Wd i1).2.2 (Wd i1).1 (Wd i1).2.1
        have hc1 := pw_c_le (Wd i1).2.2 (Wd i1).1
        have hb01 := pq_lt60 (pw_b_lt (Wd i1).2.2 0 (Wd i1).1) hh1
        have hb11 := pq_lt60 (pw_b_lt (Wd i1).2.2 (Wd i1).1 (Wd i1).2.1) hp61
        refine pq_if_eq (tgt := 83) (a := 1) hx hb d_M_make_42 (by decide) (by omega) (fun c_42 => absurd c_42 (by omega)) (fun c_42 => ?_)
        refine lv_iload hx hb d_M_make_45 (lv_at hl 0 rfl) ?_
        refine pq_if_eq (tgt := 58) (a := 0) hx hb d_M_make_47 (by decide) (by omega) (fun c_47 => ?_) (fun c_47 => absurd c_47 (by omega))
        refine lv_iload_n hx hb d_M_make_58 rfl (lv_at hl 2 rfl) ?_
        refine lv_bipush (v := nI 6) hx hb d_M_make_59 (by decide) ?_
        refine pq_icmp_ne (tgt := 74) (a := 7) (b := 6) hx hb d_M_make_61 (by decide) (by omega) (by omega) (fun c_61 => ?_) (fun c_61 => absurd c_61 (by omega))
        refine lv_aload_n hx hb d_M_make_74 rfl (lv_at hl 1 rfl) ?_
        refine va_get (D := (dC, dI)) (ci := ciM) (v := .int (nI (n))) (C := R_M) (T := F_M) (N := 9) hx hb hts (fun w h => List.mem_cons_of_mem _ (in_M w h)) hown hK hP 0 rfl rfl 1 (by decide) (hts (.fieldLink R_M 31 "PeriodWordsModel" "words" "I") (List.mem_cons_of_mem _ mb_384)) (fun _ h9 => h9) rfl d_M_make_75 ?_
        refine lv_bipush (v := nI 40) hx hb d_M_make_78 (by decide) ?_
        refine pq_icmp_ne (tgt := 85) (a := n) (b := 40) hx hb d_M_make_80 (by decide) (by omega) (by omega) (fun c_80 => ?_) (fun c_80 => ?_)
        · refine lv_iload_n hx hb d_M_make_85 rfl (lv_at hl 2 rfl) ?_
          refine lv_iconst (v := nI 5) hx hb d_M_make_86 (by decide) ?_
          refine pq_icmp_ne (tgt := 103) (a := 7) (b := 5) hx hb d_M_make_87 (by decide) (by omega) (by omega) (fun c_87 => ?_) (fun c_87 => absurd c_87 (by omega))
          refine lv_iload_n hx hb d_M_make_103 rfl (lv_at hl 2 rfl) ?_
          refine lv_tableIn (tgt := 167) hx hb d_M_make_104 (by decide) (by decide) rfl (by decide) ?_
          refine lv_aload_n hx hb d_M_make_167 rfl (lv_at hl 1 rfl) ?_
          refine lv_iload_n hx hb d_M_make_168 rfl (lv_at hl 3 rfl) ?_
          have hFc := va_free (wc := [(o, .inr (ciM, [.int (nI (0)), .int (nI (n)), .ref a1, .ref a2, .ref a3, .ref a4, .ref a5, .int (mo), .int (le)])), (a1, .inl (c1, 40, .inl xh)), (a2, .inl (c2, 40, .inl yr)), (a3, .inl (c3, 40, .inr (.inl xb))), (a4, .inl (c4, 40, .inr (.inl yb))), (a5, .inl (c5, 7400, .inl bs))]) hD hS hA [0, 1, 2, 3, 4, 5] rfl
          refine va_calli (va_runV (As := [.int (nI (i1))]) (rest := []) ⟨hx, hb, hml, hown, hts⟩ (c_M_halved l dC dI hmd1 (f2 := (Wd i1).2.2) (d := 0) (by omega)) (cwV 1 hts (gd_V mb_474 mb_476 mb_13 mb_23 mb_477) rfl rfl rfl (by decide +kernel) ⟨Nat.le_of_ble_eq_true rfl, Nat.le_of_ble_eq_true rfl⟩) ⟨md_blind, va_recv hK hP (ci := ciM) (q0 := 0) rfl rfl, fun U hU hW => ⟨rfl, by rw [hU], by rw [hU]; exact hP, va_K.moved hW.alike hK, hD.weaken (fun _ _ _ _ => trivial)⟩⟩ rfl rfl hl.1 rfl (lv_room (Nat.le_of_ble_eq_true rfl)) d_M_make_169 ⟨Nat.le_of_ble_eq_true rfl, Nat.le_of_ble_eq_true rfl⟩) hS (fun q _ h => hFc q h) hFc (fun r_169 u_169 t_ H1 locs ht_ hvm_ hr_169 hB_ hz1_ hk1_ hS => ?_)
          obtain ⟨hP1_, hK1_, hD1_⟩ := hB_
          rw [ht_] at hP1_
          clear hP hD
          have hP := hP1_
          have hD := hD1_.weaken (fun k q _ h => hFc q.1 h)
          generalize H1 = H at hP hS ⊢
          have hP : va_P (dC, dI) vwCl [(o, .inr (ciM, [.int (u_169.1), .int (nI (u_169.2.1)), .ref a1, .ref a2, .ref a3, .ref a4, .ref a5, .int (u_169.2.2.1), .int (u_169.2.2.2.1)])), (a1, .inl (c1, 40, .inl u_169.2.2.2.2.1)), (a2, .inl (c2, 40, .inl u_169.2.2.2.2.2.1)), (a3, .inl (c3, 40, .inr (.inl u_169.2.2.2.2.2.2.1))), (a4, .inl (c4, 40, .inr (.inl u_169.2.2.2.2.2.2.2.1))), (a5, .inl (c5, 7400, .inl u_169.2.2.2.2.2.2.2.2))] H := hP
          have hD : va_D A [(o, .inr (ciM, [.int (u_169.1), .int (nI (u_169.2.1)), .ref a1, .ref a2, .ref a3, .ref a4, .ref a5, .int (u_169.2.2.1), .int (u_169.2.2.2.1)])), (a1, .inl (c1, 40, .inl u_169.2.2.2.2.1)), (a2, .inl (c2, 40, .inl u_169.2.2.2.2.2.1)), (a3, .inl (c3, 40, .inr (.inl u_169.2.2.2.2.2.2.1))), (a4, .inl (c4, 40, .inr (.inl u_169.2.2.2.2.2.2.2.1))), (a5, .inl (c5, 7400, .inl u_169.2.2.2.2.2.2.2.2))] := hD
          exact W.iret (v := (r_169)) hx hb hr (fun t_ ht_ hW_ => ⟨⟨_, u_169, rfl, Or.inl ⟨7, i1, i1, 0, ⟨by omega, by decide, hxk, hi1, hx1, fun q => absurd q (by unfold sp_two; omega), fun q => absurd q (by decide), fun q => rfl, fun q => rfl⟩, fun q => absurd q (by decide), hr_169.1, hr_169.2⟩, by rw [ht_]; exact hP, va_K.moved hW_.alike hK, hD⟩, hS.F ht_⟩) hS.2.2 d_M_make_172
        · refine lv_iconst (v := (-1)) hx hb d_M_make_83 (by decide) ?_
          exact W.iret (v := (-1)) hx hb hr (fun t_ ht_ hW_ => ⟨⟨_, (nI (0), n, mo, le, xh, yr, xb, yb, bs), rfl, Or.inr (Or.inr ⟨fun ⟨k9, i, j, d, hn4, hk9, e1, hi, e2, h2, h6, h7, h8⟩ => absurd hn4 (by omega), rfl, rfl⟩), by rw [ht_]; exact hP, va_K.moved hW_.alike hK, hD⟩, hS.F ht_⟩) hS.2.2 d_M_make_84
      · subst hre
        refine pq_if_eq (tgt := 83) (a := 0) hx hb d_M_make_42 (by decide) (by omega) (fun c_42 => ?_) (fun c_42 => absurd c_42 (by omega))
        refine lv_iconst (v := (-1)) hx hb d_M_make_83 (by decide) ?_
        exact W.iret (v := (-1)) hx hb hr (fun t_ ht_ hW_ => ⟨⟨_, (nI (0), n, mo, le, xh, yr, xb, yb, bs), rfl, Or.inr (Or.inr ⟨fun ⟨k9, i, j, d, hn4, hk9, e1, hi, e2, h2, h6, h7, h8⟩ => hno1 ⟨i, hi, e2⟩, rfl, rfl⟩), by rw [ht_]; exact hP, va_K.moved hW_.alike hK, hD⟩, hS.F ht_⟩) hS.2.2 d_M_make_84
  · refine lv_aload_n hx hb d_M_make_0 rfl (lv_at hl 0 rfl) ?_
    refine lv_iconst (v := nI 0) hx hb d_M_make_1 (by decide) ?_
    refine va_put (D := (dC, dI)) (ci := ciM) (v := .int (nI (0))) (ty := .int) (C := R_M) (T := F_M) (N := 9) hx hb hts (fun w h => List.mem_cons_of_mem _ (in_M w h)) t_M t_M_ok n_M hown hK hP hD hS 0 rfl rfl 0 (by decide) (hts (.fieldLink R_M 27 "PeriodWordsModel" "thrown" "I") (List.mem_cons_of_mem _ mb_383)) (fun _ h9 => h9) rfl (by decide +kernel) rfl rfl (Nat.le_of_ble_eq_true rfl) d_M_make_2 (fun H locs hP hD hS => ?_)
    have hP : va_P (dC, dI) vwCl [(o, .inr (ciM, [.int (nI (0)), .int (nI (n)), .ref a1, .ref a2, .ref a3, .ref a4, .ref a5, .int (mo), .int (le)])), (a1, .inl (c1, 40, .inl xh)), (a2, .inl (c2, 40, .inl yr)), (a3, .inl (c3, 40, .inr (.inl xb))), (a4, .inl (c4, 40, .inr (.inl yb))), (a5, .inl (c5, 7400, .inl bs))] H := hP
    have hD : va_D A [(o, .inr (ciM, [.int (nI (0)), .int (nI (n)), .ref a1, .ref a2, .ref a3, .ref a4, .ref a5, .int (mo), .int (le)])), (a1, .inl (c1, 40, .inl xh)), (a2, .inl (c2, 40, .inl yr)), (a3, .inl (c3, 40, .inr (.inl xb))), (a4, .inl (c4, 40, .inr (.inl yb))), (a5, .inl (c5, 7400, .inl bs))] := hD
    refine lv_iload_n hx hb d_M_make_5 rfl (lv_at hl 1 rfl) ?_
    refine lv_iconst (v := nI 3) hx hb d_M_make_6 (by decide) ?_
    refine lv_icmp_lt (tgt := 20) hx hb d_M_make_7 (by decide) (fun c_7 => ?_) (fun c_7 => ?_)
    · refine lv_iconst (v := nI 1) hx hb d_M_make_20 (by decide) ?_
      refine lv_goto (tgt := 25) hx hb d_M_make_21 (by decide) ?_
      refine lv_istore (lv' := [(4, .int (nI (1))), (0, .ref o), (1, .int (x)), (2, .int (y)), (3, .int (z))]) hx hb d_M_make_25 hl (by decide) rfl (fun ls hl => ?_)
      refine lv_iload_n hx hb d_M_make_27 rfl (lv_at hl 2 rfl) ?_
      refine lv_iconst (v := nI 0) hx hb d_M_make_28 (by decide) ?_
      refine lv_bipush (v := nI 7) hx hb d_M_make_29 (by decide) ?_
      refine vp_callSi (W.runS (As := [.int (x), .int (nI (0)), .int (nI (7))]) (rest := []) ⟨hx, hb, hml, hown, hts⟩ (c_M_in l dC dI (x := x) (lo := nI 0) (hi := nI 7)) (va_cwS 3 hts (gd_S mb_421 mb_422 mb_23 mb_423) rfl rfl rfl (by decide +kernel) ⟨Nat.le_of_ble_eq_true rfl, Nat.le_of_ble_eq_true rfl⟩) (pw_R_S pw_P0 (hK.sub [] rfl)) rfl rfl hl.1 rfl (lv_room (Nat.le_of_ble_eq_true rfl)) d_M_make_31 ⟨Nat.le_of_ble_eq_true rfl, Nat.le_of_ble_eq_true rfl⟩) (fun r_31 hr_31 => ?_)
      rcases hr_31 with ⟨hre, hlo, hhi⟩ | ⟨hre, hnin⟩
      · exfalso; obtain ⟨j, hj, e⟩ := pq_in_of (N := 7) (by decide) hlo hhi; exact hnox ⟨j, by omega, e⟩
      · subst hre
        refine pq_if_eq (tgt := 83) (a := 0) hx hb d_M_make_34 (by decide) (by omega) (fun c_34 => ?_) (fun c_34 => absurd c_34 (by omega))
        refine lv_iconst (v := (-1)) hx hb d_M_make_83 (by decide) ?_
        exact W.iret (v := (-1)) hx hb hr (fun t_ ht_ hW_ => ⟨⟨_, (nI (0), n, mo, le, xh, yr, xb, yb, bs), rfl, Or.inr (Or.inr ⟨fun ⟨k9, i, j, d, hn4, hk9, e1, hi, e2, h2, h6, h7, h8⟩ => hnox ⟨k9, hk9, e1⟩, rfl, rfl⟩), by rw [ht_]; exact hP, va_K.moved hW_.alike hK, hD⟩, hS.F ht_⟩) hS.2.2 d_M_make_84
    · refine lv_iload_n hx hb d_M_make_10 rfl (lv_at hl 1 rfl) ?_
      refine lv_iconst (v := nI 4) hx hb d_M_make_11 (by decide) ?_
      refine lv_icmp_eq (tgt := 20) hx hb d_M_make_12 (by decide) (fun c_12 => ?_) (fun c_12 => ?_)
      · refine lv_iconst (v := nI 1) hx hb d_M_make_20 (by decide) ?_
        refine lv_goto (tgt := 25) hx hb d_M_make_21 (by decide) ?_
        refine lv_istore (lv' := [(4, .int (nI (1))), (0, .ref o), (1, .int (x)), (2, .int (y)), (3, .int (z))]) hx hb d_M_make_25 hl (by decide) rfl (fun ls hl => ?_)
        refine lv_iload_n hx hb d_M_make_27 rfl (lv_at hl 2 rfl) ?_
        refine lv_iconst (v := nI 0) hx hb d_M_make_28 (by decide) ?_
        refine lv_bipush (v := nI 7) hx hb d_M_make_29 (by decide) ?_
        refine vp_callSi (W.runS (As := [.int (x), .int (nI (0)), .int (nI (7))]) (rest := []) ⟨hx, hb, hml, hown, hts⟩ (c_M_in l dC dI (x := x) (lo := nI 0) (hi := nI 7)) (va_cwS 3 hts (gd_S mb_421 mb_422 mb_23 mb_423) rfl rfl rfl (by decide +kernel) ⟨Nat.le_of_ble_eq_true rfl, Nat.le_of_ble_eq_true rfl⟩) (pw_R_S pw_P0 (hK.sub [] rfl)) rfl rfl hl.1 rfl (lv_room (Nat.le_of_ble_eq_true rfl)) d_M_make_31 ⟨Nat.le_of_ble_eq_true rfl, Nat.le_of_ble_eq_true rfl⟩) (fun r_31 hr_31 => ?_)
        rcases hr_31 with ⟨hre, hlo, hhi⟩ | ⟨hre, hnin⟩
        · exfalso; obtain ⟨j, hj, e⟩ := pq_in_of (N := 7) (by decide) hlo hhi; exact hnox ⟨j, by omega, e⟩
        · subst hre
          refine pq_if_eq (tgt := 83) (a := 0) hx hb d_M_make_34 (by decide) (by omega) (fun c_34 => ?_) (fun c_34 => absurd c_34 (by omega))
          refine lv_iconst (v := (-1)) hx hb d_M_make_83 (by decide) ?_
          exact W.iret (v := (-1)) hx hb hr (fun t_ ht_ hW_ => ⟨⟨_, (nI (0), n, mo, le, xh, yr, xb, yb, bs), rfl, Or.inr (Or.inr ⟨fun ⟨k9, i, j, d, hn4, hk9, e1, hi, e2, h2, h6, h7, h8⟩ => hnox ⟨k9, hk9, e1⟩, rfl, rfl⟩), by rw [ht_]; exact hP, va_K.moved hW_.alike hK, hD⟩, hS.F ht_⟩) hS.2.2 d_M_make_84
      · refine lv_iload_n hx hb d_M_make_15 rfl (lv_at hl 1 rfl) ?_
        refine lv_iconst (v := nI 5) hx hb d_M_make_16 (by decide) ?_
        refine lv_icmp_ne (tgt := 24) hx hb d_M_make_17 (by decide) (fun c_17 => ?_) (fun c_17 => ?_)
        · refine lv_iconst (v := nI 0) hx hb d_M_make_24 (by decide) ?_
          refine lv_istore (lv' := [(4, .int (nI (0))), (0, .ref o), (1, .int (x)), (2, .int (y)), (3, .int (z))]) hx hb d_M_make_25 hl (by decide) rfl (fun ls hl => ?_)
          refine lv_iload_n hx hb d_M_make_27 rfl (lv_at hl 2 rfl) ?_
          refine lv_iconst (v := nI 0) hx hb d_M_make_28 (by decide) ?_
          refine lv_bipush (v := nI 7) hx hb d_M_make_29 (by decide) ?_
          refine vp_callSi (W.runS (As := [.int (x), .int (nI (0)), .int (nI (7))]) (rest := []) ⟨hx, hb, hml, hown, hts⟩ (c_M_in l dC dI (x := x) (lo := nI 0) (hi := nI 7)) (va_cwS 3 hts (gd_S mb_421 mb_422 mb_23 mb_423) rfl rfl rfl (by decide +kernel) ⟨Nat.le_of_ble_eq_true rfl, Nat.le_of_ble_eq_true rfl⟩) (pw_R_S pw_P0 (hK.sub [] rfl)) rfl rfl hl.1 rfl (lv_room (Nat.le_of_ble_eq_true rfl)) d_M_make_31 ⟨Nat.le_of_ble_eq_true rfl, Nat.le_of_ble_eq_true rfl⟩) (fun r_31 hr_31 => ?_)
          rcases hr_31 with ⟨hre, hlo, hhi⟩ | ⟨hre, hnin⟩
          · exfalso; obtain ⟨j, hj, e⟩ := pq_in_of (N := 7) (by decide) hlo hhi; exact hnox ⟨j, by omega, e⟩
          · subst hre
            refine pq_if_eq (tgt := 83) (a := 0) hx hb d_M_make_34 (by decide) (by omega) (fun c_34 => ?_) (fun c_34 => absurd c_34 (by omega))
            refine lv_iconst (v := (-1)) hx hb d_M_make_83 (by decide) ?_
            exact W.iret (v := (-1)) hx hb hr (fun t_ ht_ hW_ => ⟨⟨_, (nI (0), n, mo, le, xh, yr, xb, yb, bs), rfl, Or.inr (Or.inr ⟨fun ⟨k9, i, j, d, hn4, hk9, e1, hi, e2, h2, h6, h7, h8⟩ => hnox ⟨k9, hk9, e1⟩, rfl, rfl⟩), by rw [ht_]; exact hP, va_K.moved hW_.alike hK, hD⟩, hS.F ht_⟩) hS.2.2 d_M_make_84
        · refine lv_iconst (v := nI 1) hx hb d_M_make_20 (by decide) ?_
          refine lv_goto (tgt := 25) hx hb d_M_make_21 (by decide) ?_
          refine lv_istore (lv' := [(4, .int (nI (1))), (0, .ref o), (1, .int (x)), (2, .int (y)), (3, .int (z))]) hx hb d_M_make_25 hl (by decide) rfl (fun ls hl => ?_)
          refine lv_iload_n hx hb d_M_make_27 rfl (lv_at hl 2 rfl) ?_
          refine lv_iconst (v := nI 0) hx hb d_M_make_28 (by decide) ?_
          refine lv_bipush (v := nI 7) hx hb d_M_make_29 (by decide) ?_
          refine vp_callSi (W.runS (As := [.int (x), .int (nI (0)), .int (nI (7))]) (rest := []) ⟨hx, hb, hml, hown, hts⟩ (c_M_in l dC dI (x := x) (lo := nI 0) (hi := nI 7)) (va_cwS 3 hts (gd_S mb_421 mb_422 mb_23 mb_423) rfl rfl rfl (by decide +kernel) ⟨Nat.le_of_ble_eq_true rfl, Nat.le_of_ble_eq_true rfl⟩) (pw_R_S pw_P0 (hK.sub [] rfl)) rfl rfl hl.1 rfl (lv_room (Nat.le_of_ble_eq_true rfl)) d_M_make_31 ⟨Nat.le_of_ble_eq_true rfl, Nat.le_of_ble_eq_true rfl⟩) (fun r_31 hr_31 => ?_)
          rcases hr_31 with ⟨hre, hlo, hhi⟩ | ⟨hre, hnin⟩
          · exfalso; obtain ⟨j, hj, e⟩ := pq_in_of (N := 7) (by decide) hlo hhi; exact hnox ⟨j, by omega, e⟩
          · subst hre
            refine pq_if_eq (tgt := 83) (a := 0) hx hb d_M_make_34 (by decide) (by omega) (fun c_34 => ?_) (fun c_34 => absurd c_34 (by omega))
            refine lv_iconst (v := (-1)) hx hb d_M_make_83 (by decide) ?_
            exact W.iret (v := (-1)) hx hb hr (fun t_ ht_ hW_ => ⟨⟨_, (nI (0), n, mo, le, xh, yr, xb, yb, bs), rfl, Or.inr (Or.inr ⟨fun ⟨k9, i, j, d, hn4, hk9, e1, hi, e2, h2, h6, h7, h8⟩ => hnox ⟨k9, hk9, e1⟩, rfl, rfl⟩), by rw [ht_]; exact hP, va_K.moved hW_.alike hK, hD⟩, hS.F ht_⟩) hS.2.2 d_M_make_84
