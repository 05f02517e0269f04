set_option maxHeartbeats 4000000 in
set_option maxRecDepth 100000 in
theorem c_M_settle (l : Launch) (dC : Nat → ClassId) (dI : Nat → Nat → Nat) {sz : Nat} {o a1 a2 a3 a4 a5 : Nat} {c1 c2 c3 c4 c5 : ClassId} {th mo le : Int32} {n : Nat} {xh yr : Nat → Int32} {xb yb : Nat → Int64} {bs : Nat → Int32} {F : Nat → Bool} {fr bk : Nat} (hbs : ∀ t, t < fr + bk → bs t = nI (F t).toNat) (hfb : fr + bk ≤ 7400) (hbk : 0 < bk) (hEF : pw_E F fr bk) (hn : n < 40) : Met l y_M_settle ws_M_settle ({ frames := 1, cells := 0, slots := 0, locals := 24 } : Room) (md_Pre [.ref o, .int (nI (fr)), .int (nI (bk))] dC dI sz (mdT c1 c2 c3 c4 c5) (md o a1 a2 a3 a4 a5 c1 c2 c3 c4 c5 th n mo le xh yr xb yb bs)) (va_Qi (fun r u => md_set F n xh yr xb yb r u ∧ u.1 = th) (md_B dC dI (va_A (md o a1 a2 a3 a4 a5 c1 c2 c3 c4 c5 th n mo le xh yr xb yb bs) sz) o a1 a2 a3 a4 a5 c1 c2 c3 c4 c5) (va_A (md o a1 a2 a3 a4 a5 c1 c2 c3 c4 c5 th n mo le xh yr xb yb bs) sz)) 0 0 (va_A (md o a1 a2 a3 a4 a5 c1 c2 c3 c4 c5 th n mo le xh yr xb yb bs) sz) := by
  refine Met.ofW (cc := b_M_settle) (maxL := 6) (ret := (some .int)) (by decide) rfl ?_
  intro p e s m args below meth c s₁ B hml hv
  obtain ⟨rfl, hsz, hP, hK, hD0⟩ := hv
  have hx := B.exec
  have hb := B.bytes
  have hr := B.returns
  have hts := atoms_spec (ws := ws_M_settle) B.pre
  have hown : s.vm.findClass R_M = some m.cls := findClass_of_methodNamed B.named
  have hlocks := B.notSynchronized
  subst hsz
  have hD := hD0.self (sz := s.heap.size)
  generalize hAe : va_A (md o a1 a2 a3 a4 a5 c1 c2 c3 c4 c5 th n mo le xh yr xb yb bs) s.heap.size = A at hD ⊢
  have hA : ∀ q : Nat, s.heap.size ≤ q → A q := fun q h => by rw [← hAe]; exact Or.inr h
  have hS : va_S A s.heap s.heap [] := va_S.rf
  have hl := lv_entry ([.ref o, .int (nI (fr)), .int (nI (bk))]) (n := 6) (Nat.le_of_ble_eq_true rfl)
  rw [lg_entry_eq]
  generalize (lg_sl ([.ref o, .int (nI (fr)), .int (nI (bk))]) ++ List.replicate (6 - (lg_sl ([.ref o, .int (nI (fr)), .int (nI (bk))])).length) Slot.unset).toArray = ls at hl ⊢
  have hl : lv_has ls 6 [(0, .ref o), (1, .int (nI (fr))), (2, .int (nI (bk)))] := hl
  refine lv_iconst (v := nI 1) hx hb d_M_settle_0 (by decide) ?_
  refine lv_istore_n (lv' := [(3, .int (nI (1))), (0, .ref o), (1, .int (nI (fr))), (2, .int (nI (bk)))]) hx hb d_M_settle_1 rfl hl (by decide) rfl (fun ls hl => ?_)
  have B_2 : ∀ (k_ : Nat) (p0 : Nat) (H : Heap) (locs : List Loc) (ls : Array Slot), (bk - p0) < k_ → (0 < p0) → (p0 ≤ bk) → (∀ q, 0 < q → q < p0 → ¬ (bk % q = 0 ∧ pw_B F fr bk q)) → (va_P (dC, dI) vwCl [(o, .inr (ciM, [.int (th), .int (nI (n)), .ref a1, .ref a2, .ref a3, .ref a4, .ref a5, .int (mo), .int (le)])), (a1, .inl (c1, 40, .inl xh)), (a2, .inl (c2, 40, .inl yr)), (a3, .inl (c3, 40, .inr (.inl xb))), (a4, .inl (c4, 40, .inr (.inl yb))), (a5, .inl (c5, 7400, .inl bs))] H) → (va_D A [(o, .inr (ciM, [.int (th), .int (nI (n)), .ref a1, .ref a2, .ref a3, .ref a4, .ref a5, .int (mo), .int (le)])), (a1, .inl (c1, 40, .inl xh)), (a2, .inl (c2, 40, .inl yr)), (a3, .inl (c3, 40, .inr (.inl xb))), (a4, .inl (c4, 40, .inr (.inl yb))), (a5, .inl (c5, 7400, .inl bs))]) → (va_S A s.heap H locs) → lv_has ls 6 [(0, .ref o), (1, .int (nI (fr))), (2, .int (nI (bk))), (3, .int (nI (p0)))] → W p l e (headSpec ws_M_settle ({ frames := 1, cells := 0, slots := 0, locals := 24 } : Room)).room s m ([.ref o, .int (nI (fr)), .int (nI (bk))]).toArray below meth c H locs 0 0 (MQ below (va_Qi (fun r u => md_set F n xh yr xb yb r u ∧ u.1 = th) (md_B dC dI A o a1 a2 a3 a4 a5 c1 c2 c3 c4 c5) A) ([.ref o, .int (nI (fr)), .int (nI (bk))]).toArray s 0 0 A) (F0 m 2 ls []) := by
    intro k_
    induction k_ with
    | zero => intro p0 H locs ls h_; omega
    | succ k_ ih_2 =>
      intro p0 H locs ls hm_ hp00 hpb hlow hP hD hS hl
      refine lv_iload_n hx hb d_M_settle_2 rfl (lv_at hl 2 rfl) ?_
      refine lv_iload_n hx hb d_M_settle_3 rfl (lv_at hl 3 rfl) ?_
      refine pq_irem (a := bk) (b := p0) hx hb d_M_settle_4 (by omega) (by omega) (by omega) ?_
      refine pq_if_ne (tgt := 18) (a := (bk % p0)) hx hb d_M_settle_5 (by decide) (by have := Nat.mod_lt bk hp00; omega) (fun c_5 => ?_) (fun c_5 => ?_)
      · have hnot : ¬ (bk % p0 = 0 ∧ pw_B F fr bk p0) := by first | (intro z; exact absurd z.1 (by omega)) | exact fun z => hr_12.elim (fun y => absurd (y.1.symm.trans c_15) (by decide)) (fun y => y.2 z.2)
        have hltb : p0 < bk := by
          rcases Nat.lt_or_ge p0 bk with z | z
          · exact z
          · exfalso; apply hnot; rw [show p0 = bk by omega]; exact ⟨Nat.mod_self bk, fun k hk => absurd hk (by omega)⟩
        refine lv_iinc (v := nI (p0 + 1)) (lv' := [(3, .int (nI (p0 + 1))), (0, .ref o), (1, .int (nI (fr))), (2, .int (nI (bk)))]) hx hb d_M_settle_18 hl (k := 3) rfl (pq_inc _) (by decide) rfl (fun ls hl => ?_)
        refine lv_goto (tgt := 2) hx hb d_M_settle_21 (by decide) ?_
        exact ih_2 (p0 + 1) _ _ ls (by omega) (by omega) (by omega) (fun q h0 h1 => (Nat.lt_or_ge q p0).elim (fun z => hlow q h0 z) (fun z => (show q = p0 by omega) ▸ hnot)) hP hD hS (lv_sub hl [1, 2, 3, 0] rfl)
      · refine lv_aload_n hx hb d_M_settle_8 rfl (lv_at hl 0 rfl) ?_
        refine lv_iload_n hx hb d_M_settle_9 rfl (lv_at hl 1 rfl) ?_
        refine lv_iload_n hx hb d_M_settle_10 rfl (lv_at hl 2 rfl) ?_
        refine lv_iload_n hx hb d_M_settle_11 rfl (lv_at hl 3 rfl) ?_
        refine vp_callSi (W.runV (As := [.int (nI (fr)), .int (nI (bk)), .int (nI (p0))]) (rest := []) ⟨hx, hb, hml, hown, hts⟩ (c_M_comesBack l dC dI hbs hfb (p0 := p0) (by omega)) (cwV 3 hts (gd_V mb_428 mb_430 mb_4 mb_23 mb_431) rfl rfl rfl (by decide +kernel) ⟨Nat.le_of_ble_eq_true rfl, Nat.le_of_ble_eq_true rfl⟩) (pw_R_V (va_recv hK hP (ci := ciM) (q0 := 0) rfl rfl) hP hK) rfl rfl hl.1 rfl (lv_room (Nat.le_of_ble_eq_true rfl)) d_M_settle_12 ⟨Nat.le_of_ble_eq_true rfl, Nat.le_of_ble_eq_true rfl⟩) (fun r_12 hr_12 => ?_)
        refine lv_if_ne (tgt := 24) hx hb d_M_settle_15 (by decide) (fun c_15 => ?_) (fun c_15 => ?_)
        · have hcb : pw_B F fr bk p0 := hr_12.elim (fun z => z.2) (fun z => absurd z.1 c_15)
          obtain ⟨hEp, hmin⟩ := pw_B_least hbk hEF hp00 c_5 hcb hlow
          have B_61 : ∀ (hy : Nat) (H : Heap) (locs : List Loc) (ls : Array Slot), (hy ≤ fr) → (pw_Can F hy p0) → (va_P (dC, dI) vwCl [(o, .inr (ciM, [.int (th), .int (nI (n)), .ref a1, .ref a2, .ref a3, .ref a4, .ref a5, .int (mo), .int (le)])), (a1, .inl (c1, 40, .inl xh)), (a2, .inl (c2, 40, .inl yr)), (a3, .inl (c3, 40, .inr (.inl xb))), (a4, .inl (c4, 40, .inr (.inl yb))), (a5, .inl (c5, 7400, .inl bs))] H) → (va_D A [(o, .inr (ciM, [.int (th), .int (nI (n)), .ref a1, .ref a2, .ref a3, .ref a4, .ref a5, .int (mo), .int (le)])), (a1, .inl (c1, 40, .inl xh)), (a2, .inl (c2, 40, .inl yr)), (a3, .inl (c3, 40, .inr (.inl xb))), (a4, .inl (c4, 40, .inr (.inl yb))), (a5, .inl (c5, 7400, .inl bs))]) → (va_S A s.heap H locs) → lv_has ls 6 [(0, .ref o), (3, .int (nI (p0))), (4, .int (nI (hy)))] → W p l e (headSpec ws_M_settle ({ frames := 1, cells := 0, slots := 0, locals := 24 } : Room)).room s m ([.ref o, .int (nI (fr)), .int (nI (bk))]).toArray below meth c H locs 0 0 (MQ below (va_Qi (fun r u => md_set F n xh yr xb yb r u ∧ u.1 = th) (md_B dC dI A o a1 a2 a3 a4 a5 c1 c2 c3 c4 c5) A) ([.ref o, .int (nI (fr)), .int (nI (bk))]).toArray s 0 0 A) (F0 m 61 ls []) := by
            intro hy H locs ls hyf hcan hP hD hS hl
            refine lv_iload hx hb d_M_settle_61 (lv_at hl 2 rfl) ?_
            refine lv_bipush (v := nI 60) hx hb d_M_settle_63 (by decide) ?_
            refine pq_icmp_gt (tgt := 74) (a := hy) (b := 60) hx hb d_M_settle_65 (by decide) (by omega) (by omega) (fun c_65 => ?_) (fun c_65 => ?_)
            · refine lv_iconst (v := (-1)) hx hb d_M_settle_74 (by decide) ?_
              exact W.iret (v := (-1)) hx hb hr (fun t_ ht_ hW_ => ⟨⟨_, (th, n, mo, le, xh, yr, xb, yb, bs), rfl, ⟨⟨hy, p0, hcan, Or.inr ⟨by omega, rfl, rfl, fun i hi => ⟨rfl, rfl, rfl, rfl⟩⟩⟩, rfl⟩, by rw [ht_]; exact hP, va_K.moved hW_.alike hK, hD⟩, hS.F ht_⟩) hS.2.2 d_M_settle_75
            · refine lv_iload_n hx hb d_M_settle_68 rfl (lv_at hl 1 rfl) ?_
              refine lv_bipush (v := nI 60) hx hb d_M_settle_69 (by decide) ?_
              refine pq_icmp_le (tgt := 76) (a := p0) (b := 60) hx hb d_M_settle_71 (by decide) (by omega) (by omega) (fun c_71 => ?_) (fun c_71 => ?_)
              · refine lv_aload_n hx hb d_M_settle_76 rfl (lv_at hl 0 rfl) ?_
                refine va_get (D := (dC, dI)) (ci := ciM) (v := .ref a1) (C := R_M) (T := F_M) (N := 9) hx hb hts (fun w h => List.mem_cons_of_mem _ (in_M w h)) hown hK hP 0 rfl rfl 2 (by decide) (hts (.fieldLink R_M 7 "PeriodWordsModel" "head" "[I") (List.mem_cons_of_mem _ mb_385)) (fun _ h9 => h9) rfl d_M_settle_77 ?_
                refine lv_aload_n hx hb d_M_settle_80 rfl (lv_at hl 0 rfl) ?_
                refine va_get (D := (dC, dI)) (ci := ciM) (v := .int (nI (n))) (C := R_M) (T := F_M) (N := 9) hx hb hts (fun w h => List.mem_cons_of_mem _ (in_M w h)) hown hK hP 0 rfl rfl 1 (by decide) (hts (.fieldLink R_M 31 "PeriodWordsModel" "words" "I") (List.mem_cons_of_mem _ mb_384)) (fun _ h9 => h9) rfl d_M_settle_81 ?_
                refine lv_iload hx hb d_M_settle_84 (lv_at hl 2 rfl) ?_
                refine va_iast hx hb hK hP hD hS 1 0 rfl rfl (vp_in_nI (n := n) (by omega) (by omega)) d_M_settle_86 (fun H locs hP hD hS => ?_)
                rw [pq_cl (by omega)] at hP hD
                have hP : va_P (dC, dI) vwCl [(o, .inr (ciM, [.int (th), .int (nI (n)), .ref a1, .ref a2, .ref a3, .ref a4, .ref a5, .int (mo), .int (le)])), (a1, .inl (c1, 40, .inl (upd xh n (nI (hy))))), (a2, .inl (c2, 40, .inl yr)), (a3, .inl (c3, 40, .inr (.inl xb))), (a4, .inl (c4, 40, .inr (.inl yb))), (a5, .inl (c5, 7400, .inl bs))] H := hP
                have hD : va_D A [(o, .inr (ciM, [.int (th), .int (nI (n)), .ref a1, .ref a2, .ref a3, .ref a4, .ref a5, .int (mo), .int (le)])), (a1, .inl (c1, 40, .inl (upd xh n (nI (hy))))), (a2, .inl (c2, 40, .inl yr)), (a3, .inl (c3, 40, .inr (.inl xb))), (a4, .inl (c4, 40, .inr (.inl yb))), (a5, .inl (c5, 7400, .inl bs))] := hD
                refine lv_aload_n hx hb d_M_settle_87 rfl (lv_at hl 0 rfl) ?_
                refine va_get (D := (dC, dI)) (ci := ciM) (v := .ref a2) (C := R_M) (T := F_M) (N := 9) hx hb hts (fun w h => List.mem_cons_of_mem _ (in_M w h)) hown hK hP 0 rfl rfl 3 (by decide) (hts (.fieldLink R_M 13 "PeriodWordsModel" "ring" "[I") (List.mem_cons_of_mem _ mb_386)) (fun _ h9 => h9) rfl d_M_settle_88 ?_
                refine lv_aload_n hx hb d_M_settle_91 rfl (lv_at hl 0 rfl) ?_
                refine va_get (D := (dC, dI)) (ci := ciM) (v := .int (nI (n))) (C := R_M) (T := F_M) (N := 9) hx hb hts (fun w h => List.mem_cons_of_mem _ (in_M w h)) hown hK hP 0 rfl rfl 1 (by decide) (hts (.fieldLink R_M 31 "PeriodWordsModel" "words" "I") (List.mem_cons_of_mem _ mb_384)) (fun _ h9 => h9) rfl d_M_settle_92 ?_
                refine lv_iload_n hx hb d_M_settle_95 rfl (lv_at hl 1 rfl) ?_
                refine va_iast hx hb hK hP hD hS 2 1 rfl rfl (vp_in_nI (n := n) (by omega) (by omega)) d_M_settle_96 (fun H locs hP hD hS => ?_)
                rw [pq_cl (by omega)] at hP hD
                have hP : va_P (dC, dI) vwCl [(o, .inr (ciM, [.int (th), .int (nI (n)), .ref a1, .ref a2, .ref a3, .ref a4, .ref a5, .int (mo), .int (le)])), (a1, .inl (c1, 40, .inl (upd xh n (nI (hy))))), (a2, .inl (c2, 40, .inl (upd yr n (nI (p0))))), (a3, .inl (c3, 40, .inr (.inl xb))), (a4, .inl (c4, 40, .inr (.inl yb))), (a5, .inl (c5, 7400, .inl bs))] H := hP
                have hD : va_D A [(o, .inr (ciM, [.int (th), .int (nI (n)), .ref a1, .ref a2, .ref a3, .ref a4, .ref a5, .int (mo), .int (le)])), (a1, .inl (c1, 40, .inl (upd xh n (nI (hy))))), (a2, .inl (c2, 40, .inl (upd yr n (nI (p0))))), (a3, .inl (c3, 40, .inr (.inl xb))), (a4, .inl (c4, 40, .inr (.inl yb))), (a5, .inl (c5, 7400, .inl bs))] := hD
                refine lv_aload_n hx hb d_M_settle_97 rfl (lv_at hl 0 rfl) ?_
                refine va_get (D := (dC, dI)) (ci := ciM) (v := .ref a3) (C := R_M) (T := F_M) (N := 9) hx hb hts (fun w h => List.mem_cons_of_mem _ (in_M w h)) hown hK hP 0 rfl rfl 4 (by decide) (hts (.fieldLink R_M 16 "PeriodWordsModel" "headBits" "[J") (List.mem_cons_of_mem _ mb_387)) (fun _ h9 => h9) rfl d_M_settle_98 ?_
                refine lv_aload_n hx hb d_M_settle_101 rfl (lv_at hl 0 rfl) ?_
                refine va_get (D := (dC, dI)) (ci := ciM) (v := .int (nI (n))) (C := R_M) (T := F_M) (N := 9) hx hb hts (fun w h => List.mem_cons_of_mem _ (in_M w h)) hown hK hP 0 rfl rfl 1 (by decide) (hts (.fieldLink R_M 31 "PeriodWordsModel" "words" "I") (List.mem_cons_of_mem _ mb_384)) (fun _ h9 => h9) rfl d_M_settle_102 ?_
                refine lv_lconst (v := lN 0) hx hb d_M_settle_105 (by decide) ?_
                refine va_last hx hb hK hP hD hS 3 2 rfl rfl (vp_in_nI (n := n) (by omega) (by omega)) d_M_settle_106 (fun H locs hP hD hS => ?_)
                rw [pq_cl (by omega)] at hP hD
                have hP : va_P (dC, dI) vwCl [(o, .inr (ciM, [.int (th), .int (nI (n)), .ref a1, .ref a2, .ref a3, .ref a4, .ref a5, .int (mo), .int (le)])), (a1, .inl (c1, 40, .inl (upd xh n (nI (hy))))), (a2, .inl (c2, 40, .inl (upd yr n (nI (p0))))), (a3, .inl (c3, 40, .inr (.inl (vp_updL xb n (lN (0)))))), (a4, .inl (c4, 40, .inr (.inl yb))), (a5, .inl (c5, 7400, .inl bs))] H := hP
                have hD : va_D A [(o, .inr (ciM, [.int (th), .int (nI (n)), .ref a1, .ref a2, .ref a3, .ref a4, .ref a5, .int (mo), .int (le)])), (a1, .inl (c1, 40, .inl (upd xh n (nI (hy))))), (a2, .inl (c2, 40, .inl (upd yr n (nI (p0))))), (a3, .inl (c3, 40, .inr (.inl (vp_updL xb n (lN (0)))))), (a4, .inl (c4, 40, .inr (.inl yb))), (a5, .inl (c5, 7400, .inl bs))] := hD
                refine lv_aload_n hx hb d_M_settle_107 rfl (lv_at hl 0 rfl) ?_
                refine va_get (D := (dC, dI)) (ci := ciM) (v := .ref a4) (C := R_M) (T := F_M) (N := 9) hx hb hts (fun w h => List.mem_cons_of_mem _ (in_M w h)) hown hK hP 0 rfl rfl 5 (by decide) (hts (.fieldLink R_M 20 "PeriodWordsModel" "ringBits" "[J") (List.mem_cons_of_mem _ mb_388)) (fun _ h9 => h9) rfl d_M_settle_108 ?_
                refine lv_aload_n hx hb d_M_settle_111 rfl (lv_at hl 0 rfl) ?_
                refine va_get (D := (dC, dI)) (ci := ciM) (v := .int (nI (n))) (C := R_M) (T := F_M) (N := 9) hx hb hts (fun w h => List.mem_cons_of_mem _ (in_M w h)) hown hK hP 0 rfl rfl 1 (by decide) (hts (.fieldLink R_M 31 "PeriodWordsModel" "words" "I") (List.mem_cons_of_mem _ mb_384)) (fun _ h9 => h9) rfl d_M_settle_112 ?_
                refine lv_lconst (v := lN 0) hx hb d_M_settle_115 (by decide) ?_
                refine va_last hx hb hK hP hD hS 4 3 rfl rfl (vp_in_nI (n := n) (by omega) (by omega)) d_M_settle_116 (fun H locs hP hD hS => ?_)
                rw [pq_cl (by omega)] at hP hD
                have hP : va_P (dC, dI) vwCl [(o, .inr (ciM, [.int (th), .int (nI (n)), .ref a1, .ref a2, .ref a3, .ref a4, .ref a5, .int (mo), .int (le)])), (a1, .inl (c1, 40, .inl (upd xh n (nI (hy))))), (a2, .inl (c2, 40, .inl (upd yr n (nI (p0))))), (a3, .inl (c3, 40, .inr (.inl (vp_updL xb n (lN (0)))))), (a4, .inl (c4, 40, .inr (.inl (vp_updL yb n (lN (0)))))), (a5, .inl (c5, 7400, .inl bs))] H := hP
                have hD : va_D A [(o, .inr (ciM, [.int (th), .int (nI (n)), .ref a1, .ref a2, .ref a3, .ref a4, .ref a5, .int (mo), .int (le)])), (a1, .inl (c1, 40, .inl (upd xh n (nI (hy))))), (a2, .inl (c2, 40, .inl (upd yr n (nI (p0))))), (a3, .inl (c3, 40, .inr (.inl (vp_updL xb n (lN (0)))))), (a4, .inl (c4, 40, .inr (.inl (vp_updL yb n (lN (0)))))), (a5, .inl (c5, 7400, .inl bs))] := hD
                refine lv_iconst (v := nI 0) hx hb d_M_settle_117 (by decide) ?_
                refine lv_istore (lv' := [(5, .int (nI (0))), (0, .ref o), (3, .int (nI (p0))), (4, .int (nI (hy)))]) hx hb d_M_settle_118 hl (by decide) rfl (fun ls hl => ?_)
                have B_120 : ∀ (k_ : Nat) (k : Nat) (z : Nat → Int64) (H : Heap) (locs : List Loc) (ls : Array Slot), (hy - k) < k_ → (k ≤ hy) → (z n = lN (pw_b F 0 k)) → (∀ i, i < n → z i = xb i) → (va_P (dC, dI) vwCl [(o, .inr (ciM, [.int (th), .int (nI (n)), .ref a1, .ref a2, .ref a3, .ref a4, .ref a5, .int (mo), .int (le)])), (a1, .inl (c1, 40, .inl (upd xh n (nI (hy))))), (a2, .inl (c2, 40, .inl (upd yr n (nI (p0))))), (a3, .inl (c3, 40, .inr (.inl z))), (a4, .inl (c4, 40, .inr (.inl (vp_updL yb n (lN (0)))))), (a5, .inl (c5, 7400, .inl bs))] H) → (va_D A [(o, .inr (ciM, [.int (th), .int (nI (n)), .ref a1, .ref a2, .ref a3, .ref a4, .ref a5, .int (mo), .int (le)])), (a1, .inl (c1, 40, .inl (upd xh n (nI (hy))))), (a2, .inl (c2, 40, .inl (upd yr n (nI (p0))))), (a3, .inl (c3, 40, .inr (.inl z))), (a4, .inl (c4, 40, .inr (.inl (vp_updL yb n (lN (0)))))), (a5, .inl (c5, 7400, .inl bs))]) → (va_S A s.heap H locs) → lv_has ls 6 [(0, .ref o), (3, .int (nI (p0))), (4, .int (nI (hy))), (5, .int (nI (k)))] → W p l e (headSpec ws_M_settle ({ frames := 1, cells := 0, slots := 0, locals := 24 } : Room)).room s m ([.ref o, .int (nI (fr)), .int (nI (bk))]).toArray below meth c H locs 0 0 (MQ below (va_Qi (fun r u => md_set F n xh yr xb yb r u ∧ u.1 = th) (md_B dC dI A o a1 a2 a3 a4 a5 c1 c2 c3 c4 c5) A) ([.ref o, .int (nI (fr)), .int (nI (bk))]).toArray s 0 0 A) (F0 m 120 ls []) := by
                  intro k_
                  induction k_ with
                  | zero => intro k z H locs ls h_; omega
                  | succ k_ ih_120 =>
                    intro k z H locs ls hm_ hk hz1 hz2 hP hD hS hl
                    refine lv_iload hx hb d_M_settle_120 (lv_at hl 3 rfl) ?_
                    refine lv_iload hx hb d_M_settle_122 (lv_at hl 2 rfl) ?_
                    refine pq_icmp_ge (tgt := 163) (a := k) (b := hy) hx hb d_M_settle_124 (by decide) (by omega) (by omega) (fun c_124 => ?_) (fun c_124 => ?_)
                    · refine lv_iconst (v := nI 0) hx hb d_M_settle_163 (by decide) ?_
                      refine lv_istore (lv' := [(5, .int (nI (0))), (0, .ref o), (3, .int (nI (p0))), (4, .int (nI (hy)))]) hx hb d_M_settle_164 hl (by decide) rfl (fun ls hl => ?_)
                      have B_166 : ∀ (k_ : Nat) (k2 : Nat) (yz : Nat → Int64) (H : Heap) (locs : List Loc) (ls : Array Slot), (p0 - k2) < k_ → (k2 ≤ p0) → (yz n = lN (pw_b F hy k2)) → (∀ i, i < n → yz i = yb i) → (va_P (dC, dI) vwCl [(o, .inr (ciM, [.int (th), .int (nI (n)), .ref a1, .ref a2, .ref a3, .ref a4, .ref a5, .int (mo), .int (le)])), (a1, .inl (c1, 40, .inl (upd xh n (nI (hy))))), (a2, .inl (c2, 40, .inl (upd yr n (nI (p0))))), (a3, .inl (c3, 40, .inr (.inl z))), (a4, .inl (c4, 40, .inr (.inl yz))), (a5, .inl (c5, 7400, .inl bs))] H) → (va_D A [(o, .inr (ciM, [.int (th), .int (nI (n)), .ref a1, .ref a2, .ref a3, .ref a4, .ref a5, .int (mo), .int (le)])), (a1, .inl (c1, 40, .inl (upd xh n (nI (hy))))), (a2, .inl (c2, 40, .inl (upd yr n (nI (p0))))), (a3, .inl (c3, 40, .inr (.inl z))), (a4, .inl (c4, 40, .inr (.inl yz))), (a5, .inl (c5, 7400, .inl bs))]) → (va_S A s.heap H locs) → lv_has ls 6 [(0, .ref o), (3, .int (nI (p0))), (4, .int (nI (hy))), (5, .int (nI (k2)))] → W p l e (headSpec ws_M_settle ({ frames := 1, cells := 0, slots := 0, locals := 24 } : Room)).room s m ([.ref o, .int (nI (fr)), .int (nI (bk))]).toArray below meth c H locs 0 0 (MQ below (va_Qi (fun r u => md_set F n xh yr xb yb r u ∧ u.1 = th) (md_B dC dI A o a1 a2 a3 a4 a5 c1 c2 c3 c4 c5) A) ([.ref o, .int (nI (fr)), .int (nI (bk))]).toArray s 0 0 A) (F0 m 166 ls []) := by
                        intro k_
                        induction k_ with
                        | zero => intro k2 yz H locs ls h_; omega
                        | succ k_ ih_166 =>
                          intro k2 yz H locs ls hm_ hk2 hy1 hy2 hP hD hS hl
                          refine lv_iload hx hb d_M_settle_166 (lv_at hl 3 rfl) ?_
                          refine lv_iload_n hx hb d_M_settle_168 rfl (lv_at hl 1 rfl) ?_
                          refine pq_icmp_ge (tgt := 211) (a := k2) (b := p0) hx hb d_M_settle_169 (by decide) (by omega) (by omega) (fun c_169 => ?_) (fun c_169 => ?_)
                          · refine lv_aload_n hx hb d_M_settle_211 rfl (lv_at hl 0 rfl) ?_
                            refine lv_dup hx hb d_M_settle_212 rfl ?_
                            refine va_get (D := (dC, dI)) (ci := ciM) (v := .int (nI (n))) (C := R_M) (T := F_M) (N := 9) hx hb hts (fun w h => List.mem_cons_of_mem _ (in_M w h)) hown hK hP 0 rfl rfl 1 (by decide) (hts (.fieldLink R_M 31 "PeriodWordsModel" "words" "I") (List.mem_cons_of_mem _ mb_384)) (fun _ h9 => h9) rfl d_M_settle_213 ?_
                            refine lv_iconst (v := nI 1) hx hb d_M_settle_216 (by decide) ?_
                            refine pq_iadd (a := n) (b := 1) hx hb d_M_settle_217 ?_
                            refine va_put (D := (dC, dI)) (ci := ciM) (v := .int (nI (n + 1))) (ty := .int) (C := R_M) (T := F_M) (N := 9) hx hb hts (fun w h => List.mem_cons_of_mem _ (in_M w h)) t_M t_M_ok n_M hown hK hP hD hS 0 rfl rfl 1 (by decide) (hts (.fieldLink R_M 31 "PeriodWordsModel" "words" "I") (List.mem_cons_of_mem _ mb_384)) (fun _ h9 => h9) rfl (by decide +kernel) rfl rfl (Nat.le_of_ble_eq_true rfl) d_M_settle_218 (fun H locs hP hD hS => ?_)
                            have hP : va_P (dC, dI) vwCl [(o, .inr (ciM, [.int (th), .int (nI (n + 1)), .ref a1, .ref a2, .ref a3, .ref a4, .ref a5, .int (mo), .int (le)])), (a1, .inl (c1, 40, .inl (upd xh n (nI (hy))))), (a2, .inl (c2, 40, .inl (upd yr n (nI (p0))))), (a3, .inl (c3, 40, .inr (.inl z))), (a4, .inl (c4, 40, .inr (.inl yz))), (a5, .inl (c5, 7400, .inl bs))] H := hP
                            have hD : va_D A [(o, .inr (ciM, [.int (th), .int (nI (n + 1)), .ref a1, .ref a2, .ref a3, .ref a4, .ref a5, .int (mo), .int (le)])), (a1, .inl (c1, 40, .inl (upd xh n (nI (hy))))), (a2, .inl (c2, 40, .inl (upd yr n (nI (p0))))), (a3, .inl (c3, 40, .inr (.inl z))), (a4, .inl (c4, 40, .inr (.inl yz))), (a5, .inl (c5, 7400, .inl bs))] := hD
                            refine lv_aload_n hx hb d_M_settle_221 rfl (lv_at hl 0 rfl) ?_
                            refine va_get (D := (dC, dI)) (ci := ciM) (v := .int (nI (n + 1))) (C := R_M) (T := F_M) (N := 9) hx hb hts (fun w h => List.mem_cons_of_mem _ (in_M w h)) hown hK hP 0 rfl rfl 1 (by decide) (hts (.fieldLink R_M 31 "PeriodWordsModel" "words" "I") (List.mem_cons_of_mem _ mb_384)) (fun _ h9 => h9) rfl d_M_settle_222 ?_
                            refine lv_iconst (v := nI 1) hx hb d_M_settle_225 (by decide) ?_
                            refine pq_isub (a := (n + 1)) (b := 1) hx hb d_M_settle_226 (by omega) ?_
                            exact W.iret (v := (nI ((n + 1) - 1))) hx hb hr (fun t_ ht_ hW_ => ⟨⟨_, (th, n + 1, mo, le, upd xh n (nI (hy)), upd yr n (nI (p0)), z, yz, bs), rfl, ⟨⟨hy, p0, hcan, Or.inl ⟨by omega, by omega, rfl, rfl, ⟨hn, pk_us, pk_us, by rw [show hy = k by omega]; exact hz1, by rw [show p0 = k2 by omega]; exact hy1, ⟨by omega, hp00, by omega, hcan.2.1⟩⟩, fun i hi => ⟨pk_un (by omega), pk_un (by omega), hz2 i hi, hy2 i hi⟩⟩⟩, rfl⟩, by rw [ht_]; exact hP, va_K.moved hW_.alike hK, hD⟩, hS.F ht_⟩) hS.2.2 d_M_settle_227
                          · refine lv_aload_n hx hb d_M_settle_172 rfl (lv_at hl 0 rfl) ?_
                            refine va_get (D := (dC, dI)) (ci := ciM) (v := .ref a4) (C := R_M) (T := F_M) (N := 9) hx hb hts (fun w h => List.mem_cons_of_mem _ (in_M w h)) hown hK hP 0 rfl rfl 5 (by decide) (hts (.fieldLink R_M 20 "PeriodWordsModel" "ringBits" "[J") (List.mem_cons_of_mem _ mb_388)) (fun _ h9 => h9) rfl d_M_settle_173 ?_
                            refine lv_aload_n hx hb d_M_settle_176 rfl (lv_at hl 0 rfl) ?_
                            refine va_get (D := (dC, dI)) (ci := ciM) (v := .int (nI (n))) (C := R_M) (T := F_M) (N := 9) hx hb hts (fun w h => List.mem_cons_of_mem _ (in_M w h)) hown hK hP 0 rfl rfl 1 (by decide) (hts (.fieldLink R_M 31 "PeriodWordsModel" "words" "I") (List.mem_cons_of_mem _ mb_384)) (fun _ h9 => h9) rfl d_M_settle_177 ?_
                            refine lv_dup2_11 hx hb d_M_settle_180 rfl rfl ?_
                            refine va_lald hx hb hK hP 4 3 rfl rfl (vp_in_nI (n := n) (by omega) (by omega)) d_M_settle_181 ?_
                            refine pq_top (y := .long (yz n)) (by rw [pq_cl (by omega)]) ?_
                            refine lv_aload_n hx hb d_M_settle_182 rfl (lv_at hl 0 rfl) ?_
                            refine va_get (D := (dC, dI)) (ci := ciM) (v := .ref a5) (C := R_M) (T := F_M) (N := 9) hx hb hts (fun w h => List.mem_cons_of_mem _ (in_M w h)) hown hK hP 0 rfl rfl 6 (by decide) (hts (.fieldLink R_M 23 "PeriodWordsModel" "bits" "[Z") (List.mem_cons_of_mem _ mb_389)) (fun _ h9 => h9) rfl d_M_settle_183 ?_
                            refine lv_iload hx hb d_M_settle_186 (lv_at hl 2 rfl) ?_
                            refine lv_iload hx hb d_M_settle_188 (lv_at hl 3 rfl) ?_
                            refine pq_iadd (a := hy) (b := k2) hx hb d_M_settle_190 ?_
                            refine va_zald hx hb hK hP 5 4 rfl rfl (vp_in_nI (n := (hy + k2)) (by omega) (by omega)) d_M_settle_191 ?_
                            refine pq_top (y := .int (bs (hy + k2))) (by rw [pq_cl (by omega)]) ?_
                            refine pq_top (y := .int (nI ((F (hy + k2)).toNat))) (by rw [hbs _ (by omega)]) ?_
                            refine pq_if_eq (tgt := 202) (a := ((F (hy + k2)).toNat)) hx hb d_M_settle_192 (by decide) (by have := pw_lt2 (F (hy + k2)); omega) (fun c_192 => ?_) (fun c_192 => ?_)
                            · refine lv_lconst (v := lN 0) hx hb d_M_settle_202 (by decide) ?_
                              refine lv_lor hx hb d_M_settle_203 ?_
                              refine pq_top (y := .long (lN (pw_b F hy (k2 + 1)))) (by rw [md_bit (x := 0) (show k2 < 60 by omega) hy1 (by rw [c_192, Nat.zero_mul])]) ?_
                              refine va_last hx hb hK hP hD hS 4 3 rfl rfl (vp_in_nI (n := n) (by omega) (by omega)) d_M_settle_204 (fun H locs hP hD hS => ?_)
                              rw [pq_cl (by omega)] at hP hD
                              have hP : va_P (dC, dI) vwCl [(o, .inr (ciM, [.int (th), .int (nI (n)), .ref a1, .ref a2, .ref a3, .ref a4, .ref a5, .int (mo), .int (le)])), (a1, .inl (c1, 40, .inl (upd xh n (nI (hy))))), (a2, .inl (c2, 40, .inl (upd yr n (nI (p0))))), (a3, .inl (c3, 40, .inr (.inl z))), (a4, .inl (c4, 40, .inr (.inl (vp_updL yz n (lN (pw_b F hy (k2 + 1))))))), (a5, .inl (c5, 7400, .inl bs))] H := hP
                              have hD : va_D A [(o, .inr (ciM, [.int (th), .int (nI (n)), .ref a1, .ref a2, .ref a3, .ref a4, .ref a5, .int (mo), .int (le)])), (a1, .inl (c1, 40, .inl (upd xh n (nI (hy))))), (a2, .inl (c2, 40, .inl (upd yr n (nI (p0))))), (a3, .inl (c3, 40, .inr (.inl z))), (a4, .inl (c4, 40, .inr (.inl (vp_updL yz n (lN (pw_b F hy (k2 + 1))))))), (a5, .inl (c5, 7400, .inl bs))] := hD
                              refine lv_iinc (v := nI (k2 + 1)) (lv' := [(5, .int (nI (k2 + 1))), (0, .ref o), (3, .int (nI (p0))), (4, .int (nI (hy)))]) hx hb d_M_settle_205 hl (k := 3) rfl (pq_inc _) (by decide) rfl (fun ls hl => ?_)
                              refine lv_goto (tgt := 166) hx hb d_M_settle_208 (by decide) ?_
                              exact ih_166 (k2 + 1) (vp_updL yz n (lN (pw_b F hy (k2 + 1)))) _ _ ls (by omega) (by omega) pk_uLs (fun i hi => (pk_uLn (by omega)).trans (hy2 i hi)) hP hD hS (lv_sub hl [1, 2, 3, 0] rfl)
                            · refine lv_lconst (v := lN 1) hx hb d_M_settle_195 (by decide) ?_
                              refine lv_iload hx hb d_M_settle_196 (lv_at hl 3 rfl) ?_
                              refine lv_lshl hx hb d_M_settle_198 rfl ?_
                              refine lv_topl (fun y_1 ey_1 => ?_)
                              refine pq_top (y := .long (lN (2 ^ k2))) (by rw [ey_1, pq_lshl 1 (show k2 < 64 by omega), Nat.one_mul]) ?_
                              refine lv_goto (tgt := 203) hx hb d_M_settle_199 (by decide) ?_
                              refine lv_lor hx hb d_M_settle_203 ?_
                              refine pq_top (y := .long (lN (pw_b F hy (k2 + 1)))) (by rw [md_bit (x := 2 ^ k2) (show k2 < 60 by omega) hy1 (by rw [show (F (hy + k2)).toNat = 1 by have := pw_lt2 (F (hy + k2)); omega, Nat.one_mul])]) ?_
                              refine va_last hx hb hK hP hD hS 4 3 rfl rfl (vp_in_nI (n := n) (by omega) (by omega)) d_M_settle_204 (fun H locs hP hD hS => ?_)
                              rw [pq_cl (by omega)] at hP hD
                              have hP : va_P (dC, dI) vwCl [(o, .inr (ciM, [.int (th), .int (nI (n)), .ref a1, .ref a2, .ref a3, .ref a4, .ref a5, .int (mo), .int (le)])), (a1, .inl (c1, 40, .inl (upd xh n (nI (hy))))), (a2, .inl (c2, 40, .inl (upd yr n (nI (p0))))), (a3, .inl (c3, 40, .inr (.inl z))), (a4, .inl (c4, 40, .inr (.inl (vp_updL yz n (lN (pw_b F hy (k2 + 1))))))), (a5, .inl (c5, 7400, .inl bs))] H := hP
                              have hD : va_D A [(o, .inr (ciM, [.int (th), .int (nI (n)), .ref a1, .ref a2, .ref a3, .ref a4, .ref a5, .int (mo), .int (le)])), (a1, .inl (c1, 40, .inl (upd xh n (nI (hy))))), (a2, .inl (c2, 40, .inl (upd yr n (nI (p0))))), (a3, .inl (c3, 40, .inr (.inl z))), (a4, .inl (c4, 40, .inr (.inl (vp_updL yz n (lN (pw_b F hy (k2 + 1))))))), (a5, .inl (c5, 7400, .inl bs))] := hD
                              refine lv_iinc (v := nI (k2 + 1)) (lv' := [(5, .int (nI (k2 + 1))), (0, .ref o), (3, .int (nI (p0))), (4, .int (nI (hy)))]) hx hb d_M_settle_205 hl (k := 3) rfl (pq_inc _) (by decide) rfl (fun ls hl => ?_)
                              refine lv_goto (tgt := 166) hx hb d_M_settle_208 (by decide) ?_
                              exact ih_166 (k2 + 1) (vp_updL yz n (lN (pw_b F hy (k2 + 1)))) _ _ ls (by omega) (by omega) pk_uLs (fun i hi => (pk_uLn (by omega)).trans (hy2 i hi)) hP hD hS (lv_sub hl [1, 2, 3, 0] rfl)
                      exact B_166 _ (0) (vp_updL yb n (lN (0))) _ _ ls (Nat.lt_succ_self _) (by omega) pk_uLs (fun i hi => pk_uLn (by omega)) hP hD hS (lv_sub hl [1, 2, 3, 0] rfl)
                    · refine lv_aload_n hx hb d_M_settle_127 rfl (lv_at hl 0 rfl) ?_
                      refine va_get (D := (dC, dI)) (ci := ciM) (v := .ref a3) (C := R_M) (T := F_M) (N := 9) hx hb hts (fun w h => List.mem_cons_of_mem _ (in_M w h)) hown hK hP 0 rfl rfl 4 (by decide) (hts (.fieldLink R_M 16 "PeriodWordsModel" "headBits" "[J") (List.mem_cons_of_mem _ mb_387)) (fun _ h9 => h9) rfl d_M_settle_128 ?_
                      refine lv_aload_n hx hb d_M_settle_131 rfl (lv_at hl 0 rfl) ?_
                      refine va_get (D := (dC, dI)) (ci := ciM) (v := .int (nI (n))) (C := R_M) (T := F_M) (N := 9) hx hb hts (fun w h => List.mem_cons_of_mem _ (in_M w h)) hown hK hP 0 rfl rfl 1 (by decide) (hts (.fieldLink R_M 31 "PeriodWordsModel" "words" "I") (List.mem_cons_of_mem _ mb_384)) (fun _ h9 => h9) rfl d_M_settle_132 ?_
                      refine lv_dup2_11 hx hb d_M_settle_135 rfl rfl ?_
                      refine va_lald hx hb hK hP 3 2 rfl rfl (vp_in_nI (n := n) (by omega) (by omega)) d_M_settle_136 ?_
                      refine pq_top (y := .long (z n)) (by rw [pq_cl (by omega)]) ?_
                      refine lv_aload_n hx hb d_M_settle_137 rfl (lv_at hl 0 rfl) ?_
                      refine va_get (D := (dC, dI)) (ci := ciM) (v := .ref a5) (C := R_M) (T := F_M) (N := 9) hx hb hts (fun w h => List.mem_cons_of_mem _ (in_M w h)) hown hK hP 0 rfl rfl 6 (by decide) (hts (.fieldLink R_M 23 "PeriodWordsModel" "bits" "[Z") (List.mem_cons_of_mem _ mb_389)) (fun _ h9 => h9) rfl d_M_settle_138 ?_
                      refine lv_iload hx hb d_M_settle_141 (lv_at hl 3 rfl) ?_
                      refine va_zald hx hb hK hP 5 4 rfl rfl (vp_in_nI (n := k) (by omega) (by omega)) d_M_settle_143 ?_
                      refine pq_top (y := .int (bs k)) (by rw [pq_cl (by omega)]) ?_
                      refine pq_top (y := .int (nI ((F k).toNat))) (by rw [hbs _ (by omega)]) ?_
                      refine pq_if_eq (tgt := 154) (a := ((F k).toNat)) hx hb d_M_settle_144 (by decide) (by have := pw_lt2 (F k); omega) (fun c_144 => ?_) (fun c_144 => ?_)
                      · refine lv_lconst (v := lN 0) hx hb d_M_settle_154 (by decide) ?_
                        refine lv_lor hx hb d_M_settle_155 ?_
                        refine pq_top (y := .long (lN (pw_b F 0 (k + 1)))) (by rw [md_bit (x := 0) (show k < 60 by omega) hz1 (by rw [Nat.zero_add, c_144, Nat.zero_mul])]) ?_
                        refine va_last hx hb hK hP hD hS 3 2 rfl rfl (vp_in_nI (n := n) (by omega) (by omega)) d_M_settle_156 (fun H locs hP hD hS => ?_)
                        rw [pq_cl (by omega)] at hP hD
                        have hP : va_P (dC, dI) vwCl [(o, .inr (ciM, [.int (th), .int (nI (n)), .ref a1, .ref a2, .ref a3, .ref a4, .ref a5, .int (mo), .int (le)])), (a1, .inl (c1, 40, .inl (upd xh n (nI (hy))))), (a2, .inl (c2, 40, .inl (upd yr n (nI (p0))))), (a3, .inl (c3, 40, .inr (.inl (vp_updL z n (lN (pw_b F 0 (k + 1))))))), (a4, .inl (c4, 40, .inr (.inl (vp_updL yb n (lN (0)))))), (a5, .inl (c5, 7400, .inl bs))] H := hP
                        have hD : va_D A [(o, .inr (ciM, [.int (th), .int (nI (n)), .ref a1, .ref a2, .ref a3, .ref a4, .ref a5, .int (mo), .int (le)])), (a1, .inl (c1, 40, .inl (upd xh n (nI (hy))))), (a2, .inl (c2, 40, .inl (upd yr n (nI (p0))))), (a3, .inl (c3, 40, .inr (.inl (vp_updL z n (lN (pw_b F 0 (k + 1))))))), (a4, .inl (c4, 40, .inr (.inl (vp_updL yb n (lN (0)))))), (a5, .inl (c5, 7400, .inl bs))] := hD
                        refine lv_iinc (v := nI (k + 1)) (lv' := [(5, .int (nI (k + 1))), (0, .ref o), (3, .int (nI (p0))), (4, .int (nI (hy)))]) hx hb d_M_settle_157 hl (k := 3) rfl (pq_inc _) (by decide) rfl (fun ls hl => ?_)
                        refine lv_goto (tgt := 120) hx hb d_M_settle_160 (by decide) ?_
                        exact ih_120 (k + 1) (vp_updL z n (lN (pw_b F 0 (k + 1)))) _ _ ls (by omega) (by omega) pk_uLs (fun i hi => (pk_uLn (by omega)).trans (hz2 i hi)) hP hD hS (lv_sub hl [1, 2, 3, 0] rfl)
                      · refine lv_lconst (v := lN 1) hx hb d_M_settle_147 (by decide) ?_
                        refine lv_iload hx hb d_M_settle_148 (lv_at hl 3 rfl) ?_
                        refine lv_lshl hx hb d_M_settle_150 rfl ?_
                        refine lv_topl (fun y_2 ey_2 => ?_)
                        refine pq_top (y := .long (lN (2 ^ k))) (by rw [ey_2, pq_lshl 1 (show k < 64 by omega), Nat.one_mul]) ?_
                        refine lv_goto (tgt := 155) hx hb d_M_settle_151 (by decide) ?_
                        refine lv_lor hx hb d_M_settle_155 ?_
                        refine pq_top (y := .long (lN (pw_b F 0 (k + 1)))) (by rw [md_bit (x := 2 ^ k) (show k < 60 by omega) hz1 (by rw [Nat.zero_add, show (F k).toNat = 1 by have := pw_lt2 (F k); omega, Nat.one_mul])]) ?_
                        refine va_last hx hb hK hP hD hS 3 2 rfl rfl (vp_in_nI (n := n) (by omega) (by omega)) d_M_settle_156 (fun H locs hP hD hS => ?_)
                        rw [pq_cl (by omega)] at hP hD
                        have hP : va_P (dC, dI) vwCl [(o, .inr (ciM, [.int (th), .int (nI (n)), .ref a1, .ref a2, .ref a3, .ref a4, .ref a5, .int (mo), .int (le)])), (a1, .inl (c1, 40, .inl (upd xh n (nI (hy))))), (a2, .inl (c2, 40, .inl (upd yr n (nI (p0))))), (a3, .inl (c3, 40, .inr (.inl (vp_updL z n (lN (pw_b F 0 (k + 1))))))), (a4, .inl (c4, 40, .inr (.inl (vp_updL yb n (lN (0)))))), (a5, .inl (c5, 7400, .inl bs))] H := hP
                        have hD : va_D A [(o, .inr (ciM, [.int (th), .int (nI (n)), .ref a1, .ref a2, .ref a3, .ref a4, .ref a5, .int (mo), .int (le)])), (a1, .inl (c1, 40, .inl (upd xh n (nI (hy))))), (a2, .inl (c2, 40, .inl (upd yr n (nI (p0))))), (a3, .inl (c3, 40, .inr (.inl (vp_updL z n (lN (pw_b F 0 (k + 1))))))), (a4, .inl (c4, 40, .inr (.inl (vp_updL yb n (lN (0)))))), (a5, .inl (c5, 7400, .inl bs))] := hD
                        refine lv_iinc (v := nI (k + 1)) (lv' := [(5, .int (nI (k + 1))), (0, .ref o), (3, .int (nI (p0))), (4, .int (nI (hy)))]) hx hb d_M_settle_157 hl (k := 3) rfl (pq_inc _) (by decide) rfl (fun ls hl => ?_)
                        refine lv_goto (tgt := 120) hx hb d_M_settle_160 (by decide) ?_
                        exact ih_120 (k + 1) (vp_updL z n (lN (pw_b F 0 (k + 1)))) _ _ ls (by omega) (by omega) pk_uLs (fun i hi => (pk_uLn (by omega)).trans (hz2 i hi)) hP hD hS (lv_sub hl [1, 2, 3, 0] rfl)
                exact B_120 _ (0) (vp_updL xb n (lN (0))) _ _ ls (Nat.lt_succ_self _) (by omega) pk_uLs (fun i hi => pk_uLn (by omega)) hP hD hS (lv_sub hl [1, 2, 3, 0] rfl)
              · refine lv_iconst (v := (-1)) hx hb d_M_settle_74 (by decide) ?_
                exact W.iret (v := (-1)) hx hb hr (fun t_ ht_ hW_ => ⟨⟨_, (th, n, mo, le, xh, yr, xb, yb, bs), rfl, ⟨⟨hy, p0, hcan, Or.inr ⟨by omega, rfl, rfl, fun i hi => ⟨rfl, rfl, rfl, rfl⟩⟩⟩, rfl⟩, by rw [ht_]; exact hP, va_K.moved hW_.alike hK, hD⟩, hS.F ht_⟩) hS.2.2 d_M_settle_75
          refine lv_iload_n hx hb d_M_settle_24 rfl (lv_at hl 1 rfl) ?_
          refine lv_istore (lv' := [(4, .int (nI (fr))), (0, .ref o), (1, .int (nI (fr))), (2, .int (nI (bk))), (3, .int (nI (p0)))]) hx hb d_M_settle_25 hl (by decide) rfl (fun ls hl => ?_)
          have B_27 : ∀ (k_ : Nat) (hz : Nat) (H : Heap) (locs : List Loc) (ls : Array Slot), (hz) < k_ → (hz ≤ fr) → (pw_E F hz p0) → (va_P (dC, dI) vwCl [(o, .inr (ciM, [.int (th), .int (nI (n)), .ref a1, .ref a2, .ref a3, .ref a4, .ref a5, .int (mo), .int (le)])), (a1, .inl (c1, 40, .inl xh)), (a2, .inl (c2, 40, .inl yr)), (a3, .inl (c3, 40, .inr (.inl xb))), (a4, .inl (c4, 40, .inr (.inl yb))), (a5, .inl (c5, 7400, .inl bs))] H) → (va_D A [(o, .inr (ciM, [.int (th), .int (nI (n)), .ref a1, .ref a2, .ref a3, .ref a4, .ref a5, .int (mo), .int (le)])), (a1, .inl (c1, 40, .inl xh)), (a2, .inl (c2, 40, .inl yr)), (a3, .inl (c3, 40, .inr (.inl xb))), (a4, .inl (c4, 40, .inr (.inl yb))), (a5, .inl (c5, 7400, .inl bs))]) → (va_S A s.heap H locs) → lv_has ls 6 [(0, .ref o), (3, .int (nI (p0))), (4, .int (nI (hz)))] → W p l e (headSpec ws_M_settle ({ frames := 1, cells := 0, slots := 0, locals := 24 } : Room)).room s m ([.ref o, .int (nI (fr)), .int (nI (bk))]).toArray below meth c H locs 0 0 (MQ below (va_Qi (fun r u => md_set F n xh yr xb yb r u ∧ u.1 = th) (md_B dC dI A o a1 a2 a3 a4 a5 c1 c2 c3 c4 c5) A) ([.ref o, .int (nI (fr)), .int (nI (bk))]).toArray s 0 0 A) (F0 m 27 ls []) := by
            intro k_
            induction k_ with
            | zero => intro hz H locs ls h_; omega
            | succ k_ ih_27 =>
              intro hz H locs ls hm_ hzf hzE hP hD hS hl
              refine lv_iload hx hb d_M_settle_27 (lv_at hl 2 rfl) ?_
              refine pq_if_le (tgt := 61) (a := hz) hx hb d_M_settle_29 (by decide) (by omega) (fun c_29 => ?_) (fun c_29 => ?_)
              · exact B_61 (hz) _ _ ls (by omega) (pw_Can_of hbk hEF hp00 hmin hzE (by first | exact Or.inl c_29 | exact Or.inr (fun z => c_52 (by rw [z])))) hP hD hS (lv_sub hl [0, 1, 2] rfl)
              · refine lv_aload_n hx hb d_M_settle_32 rfl (lv_at hl 0 rfl) ?_
                refine va_get (D := (dC, dI)) (ci := ciM) (v := .ref a5) (C := R_M) (T := F_M) (N := 9) hx hb hts (fun w h => List.mem_cons_of_mem _ (in_M w h)) hown hK hP 0 rfl rfl 6 (by decide) (hts (.fieldLink R_M 23 "PeriodWordsModel" "bits" "[Z") (List.mem_cons_of_mem _ mb_389)) (fun _ h9 => h9) rfl d_M_settle_33 ?_
                refine lv_iload hx hb d_M_settle_36 (lv_at hl 2 rfl) ?_
                refine lv_iconst (v := nI 1) hx hb d_M_settle_38 (by decide) ?_
                refine pq_isub (a := hz) (b := 1) hx hb d_M_settle_39 (by omega) ?_
                refine va_zald hx hb hK hP 5 4 rfl rfl (vp_in_nI (n := (hz - 1)) (by omega) (by omega)) d_M_settle_40 ?_
                refine pq_top (y := .int (bs (hz - 1))) (by rw [pq_cl (by omega)]) ?_
                refine pq_top (y := .int (nI ((F (hz - 1)).toNat))) (by rw [hbs _ (by omega)]) ?_
                refine lv_aload_n hx hb d_M_settle_41 rfl (lv_at hl 0 rfl) ?_
                refine va_get (D := (dC, dI)) (ci := ciM) (v := .ref a5) (C := R_M) (T := F_M) (N := 9) hx hb hts (fun w h => List.mem_cons_of_mem _ (in_M w h)) hown hK hP 0 rfl rfl 6 (by decide) (hts (.fieldLink R_M 23 "PeriodWordsModel" "bits" "[Z") (List.mem_cons_of_mem _ mb_389)) (fun _ h9 => h9) rfl d_M_settle_42 ?_
                refine lv_iload hx hb d_M_settle_45 (lv_at hl 2 rfl) ?_
                refine lv_iconst (v := nI 1) hx hb d_M_settle_47 (by decide) ?_
                refine pq_isub (a := hz) (b := 1) hx hb d_M_settle_48 (by omega) ?_
                refine lv_iload_n hx hb d_M_settle_49 rfl (lv_at hl 1 rfl) ?_
                refine pq_iadd (a := (hz - 1)) (b := p0) hx hb d_M_settle_50 ?_
                refine va_zald hx hb hK hP 5 4 rfl rfl (vp_in_nI (n := ((hz - 1) + p0)) (by omega) (by omega)) d_M_settle_51 ?_
                refine pq_top (y := .int (bs ((hz - 1) + p0))) (by rw [pq_cl (by omega)]) ?_
                refine pq_top (y := .int (nI ((F (hz - 1 + p0)).toNat))) (by rw [hbs _ (by omega)]) ?_
                refine pq_icmp_ne (tgt := 61) (a := ((F (hz - 1)).toNat)) (b := ((F (hz - 1 + p0)).toNat)) hx hb d_M_settle_52 (by decide) (by have := pw_lt2 (F (hz - 1)); omega) (by have := pw_lt2 (F (hz - 1 + p0)); omega) (fun c_52 => ?_) (fun c_52 => ?_)
                · exact B_61 (hz) _ _ ls (by omega) (pw_Can_of hbk hEF hp00 hmin hzE (by first | exact Or.inl c_29 | exact Or.inr (fun z => c_52 (by rw [z])))) hP hD hS (lv_sub hl [0, 1, 2] rfl)
                · refine lv_iinc (v := nI (hz - 1)) (lv' := [(4, .int (nI (hz - 1))), (0, .ref o), (3, .int (nI (p0)))]) hx hb d_M_settle_55 hl (k := 2) rfl (pq_dec _ (by omega)) (by decide) rfl (fun ls hl => ?_)
                  refine lv_goto (tgt := 27) hx hb d_M_settle_58 (by decide) ?_
                  exact ih_27 (hz - 1) _ _ ls (by omega) (by omega) (pw_E_dn hzE c_52) hP hD hS (lv_sub hl [1, 2, 0] rfl)
          exact B_27 _ (fr) _ _ ls (Nat.lt_succ_self _) (Nat.le_refl _) hEp hP hD hS (lv_sub hl [1, 4, 0] rfl)
        · have hnot : ¬ (bk % p0 = 0 ∧ pw_B F fr bk p0) := by first | (intro z; exact absurd z.1 (by omega)) | exact fun z => hr_12.elim (fun y => absurd (y.1.symm.trans c_15) (by decide)) (fun y => y.2 z.2)
          have hltb : p0 < bk := by
            rcases Nat.lt_or_ge p0 bk with z | z
            · exact z
            · exfalso; apply hnot; rw [show p0 = bk by omega]; exact ⟨Nat.mod_self bk, fun k hk => absurd hk (by omega)⟩
          refine lv_iinc (v := nI (p0 + 1)) (lv' := [(3, .int (nI (p0 + 1))), (0, .ref o), (1, .int (nI (fr))), (2, .int (nI (bk)))]) hx hb d_M_settle_18 hl (k := 3) rfl (pq_inc _) (by decide) rfl (fun ls hl => ?_)
          refine lv_goto (tgt := 2) hx hb d_M_settle_21 (by decide) ?_
          exact ih_2 (p0 + 1) _ _ ls (by omega) (by omega) (by omega) (fun q h0 h1 => (Nat.lt_or_ge q p0).elim (fun z => hlow q h0 z) (fun z => (show q = p0 by omega) ▸ hnot)) hP hD hS (lv_sub hl [1, 2, 3, 0] rfl)
  exact B_2 _ (1) _ _ ls (Nat.lt_succ_self _) (by omega) (by omega) (fun q h0 h1 => absurd h1 (by omega)) hP hD hS (lv_sub hl [1, 2, 3, 0] rfl)
set_option maxHeartbeats 4000000 in
set_option maxRecDepth 100000 in
theorem c_M_joined (l : Launch) (dC : Nat → ClassId) (dI : Nat → Nat → Nat) {sz : Nat} {o a1 a2 a3 a4 a5 : Nat} {c1 c2 c3 c4 c5 : ClassId} {th mo le : Int32} {n : Nat} {xh yr : Nat → Int32} {xb yb : Nat → Int64} {bs : Nat → Int32} {i h pp : Nat} {f : Nat → Bool} (hmd : md_at xh yr xb yb i h pp f) {i2 h2 pp2 : Nat} {f2 : Nat → Bool} (hmd2 : md_at xh yr xb yb i2 h2 pp2 f2) {how d : Nat} (hhow : how < 3) (hn : n < 40) : Met l y_M_joined ws_M_joined ({ frames := 2, cells := 0, slots := 0, locals := 49 } : Room) (md_Pre [.ref o, .int (nI (how)), .int (nI (i)), .int (nI (i2))] dC dI sz (mdT c1 c2 c3 c4 c5) (md o a1 a2 a3 a4 a5 c1 c2 c3 c4 c5 th n mo le xh yr xb yb bs)) (va_Qi (fun r u => md_set (pw_mk how f f2 d) n xh yr xb yb r u ∧ u.1 = th) (md_B dC dI (va_A (md o a1 a2 a3 a4 a5 c1 c2 c3 c4 c5 th n mo le xh yr xb yb bs) sz) o a1 a2 a3 a4 a5 c1 c2 c3 c4 c5) (va_A (md o a1 a2 a3 a4 a5 c1 c2 c3 c4 c5 th n mo le xh yr xb yb bs) sz)) 0 0 (va_A (md o a1 a2 a3 a4 a5 c1 c2 c3 c4 c5 th n mo le xh yr xb yb bs) sz) := by
  refine Met.ofW (cc := b_M_joined) (maxL := 7) (ret := (some .int)) (by decide) rfl ?_
  intro p e s m args below meth c s₁ B hml hv
  obtain ⟨rfl, hsz, hP, hK, hD0⟩ := hv
  have hx := B.exec
  have hb := B.bytes
  have hr := B.returns
  have hts := atoms_spec (ws := ws_M_joined) B.pre
  have hown : s.vm.findClass R_M = some m.cls := findClass_of_methodNamed B.named
  have hlocks := B.notSynchronized
  subst hsz
  have hD := hD0.self (sz := s.heap.size)
  generalize hAe : va_A (md o a1 a2 a3 a4 a5 c1 c2 c3 c4 c5 th n mo le xh yr xb yb bs) s.heap.size = A at hD ⊢
  have hA : ∀ q : Nat, s.heap.size ≤ q → A q := fun q h => by rw [← hAe]; exact Or.inr h
  have hS : va_S A s.heap s.heap [] := va_S.rf
  have hmd_ := hmd; obtain ⟨hi, e1, e2, e3, e4, hok⟩ := hmd_; have hok_ := hok; obtain ⟨hh, hp0, hp6, hE⟩ := hok_
  have ho := pw_o_le f h pp
  have hc := pw_c_le f h
  have hb0 := pq_lt60 (pw_b_lt f 0 h) hh
  have hb1 := pq_lt60 (pw_b_lt f h pp) hp6
  have hmd2_ := hmd2; obtain ⟨hi2, e12, e22, e32, e42, hok2⟩ := hmd2_; have hok2_ := hok2; obtain ⟨hh2, hp02, hp62, hE2⟩ := hok2_
  have ho2 := pw_o_le f2 h2 pp2
  have hc2 := pw_c_le f2 h2
  have hb02 := pq_lt60 (pw_b_lt f2 0 h2) hh2
  have hb12 := pq_lt60 (pw_b_lt f2 h2 pp2) hp62
  have mm : pp * pp2 ≤ 60 * 60 := Nat.mul_le_mul hp6 hp62
  have hl := lv_entry ([.ref o, .int (nI (how)), .int (nI (i)), .int (nI (i2))]) (n := 7) (Nat.le_of_ble_eq_true rfl)
  rw [lg_entry_eq]
  generalize (lg_sl ([.ref o, .int (nI (how)), .int (nI (i)), .int (nI (i2))]) ++ List.replicate (7 - (lg_sl ([.ref o, .int (nI (how)), .int (nI (i)), .int (nI (i2))])).length) Slot.unset).toArray = ls at hl ⊢
  have hl : lv_has ls 7 [(0, .ref o), (1, .int (nI (how))), (2, .int (nI (i))), (3, .int (nI (i2)))] := hl
  refine lv_aload_n hx hb d_M_joined_0 rfl (lv_at hl 0 rfl) ?_
  refine va_get (D := (dC, dI)) (ci := ciM) (v := .ref a1) (C := R_M) (T := F_M) (N := 9) hx hb hts (fun w h => List.mem_cons_of_mem _ (in_M w h)) hown hK hP 0 rfl rfl 2 (by decide) (hts (.fieldLink R_M 7 "PeriodWordsModel" "head" "[I") (List.mem_cons_of_mem _ mb_385)) (fun _ h9 => h9) rfl d_M_joined_1 ?_
  refine lv_iload_n hx hb d_M_joined_4 rfl (lv_at hl 2 rfl) ?_
  refine va_iald hx hb hK hP 1 0 rfl rfl (vp_in_nI (n := i) (by omega) (by omega)) d_M_joined_5 ?_
  refine pq_top (y := .int (xh i)) (by rw [pq_cl (by omega)]) ?_
  refine pq_top (y := .int (nI (h))) (by rw [e1]) ?_
  refine lv_aload_n hx hb d_M_joined_6 rfl (lv_at hl 0 rfl) ?_
  refine va_get (D := (dC, dI)) (ci := ciM) (v := .ref a1) (C := R_M) (T := F_M) (N := 9) hx hb hts (fun w h => List.mem_cons_of_mem _ (in_M w h)) hown hK hP 0 rfl rfl 2 (by decide) (hts (.fieldLink R_M 7 "PeriodWordsModel" "head" "[I") (List.mem_cons_of_mem _ mb_385)) (fun _ h9 => h9) rfl d_M_joined_7 ?_
  refine lv_iload_n hx hb d_M_joined_10 rfl (lv_at hl 3 rfl) ?_
  refine va_iald hx hb hK hP 1 0 rfl rfl (vp_in_nI (n := i2) (by omega) (by omega)) d_M_joined_11 ?_
  refine pq_top (y := .int (xh i2)) (by rw [pq_cl (by omega)]) ?_
  refine pq_top (y := .int (nI (h2))) (by rw [e12]) ?_
  refine vp_callSi (W.runS (As := [.int (nI (h)), .int (nI (h2))]) (rest := []) ⟨hx, hb, hml, hown, hts⟩ (c_M_greater l dC dI (x := h) (y := h2) (by omega) (by omega)) (va_cwS 2 hts (gd_S mb_467 mb_468 mb_23 mb_469) rfl rfl rfl (by decide +kernel) ⟨Nat.le_of_ble_eq_true rfl, Nat.le_of_ble_eq_true rfl⟩) (pw_R_S pw_P0 (hK.sub [] rfl)) rfl rfl hl.1 rfl (lv_room (Nat.le_of_ble_eq_true rfl)) d_M_joined_12 ⟨Nat.le_of_ble_eq_true rfl, Nat.le_of_ble_eq_true rfl⟩) (fun r_12 hr_12 => ?_)
  subst hr_12
  refine lv_istore (lv' := [(4, .int (nI (max h h2))), (0, .ref o), (1, .int (nI (how))), (2, .int (nI (i))), (3, .int (nI (i2)))]) hx hb d_M_joined_15 hl (by decide) rfl (fun ls hl => ?_)
  refine lv_aload_n hx hb d_M_joined_17 rfl (lv_at hl 1 rfl) ?_
  refine va_get (D := (dC, dI)) (ci := ciM) (v := .ref a2) (C := R_M) (T := F_M) (N := 9) hx hb hts (fun w h => List.mem_cons_of_mem _ (in_M w h)) hown hK hP 0 rfl rfl 3 (by decide) (hts (.fieldLink R_M 13 "PeriodWordsModel" "ring" "[I") (List.mem_cons_of_mem _ mb_386)) (fun _ h9 => h9) rfl d_M_joined_18 ?_
  refine lv_iload_n hx hb d_M_joined_21 rfl (lv_at hl 3 rfl) ?_
  refine va_iald hx hb hK hP 2 1 rfl rfl (vp_in_nI (n := i) (by omega) (by omega)) d_M_joined_22 ?_
  refine pq_top (y := .int (yr i)) (by rw [pq_cl (by omega)]) ?_
  refine pq_top (y := .int (nI (pp))) (by rw [e2]) ?_
  refine lv_aload_n hx hb d_M_joined_23 rfl (lv_at hl 1 rfl) ?_
  refine va_get (D := (dC, dI)) (ci := ciM) (v := .ref a2) (C := R_M) (T := F_M) (N := 9) hx hb hts (fun w h => List.mem_cons_of_mem _ (in_M w h)) hown hK hP 0 rfl rfl 3 (by decide) (hts (.fieldLink R_M 13 "PeriodWordsModel" "ring" "[I") (List.mem_cons_of_mem _ mb_386)) (fun _ h9 => h9) rfl d_M_joined_24 ?_
  refine lv_iload_n hx hb d_M_joined_27 rfl (lv_at hl 4 rfl) ?_
  refine va_iald hx hb hK hP 2 1 rfl rfl (vp_in_nI (n := i2) (by omega) (by omega)) d_M_joined_28 ?_
  refine pq_top (y := .int (yr i2)) (by rw [pq_cl (by omega)]) ?_
  refine pq_top (y := .int (nI (pp2))) (by rw [e22]) ?_
  refine pq_imul (a := pp) (b := pp2) hx hb d_M_joined_29 ?_
  refine lv_istore (lv' := [(5, .int (nI (pp * pp2))), (4, .int (nI (max h h2))), (0, .ref o), (1, .int (nI (how))), (2, .int (nI (i))), (3, .int (nI (i2)))]) hx hb d_M_joined_30 hl (by decide) rfl (fun ls hl => ?_)
  refine lv_iconst (v := nI 0) hx hb d_M_joined_32 (by decide) ?_
  refine lv_istore (lv' := [(6, .int (nI (0))), (5, .int (nI (pp * pp2))), (4, .int (nI (max h h2))), (0, .ref o), (1, .int (nI (how))), (2, .int (nI (i))), (3, .int (nI (i2)))]) hx hb d_M_joined_33 hl (by decide) rfl (fun ls hl => ?_)
  have B_35 : ∀ (k_ : Nat) (t : Nat) (bz : Nat → Int32) (H : Heap) (locs : List Loc) (ls : Array Slot), (max h h2 + pp * pp2 - t) < k_ → (t ≤ max h h2 + pp * pp2) → (∀ j, j < t → bz j = nI (pw_mk how f f2 d j).toNat) → (va_P (dC, dI) vwCl [(o, .inr (ciM, [.int (th), .int (nI (n)), .ref a1, .ref a2, .ref a3, .ref a4, .ref a5, .int (mo), .int (le)])), (a1, .inl (c1, 40, .inl xh)), (a2, .inl (c2, 40, .inl yr)), (a3, .inl (c3, 40, .inr (.inl xb))), (a4, .inl (c4, 40, .inr (.inl yb))), (a5, .inl (c5, 7400, .inl bz))] H) → (va_D A [(o, .inr (ciM, [.int (th), .int (nI (n)), .ref a1, .ref a2, .ref a3, .ref a4, .ref a5, .int (mo), .int (le)])), (a1, .inl (c1, 40, .inl xh)), (a2, .inl (c2, 40, .inl yr)), (a3, .inl (c3, 40, .inr (.inl xb))), (a4, .inl (c4, 40, .inr (.inl yb))), (a5, .inl (c5, 7400, .inl bz))]) → (va_S A s.heap H locs) → lv_has ls 7 [(0, .ref o), (1, .int (nI (how))), (2, .int (nI (i))), (3, .int (nI (i2))), (4, .int (nI (max h h2))), (5, .int (nI (pp * pp2))), (6, .int (nI (t)))] → W p l e (headSpec ws_M_joined ({ frames := 2, cells := 0, slots := 0, locals := 49 } : Room)).room s m ([.ref o, .int (nI (how)), .int (nI (i)), .int (nI (i2))]).toArray below meth c H locs 0 0 (MQ below (va_Qi (fun r u => md_set (pw_mk how f f2 d) n xh yr xb yb r u ∧ u.1 = th) (md_B dC dI A o a1 a2 a3 a4 a5 c1 c2 c3 c4 c5) A) ([.ref o, .int (nI (how)), .int (nI (i)), .int (nI (i2))]).toArray s 0 0 A) (F0 m 35 ls []) := by
    intro k_
    induction k_ with
    | zero => intro t bz H locs ls h_; omega
    | succ k_ ih_35 =>
      intro t bz H locs ls hm_ ht hbz hP hD hS hl
      refine lv_iload hx hb d_M_joined_35 (lv_at hl 6 rfl) ?_
      refine lv_iload hx hb d_M_joined_37 (lv_at hl 4 rfl) ?_
      refine lv_iload hx hb d_M_joined_39 (lv_at hl 5 rfl) ?_
      refine pq_iadd (a := (max h h2)) (b := (pp * pp2)) hx hb d_M_joined_41 ?_
      refine pq_icmp_ge (tgt := 145) (a := t) (b := ((max h h2) + (pp * pp2))) hx hb d_M_joined_42 (by decide) (by omega) (by omega) (fun c_42 => ?_) (fun c_42 => ?_)
      · refine lv_aload_n hx hb d_M_joined_145 rfl (lv_at hl 0 rfl) ?_
        refine lv_iload hx hb d_M_joined_146 (lv_at hl 4 rfl) ?_
        refine lv_iload hx hb d_M_joined_148 (lv_at hl 5 rfl) ?_
        have hFc := va_free (wc := [(o, .inr (ciM, [.int (th), .int (nI (n)), .ref a1, .ref a2, .ref a3, .ref a4, .ref a5, .int (mo), .int (le)])), (a1, .inl (c1, 40, .inl xh)), (a2, .inl (c2, 40, .inl yr)), (a3, .inl (c3, 40, .inr (.inl xb))), (a4, .inl (c4, 40, .inr (.inl yb))), (a5, .inl (c5, 7400, .inl bz))]) hD hS hA [0, 1, 2, 3, 4, 5] rfl
        refine va_calli (va_runV (As := [.int (nI (max h h2)), .int (nI (pp * pp2))]) (rest := []) ⟨hx, hb, hml, hown, hts⟩ (c_M_settle l dC dI (F := pw_mk how f f2 d) (fun j hj => hbz j (by omega)) (by omega) (Nat.mul_pos hp0 hp02) (pw_E_join hhow hE hE2) hn) (cwV 2 hts (gd_V mb_424 mb_426 mb_3 mb_23 mb_427) rfl rfl rfl (by decide +kernel) ⟨Nat.le_of_ble_eq_true rfl, Nat.le_of_ble_eq_true rfl⟩) ⟨md_blind, va_recv hK hP (ci := ciM) (q0 := 0) rfl rfl, fun U hU hW => ⟨rfl, by rw [hU], by rw [hU]; exact hP, va_K.moved hW.alike hK, hD.weaken (fun _ _ _ _ => trivial)⟩⟩ rfl rfl hl.1 rfl (lv_room (Nat.le_of_ble_eq_true rfl)) d_M_joined_150 ⟨Nat.le_of_ble_eq_true rfl, Nat.le_of_ble_eq_true rfl⟩) hS (fun q _ h => hFc q h) hFc (fun r_150 u_150 t_ H1 locs ht_ hvm_ hr_150 hB_ hz1_ hk1_ hS => ?_)
        obtain ⟨hP1_, hK1_, hD1_⟩ := hB_
        rw [ht_] at hP1_
        clear hP hD
        have hP := hP1_
        have hD := hD1_.weaken (fun k q _ h => hFc q.1 h)
        generalize H1 = H at hP hS ⊢
        have hP : va_P (dC, dI) vwCl [(o, .inr (ciM, [.int (u_150.1), .int (nI (u_150.2.1)), .ref a1, .ref a2, .ref a3, .ref a4, .ref a5, .int (u_150.2.2.1), .int (u_150.2.2.2.1)])), (a1, .inl (c1, 40, .inl u_150.2.2.2.2.1)), (a2, .inl (c2, 40, .inl u_150.2.2.2.2.2.1)), (a3, .inl (c3, 40, .inr (.inl u_150.2.2.2.2.2.2.1))), (a4, .inl (c4, 40, .inr (.inl u_150.2.2.2.2.2.2.2.1))), (a5, .inl (c5, 7400, .inl u_150.2.2.2.2.2.2.2.2))] H := hP
        have hD : va_D A [(o, .inr (ciM, [.int (u_150.1), .int (nI (u_150.2.1)), .ref a1, .ref a2, .ref a3, .ref a4, .ref a5, .int (u_150.2.2.1), .int (u_150.2.2.2.1)])), (a1, .inl (c1, 40, .inl u_150.2.2.2.2.1)), (a2, .inl (c2, 40, .inl u_150.2.2.2.2.2.1)), (a3, .inl (c3, 40, .inr (.inl u_150.2.2.2.2.2.2.1))), (a4, .inl (c4, 40, .inr (.inl u_150.2.2.2.2.2.2.2.1))), (a5, .inl (c5, 7400, .inl u_150.2.2.2.2.2.2.2.2))] := hD
        exact W.iret (v := (r_150)) hx hb hr (fun t_ ht_ hW_ => ⟨⟨_, u_150, rfl, hr_150, by rw [ht_]; exact hP, va_K.moved hW_.alike hK, hD⟩, hS.F ht_⟩) hS.2.2 d_M_joined_153
      · have B_138 : ∀ (x : Nat) (H : Heap) (locs : List Loc) (ls : Array Slot), (x = (pw_mk how f f2 d t).toNat) → (va_P (dC, dI) vwCl [(o, .inr (ciM, [.int (th), .int (nI (n)), .ref a1, .ref a2, .ref a3, .ref a4, .ref a5, .int (mo), .int (le)])), (a1, .inl (c1, 40, .inl xh)), (a2, .inl (c2, 40, .inl yr)), (a3, .inl (c3, 40, .inr (.inl xb))), (a4, .inl (c4, 40, .inr (.inl yb))), (a5, .inl (c5, 7400, .inl bz))] H) → (va_D A [(o, .inr (ciM, [.int (th), .int (nI (n)), .ref a1, .ref a2, .ref a3, .ref a4, .ref a5, .int (mo), .int (le)])), (a1, .inl (c1, 40, .inl xh)), (a2, .inl (c2, 40, .inl yr)), (a3, .inl (c3, 40, .inr (.inl xb))), (a4, .inl (c4, 40, .inr (.inl yb))), (a5, .inl (c5, 7400, .inl bz))]) → (va_S A s.heap H locs) → lv_has ls 7 [(0, .ref o), (1, .int (nI (how))), (2, .int (nI (i))), (3, .int (nI (i2))), (4, .int (nI (max h h2))), (5, .int (nI (pp * pp2))), (6, .int (nI (t)))] → W p l e (headSpec ws_M_joined ({ frames := 2, cells := 0, slots := 0, locals := 49 } : Room)).room s m ([.ref o, .int (nI (how)), .int (nI (i)), .int (nI (i2))]).toArray below meth c H locs 0 0 (MQ below (va_Qi (fun r u => md_set (pw_mk how f f2 d) n xh yr xb yb r u ∧ u.1 = th) (md_B dC dI A o a1 a2 a3 a4 a5 c1 c2 c3 c4 c5) A) ([.ref o, .int (nI (how)), .int (nI (i)), .int (nI (i2))]).toArray s 0 0 A) (F0 m 138 ls [.int (nI (x)), .int (nI (t)), .ref a5]) := by
          intro x H locs ls hx2 hP hD hS hl
          refine va_zast hx hb hK hP hD hS 5 4 rfl rfl (vp_in_nI (n := t) (by omega) (by omega)) d_M_joined_138 (fun H locs hP hD hS => ?_)
          rw [pq_cl (by omega)] at hP hD
          have hP : va_P (dC, dI) vwCl [(o, .inr (ciM, [.int (th), .int (nI (n)), .ref a1, .ref a2, .ref a3, .ref a4, .ref a5, .int (mo), .int (le)])), (a1, .inl (c1, 40, .inl xh)), (a2, .inl (c2, 40, .inl yr)), (a3, .inl (c3, 40, .inr (.inl xb))), (a4, .inl (c4, 40, .inr (.inl yb))), (a5, .inl (c5, 7400, .inl (upd bz t (vp_nar .boolean (nI (x))))))] H := hP
          have hD : va_D A [(o, .inr (ciM, [.int (th), .int (nI (n)), .ref a1, .ref a2, .ref a3, .ref a4, .ref a5, .int (mo), .int (le)])), (a1, .inl (c1, 40, .inl xh)), (a2, .inl (c2, 40, .inl yr)), (a3, .inl (c3, 40, .inr (.inl xb))), (a4, .inl (c4, 40, .inr (.inl yb))), (a5, .inl (c5, 7400, .inl (upd bz t (vp_nar .boolean (nI (x))))))] := hD
          refine lv_iinc (v := nI (t + 1)) (lv' := [(6, .int (nI (t + 1))), (0, .ref o), (1, .int (nI (how))), (2, .int (nI (i))), (3, .int (nI (i2))), (4, .int (nI (max h h2))), (5, .int (nI (pp * pp2)))]) hx hb d_M_joined_139 hl (k := 6) rfl (pq_inc _) (by decide) rfl (fun ls hl => ?_)
          refine lv_goto (tgt := 35) hx hb d_M_joined_142 (by decide) ?_
          exact ih_35 (t + 1) (upd bz t (vp_nar .boolean (nI (x)))) _ _ ls (by omega) (by omega) (md_put hbz hx2) hP hD hS (lv_sub hl [1, 2, 3, 4, 5, 6, 0] rfl)
        refine lv_aload_n hx hb d_M_joined_45 rfl (lv_at hl 0 rfl) ?_
        refine va_get (D := (dC, dI)) (ci := ciM) (v := .ref a5) (C := R_M) (T := F_M) (N := 9) hx hb hts (fun w h => List.mem_cons_of_mem _ (in_M w h)) hown hK hP 0 rfl rfl 6 (by decide) (hts (.fieldLink R_M 23 "PeriodWordsModel" "bits" "[Z") (List.mem_cons_of_mem _ mb_389)) (fun _ h9 => h9) rfl d_M_joined_46 ?_
        refine lv_iload hx hb d_M_joined_49 (lv_at hl 6 rfl) ?_
        refine lv_iload_n hx hb d_M_joined_51 rfl (lv_at hl 1 rfl) ?_
        refine pq_if_ne (tgt := 83) (a := how) hx hb d_M_joined_52 (by decide) (by omega) (fun c_52 => ?_) (fun c_52 => ?_)
        · refine lv_iload_n hx hb d_M_joined_83 rfl (lv_at hl 1 rfl) ?_
          refine lv_iconst (v := nI 1) hx hb d_M_joined_84 (by decide) ?_
          refine pq_icmp_ne (tgt := 116) (a := how) (b := 1) hx hb d_M_joined_85 (by decide) (by omega) (by omega) (fun c_85 => ?_) (fun c_85 => ?_)
          · refine lv_aload_n hx hb d_M_joined_116 rfl (lv_at hl 0 rfl) ?_
            refine lv_iload_n hx hb d_M_joined_117 rfl (lv_at hl 2 rfl) ?_
            refine lv_iload hx hb d_M_joined_118 (lv_at hl 6 rfl) ?_
            refine vp_callSi (W.runV (As := [.int (nI (i)), .int (nI (t))]) (rest := [.int (nI (t)), .ref a5]) ⟨hx, hb, hml, hown, hts⟩ (c_M_has l dC dI hmd (t := t) (by omega)) (cwV 2 hts (gd_V mb_455 mb_457 mb_9 mb_23 mb_458) rfl rfl rfl (by decide +kernel) ⟨Nat.le_of_ble_eq_true rfl, Nat.le_of_ble_eq_true rfl⟩) (pw_R_V (va_recv hK hP (ci := ciM) (q0 := 0) rfl rfl) hP hK) rfl rfl hl.1 rfl (lv_room (Nat.le_of_ble_eq_true rfl)) d_M_joined_120 ⟨Nat.le_of_ble_eq_true rfl, Nat.le_of_ble_eq_true rfl⟩) (fun r_120 hr_120 => ?_)
            subst hr_120
            refine lv_aload_n hx hb d_M_joined_123 rfl (lv_at hl 0 rfl) ?_
            refine lv_iload_n hx hb d_M_joined_124 rfl (lv_at hl 3 rfl) ?_
            refine lv_iload hx hb d_M_joined_125 (lv_at hl 6 rfl) ?_
            refine vp_callSi (W.runV (As := [.int (nI (i2)), .int (nI (t))]) (rest := [.int (nI ((f t).toNat)), .int (nI (t)), .ref a5]) ⟨hx, hb, hml, hown, hts⟩ (c_M_has l dC dI hmd2 (t := t) (by omega)) (cwV 2 hts (gd_V mb_455 mb_457 mb_9 mb_23 mb_458) rfl rfl rfl (by decide +kernel) ⟨Nat.le_of_ble_eq_true rfl, Nat.le_of_ble_eq_true rfl⟩) (pw_R_V (va_recv hK hP (ci := ciM) (q0 := 0) rfl rfl) hP hK) rfl rfl hl.1 rfl (lv_room (Nat.le_of_ble_eq_true rfl)) d_M_joined_127 ⟨Nat.le_of_ble_eq_true rfl, Nat.le_of_ble_eq_true rfl⟩) (fun r_127 hr_127 => ?_)
            subst hr_127
            refine pq_icmp_eq (tgt := 137) (a := ((f t).toNat)) (b := ((f2 t).toNat)) hx hb d_M_joined_130 (by decide) (by have := pw_lt2 (f t); omega) (by have := pw_lt2 (f2 t); omega) (fun c_130 => ?_) (fun c_130 => ?_)
            · refine lv_iconst (v := nI 0) hx hb d_M_joined_137 (by decide) ?_
              exact B_138 (0) _ _ ls (by first | (have hh9 : how = 0 := (by omega); subst hh9; show _ = (f t && f2 t).toNat; rcases pw_bt (f t) with q | q <;> rcases pw_bt (f2 t) with q2 | q2 <;> rw [q.2, q2.2] <;> first | rfl | (exfalso; omega)) | (have hh9 : how = 1 := (by omega); subst hh9; show _ = (f t || f2 t).toNat; rcases pw_bt (f t) with q | q <;> rcases pw_bt (f2 t) with q2 | q2 <;> rw [q.2, q2.2] <;> first | rfl | (exfalso; omega)) | (have hh9 : how = 2 := (by omega); subst hh9; show _ = (f t ^^ f2 t).toNat; rcases pw_bt (f t) with q | q <;> rcases pw_bt (f2 t) with q2 | q2 <;> rw [q.2, q2.2] <;> first | rfl | (exfalso; omega))) hP hD hS (lv_sub hl [0, 1, 2, 3, 4, 5, 6] rfl)
            · refine lv_iconst (v := nI 1) hx hb d_M_joined_133 (by decide) ?_
              refine lv_goto (tgt := 138) hx hb d_M_joined_134 (by decide) ?_
              exact B_138 (1) _ _ ls (by first | (have hh9 : how = 0 := (by omega); subst hh9; show _ = (f t && f2 t).toNat; rcases pw_bt (f t) with q | q <;> rcases pw_bt (f2 t) with q2 | q2 <;> rw [q.2, q2.2] <;> first | rfl | (exfalso; omega)) | (have hh9 : how = 1 := (by omega); subst hh9; show _ = (f t || f2 t).toNat; rcases pw_bt (f t) with q | q <;> rcases pw_bt (f2 t) with q2 | q2 <;> rw [q.2, q2.2] <;> first | rfl | (exfalso; omega)) | (have hh9 : how = 2 := (by omega); subst hh9; show _ = (f t ^^ f2 t).toNat; rcases pw_bt (f t) with q | q <;> rcases pw_bt (f2 t) with q2 | q2 <;> rw [q.2, q2.2] <;> first | rfl | (exfalso; omega))) hP hD hS (lv_sub hl [0, 1, 2, 3, 4, 5, 6] rfl)
          · refine lv_aload_n hx hb d_M_joined_88 rfl (lv_at hl 0 rfl) ?_
            refine lv_iload_n hx hb d_M_joined_89 rfl (lv_at hl 2 rfl) ?_
            refine lv_iload hx hb d_M_joined_90 (lv_at hl 6 rfl) ?_
            refine vp_callSi (W.runV (As := [.int (nI (i)), .int (nI (t))]) (rest := [.int (nI (t)), .ref a5]) ⟨hx, hb, hml, hown, hts⟩ (c_M_has l dC dI hmd (t := t) (by omega)) (cwV 2 hts (gd_V mb_455 mb_457 mb_9 mb_23 mb_458) rfl rfl rfl (by decide +kernel) ⟨Nat.le_of_ble_eq_true rfl, Nat.le_of_ble_eq_true rfl⟩) (pw_R_V (va_recv hK hP (ci := ciM) (q0 := 0) rfl rfl) hP hK) rfl rfl hl.1 rfl (lv_room (Nat.le_of_ble_eq_true rfl)) d_M_joined_92 ⟨Nat.le_of_ble_eq_true rfl, Nat.le_of_ble_eq_true rfl⟩) (fun r_92 hr_92 => ?_)
            subst hr_92
            refine pq_if_ne (tgt := 108) (a := ((f t).toNat)) hx hb d_M_joined_95 (by decide) (by have := pw_lt2 (f t); omega) (fun c_95 => ?_) (fun c_95 => ?_)
            · refine lv_iconst (v := nI 1) hx hb d_M_joined_108 (by decide) ?_
              refine lv_goto (tgt := 138) hx hb d_M_joined_109 (by decide) ?_
              exact B_138 (1) _ _ ls (by first | (have hh9 : how = 0 := (by omega); subst hh9; show _ = (f t && f2 t).toNat; rcases pw_bt (f t) with q | q <;> rcases pw_bt (f2 t) with q2 | q2 <;> rw [q.2, q2.2] <;> first | rfl | (exfalso; omega)) | (have hh9 : how = 1 := (by omega); subst hh9; show _ = (f t || f2 t).toNat; rcases pw_bt (f t) with q | q <;> rcases pw_bt (f2 t) with q2 | q2 <;> rw [q.2, q2.2] <;> first | rfl | (exfalso; omega)) | (have hh9 : how = 2 := (by omega); subst hh9; show _ = (f t ^^ f2 t).toNat; rcases pw_bt (f t) with q | q <;> rcases pw_bt (f2 t) with q2 | q2 <;> rw [q.2, q2.2] <;> first | rfl | (exfalso; omega))) hP hD hS (lv_sub hl [0, 1, 2, 3, 4, 5, 6] rfl)
            · refine lv_aload_n hx hb d_M_joined_98 rfl (lv_at hl 0 rfl) ?_
              refine lv_iload_n hx hb d_M_joined_99 rfl (lv_at hl 3 rfl) ?_
              refine lv_iload hx hb d_M_joined_100 (lv_at hl 6 rfl) ?_
              refine vp_callSi (W.runV (As := [.int (nI (i2)), .int (nI (t))]) (rest := [.int (nI (t)), .ref a5]) ⟨hx, hb, hml, hown, hts⟩ (c_M_has l dC dI hmd2 (t := t) (by omega)) (cwV 2 hts (gd_V mb_455 mb_457 mb_9 mb_23 mb_458) rfl rfl rfl (by decide +kernel) ⟨Nat.le_of_ble_eq_true rfl, Nat.le_of_ble_eq_true rfl⟩) (pw_R_V (va_recv hK hP (ci := ciM) (q0 := 0) rfl rfl) hP hK) rfl rfl hl.1 rfl (lv_room (Nat.le_of_ble_eq_true rfl)) d_M_joined_102 ⟨Nat.le_of_ble_eq_true rfl, Nat.le_of_ble_eq_true rfl⟩) (fun r_102 hr_102 => ?_)
              subst hr_102
              refine pq_if_eq (tgt := 112) (a := ((f2 t).toNat)) hx hb d_M_joined_105 (by decide) (by have := pw_lt2 (f2 t); omega) (fun c_105 => ?_) (fun c_105 => ?_)
              · refine lv_iconst (v := nI 0) hx hb d_M_joined_112 (by decide) ?_
                refine lv_goto (tgt := 138) hx hb d_M_joined_113 (by decide) ?_
                exact B_138 (0) _ _ ls (by first | (have hh9 : how = 0 := (by omega); subst hh9; show _ = (f t && f2 t).toNat; rcases pw_bt (f t) with q | q <;> rcases pw_bt (f2 t) with q2 | q2 <;> rw [q.2, q2.2] <;> first | rfl | (exfalso; omega)) | (have hh9 : how = 1 := (by omega); subst hh9; show _ = (f t || f2 t).toNat; rcases pw_bt (f t) with q | q <;> rcases pw_bt (f2 t) with q2 | q2 <;> rw [q.2, q2.2] <;> first | rfl | (exfalso; omega)) | (have hh9 : how = 2 := (by omega); subst hh9; show _ = (f t ^^ f2 t).toNat; rcases pw_bt (f t) with q | q <;> rcases pw_bt (f2 t) with q2 | q2 <;> rw [q.2, q2.2] <;> first | rfl | (exfalso; omega))) hP hD hS (lv_sub hl [0, 1, 2, 3, 4, 5, 6] rfl)
              · refine lv_iconst (v := nI 1) hx hb d_M_joined_108 (by decide) ?_
                refine lv_goto (tgt := 138) hx hb d_M_joined_109 (by decide) ?_
                exact B_138 (1) _ _ ls (by first | (have hh9 : how = 0 := (by omega); subst hh9; show _ = (f t && f2 t).toNat; rcases pw_bt (f t) with q | q <;> rcases pw_bt (f2 t) with q2 | q2 <;> rw [q.2, q2.2] <;> first | rfl | (exfalso; omega)) | (have hh9 : how = 1 := (by omega); subst hh9; show _ = (f t || f2 t).toNat; rcases pw_bt (f t) with q | q <;> rcases pw_bt (f2 t) with q2 | q2 <;> rw [q.2, q2.2] <;> first | rfl | (exfalso; omega)) | (have hh9 : how = 2 := (by omega); subst hh9; show _ = (f t ^^ f2 t).toNat; rcases pw_bt (f t) with q | q <;> rcases pw_bt (f2 t) with q2 | q2 <;> rw [q.2, q2.2] <;> first | rfl | (exfalso; omega))) hP hD hS (lv_sub hl [0, 1, 2, 3, 4, 5, 6] rfl)
        · refine lv_aload_n hx hb d_M_joined_55 rfl (lv_at hl 0 rfl) ?_
          refine lv_iload_n hx hb d_M_joined_56 rfl (lv_at hl 2 rfl) ?_
          refine lv_iload hx hb d_M_joined_57 (lv_at hl 6 rfl) ?_
          refine vp_callSi (W.runV (As := [.int (nI (i)), .int (nI (t))]) (rest := [.int (nI (t)), .ref a5]) ⟨hx, hb, hml, hown, hts⟩ (c_M_has l dC dI hmd (t := t) (by omega)) (cwV 2 hts (gd_V mb_455 mb_457 mb_9 mb_23 mb_458) rfl rfl rfl (by decide +kernel) ⟨Nat.le_of_ble_eq_true rfl, Nat.le_of_ble_eq_true rfl⟩) (pw_R_V (va_recv hK hP (ci := ciM) (q0 := 0) rfl rfl) hP hK) rfl rfl hl.1 rfl (lv_room (Nat.le_of_ble_eq_true rfl)) d_M_joined_59 ⟨Nat.le_of_ble_eq_true rfl, Nat.le_of_ble_eq_true rfl⟩) (fun r_59 hr_59 => ?_)
          subst hr_59
          refine pq_if_eq (tgt := 79) (a := ((f t).toNat)) hx hb d_M_joined_62 (by decide) (by have := pw_lt2 (f t); omega) (fun c_62 => ?_) (fun c_62 => ?_)
          · refine lv_iconst (v := nI 0) hx hb d_M_joined_79 (by decide) ?_
            refine lv_goto (tgt := 138) hx hb d_M_joined_80 (by decide) ?_
            exact B_138 (0) _ _ ls (by first | (have hh9 : how = 0 := (by omega); subst hh9; show _ = (f t && f2 t).toNat; rcases pw_bt (f t) with q | q <;> rcases pw_bt (f2 t) with q2 | q2 <;> rw [q.2, q2.2] <;> first | rfl | (exfalso; omega)) | (have hh9 : how = 1 := (by omega); subst hh9; show _ = (f t || f2 t).toNat; rcases pw_bt (f t) with q | q <;> rcases pw_bt (f2 t) with q2 | q2 <;> rw [q.2, q2.2] <;> first | rfl | (exfalso; omega)) | (have hh9 : how = 2 := (by omega); subst hh9; show _ = (f t ^^ f2 t).toNat; rcases pw_bt (f t) with q | q <;> rcases pw_bt (f2 t) with q2 | q2 <;> rw [q.2, q2.2] <;> first | rfl | (exfalso; omega))) hP hD hS (lv_sub hl [0, 1, 2, 3, 4, 5, 6] rfl)
          · refine lv_aload_n hx hb d_M_joined_65 rfl (lv_at hl 0 rfl) ?_
            refine lv_iload_n hx hb d_M_joined_66 rfl (lv_at hl 3 rfl) ?_
            refine lv_iload hx hb d_M_joined_67 (lv_at hl 6 rfl) ?_
            refine vp_callSi (W.runV (As := [.int (nI (i2)), .int (nI (t))]) (rest := [.int (nI (t)), .ref a5]) ⟨hx, hb, hml, hown, hts⟩ (c_M_has l dC dI hmd2 (t := t) (by omega)) (cwV 2 hts (gd_V mb_455 mb_457 mb_9 mb_23 mb_458) rfl rfl rfl (by decide +kernel) ⟨Nat.le_of_ble_eq_true rfl, Nat.le_of_ble_eq_true rfl⟩) (pw_R_V (va_recv hK hP (ci := ciM) (q0 := 0) rfl rfl) hP hK) rfl rfl hl.1 rfl (lv_room (Nat.le_of_ble_eq_true rfl)) d_M_joined_69 ⟨Nat.le_of_ble_eq_true rfl, Nat.le_of_ble_eq_true rfl⟩) (fun r_69 hr_69 => ?_)
            subst hr_69
            refine pq_if_eq (tgt := 79) (a := ((f2 t).toNat)) hx hb d_M_joined_72 (by decide) (by have := pw_lt2 (f2 t); omega) (fun c_72 => ?_) (fun c_72 => ?_)
            · refine lv_iconst (v := nI 0) hx hb d_M_joined_79 (by decide) ?_
              refine lv_goto (tgt := 138) hx hb d_M_joined_80 (by decide) ?_
              exact B_138 (0) _ _ ls (by first | (have hh9 : how = 0 := (by omega); subst hh9; show _ = (f t && f2 t).toNat; rcases pw_bt (f t) with q | q <;> rcases pw_bt (f2 t) with q2 | q2 <;> rw [q.2, q2.2] <;> first | rfl | (exfalso; omega)) | (have hh9 : how = 1 := (by omega); subst hh9; show _ = (f t || f2 t).toNat; rcases pw_bt (f t) with q | q <;> rcases pw_bt (f2 t) with q2 | q2 <;> rw [q.2, q2.2] <;> first | rfl | (exfalso; omega)) | (have hh9 : how = 2 := (by omega); subst hh9; show _ = (f t ^^ f2 t).toNat; rcases pw_bt (f t) with q | q <;> rcases pw_bt (f2 t) with q2 | q2 <;> rw [q.2, q2.2] <;> first | rfl | (exfalso; omega))) hP hD hS (lv_sub hl [0, 1, 2, 3, 4, 5, 6] rfl)
            · refine lv_iconst (v := nI 1) hx hb d_M_joined_75 (by decide) ?_
              refine lv_goto (tgt := 138) hx hb d_M_joined_76 (by decide) ?_
              exact B_138 (1) _ _ ls (by first | (have hh9 : how = 0 := (by omega); subst hh9; show _ = (f t && f2 t).toNat; rcases pw_bt (f t) with q | q <;> rcases pw_bt (f2 t) with q2 | q2 <;> rw [q.2, q2.2] <;> first | rfl | (exfalso; omega)) | (have hh9 : how = 1 := (by omega); subst hh9; show _ = (f t || f2 t).toNat; rcases pw_bt (f t) with q | q <;> rcases pw_bt (f2 t) with q2 | q2 <;> rw [q.2, q2.2] <;> first | rfl | (exfalso; omega)) | (have hh9 : how = 2 := (by omega); subst hh9; show _ = (f t ^^ f2 t).toNat; rcases pw_bt (f t) with q | q <;> rcases pw_bt (f2 t) with q2 | q2 <;> rw [q.2, q2.2] <;> first | rfl | (exfalso; omega))) hP hD hS (lv_sub hl [0, 1, 2, 3, 4, 5, 6] rfl)
  exact B_35 _ (0) (bs) _ _ ls (Nat.lt_succ_self _) (by omega) (fun j hj => absurd hj (Nat.not_lt_zero j)) hP hD hS (lv_sub hl [3, 4, 5, 6, 2, 1, 0] rfl)
set_option maxHeartbeats 4000000 in
set_option maxRecDepth 100000 in
theorem c_M_opposite (l : Launch) (dC : Nat → ClassId) (dI : Nat → Nat → Nat) {sz : Nat} {o a1 a2 a3 a4 a5 : Nat} {c1 c2 c3 c4 c5 : ClassId} {th mo le : Int32} {n : Nat} {xh yr : Nat → Int32} {xb yb : Nat → Int64} {bs : Nat → Int32} {i h pp : Nat} {f : Nat → Bool} (hmd : md_at xh yr xb yb i h pp f) {f2 : Nat → Bool} {d : Nat} (hn : n < 40) : Met l y_M_opposite ws_M_opposite ({ frames := 2, cells := 0, slots := 0, locals := 49 } : Room) (md_Pre [.ref o, .int (nI (i))] dC dI sz (mdT c1 c2 c3 c4 c5) (md o a1 a2 a3 a4 a5 c1 c2 c3 c4 c5 th n mo le xh yr xb yb bs)) (va_Qi (fun r u => md_set (pw_mk 3 f f2 d) n xh yr xb yb r u ∧ u.1 = th) (md_B dC dI (va_A (md o a1 a2 a3 a4 a5 c1 c2 c3 c4 c5 th n mo le xh yr xb yb bs) sz) o a1 a2 a3 a4 a5 c1 c2 c3 c4 c5) (va_A (md o a1 a2 a3 a4 a5 c1 c2 c3 c4 c5 th n mo le xh yr xb yb bs) sz)) 0 0 (va_A (md o a1 a2 a3 a4 a5 c1 c2 c3 c4 c5 th n mo le xh yr xb yb bs) sz) := by
  refine Met.ofW (cc := b_M_opposite) (maxL := 3) (ret := (some .int)) (by decide) rfl ?_
  intro p e s m args below meth c s₁ B hml hv
  obtain ⟨rfl, hsz, hP, hK, hD0⟩ := hv
  have hx := B.exec
  have hb := B.bytes
  have hr := B.returns
  have hts := atoms_spec (ws := ws_M_opposite) B.pre
  have hown : s.vm.findClass R_M = some m.cls := findClass_of_methodNamed B.named
  have hlocks := B.notSynchronized
  subst hsz
  have hD := hD0.self (sz := s.heap.size)
  generalize hAe : va_A (md o a1 a2 a3 a4 a5 c1 c2 c3 c4 c5 th n mo le xh yr xb yb bs) s.heap.size = A at hD ⊢
  have hA : ∀ q : Nat, s.heap.size ≤ q → A q := fun q h => by rw [← hAe]; exact Or.inr h
  have hS : va_S A s.heap s.heap [] := va_S.rf
  have hmd_ := hmd; obtain ⟨hi, e1, e2, e3, e4, hok⟩ := hmd_; have hok_ := hok; obtain ⟨hh, hp0, hp6, hE⟩ := hok_
  have ho := pw_o_le f h pp
  have hc := pw_c_le f h
  have hb0 := pq_lt60 (pw_b_lt f 0 h) hh
  have hb1 := pq_lt60 (pw_b_lt f h pp) hp6
  have hl := lv_entry ([.ref o, .int (nI (i))]) (n := 3) (Nat.le_of_ble_eq_true rfl)
  rw [lg_entry_eq]
  generalize (lg_sl ([.ref o, .int (nI (i))]) ++ List.replicate (3 - (lg_sl ([.ref o, .int (nI (i))])).length) Slot.unset).toArray = ls at hl ⊢
  have hl : lv_has ls 3 [(0, .ref o), (1, .int (nI (i)))] := hl
  refine lv_iconst (v := nI 0) hx hb d_M_opposite_0 (by decide) ?_
  refine lv_istore_n (lv' := [(2, .int (nI (0))), (0, .ref o), (1, .int (nI (i)))]) hx hb d_M_opposite_1 rfl hl (by decide) rfl (fun ls hl => ?_)
  have B_2 : ∀ (k_ : Nat) (t : Nat) (bz : Nat → Int32) (H : Heap) (locs : List Loc) (ls : Array Slot), (h + pp - t) < k_ → (t ≤ h + pp) → (∀ j, j < t → bz j = nI (pw_mk 3 f f2 d j).toNat) → (va_P (dC, dI) vwCl [(o, .inr (ciM, [.int (th), .int (nI (n)), .ref a1, .ref a2, .ref a3, .ref a4, .ref a5, .int (mo), .int (le)])), (a1, .inl (c1, 40, .inl xh)), (a2, .inl (c2, 40, .inl yr)), (a3, .inl (c3, 40, .inr (.inl xb))), (a4, .inl (c4, 40, .inr (.inl yb))), (a5, .inl (c5, 7400, .inl bz))] H) → (va_D A [(o, .inr (ciM, [.int (th), .int (nI (n)), .ref a1, .ref a2, .ref a3, .ref a4, .ref a5, .int (mo), .int (le)])), (a1, .inl (c1, 40, .inl xh)), (a2, .inl (c2, 40, .inl yr)), (a3, .inl (c3, 40, .inr (.inl xb))), (a4, .inl (c4, 40, .inr (.inl yb))), (a5, .inl (c5, 7400, .inl bz))]) → (va_S A s.heap H locs) → lv_has ls 3 [(0, .ref o), (1, .int (nI (i))), (2, .int (nI (t)))] → W p l e (headSpec ws_M_opposite ({ frames := 2, cells := 0, slots := 0, locals := 49 } : Room)).room s m ([.ref o, .int (nI (i))]).toArray below meth c H locs 0 0 (MQ below (va_Qi (fun r u => md_set (pw_mk 3 f f2 d) n xh yr xb yb r u ∧ u.1 = th) (md_B dC dI A o a1 a2 a3 a4 a5 c1 c2 c3 c4 c5) A) ([.ref o, .int (nI (i))]).toArray s 0 0 A) (F0 m 2 ls []) := by
    intro k_
    induction k_ with
    | zero => intro t bz H locs ls h_; omega
    | succ k_ ih_2 =>
      intro t bz H locs ls hm_ ht hbz hP hD hS hl
      refine lv_iload_n hx hb d_M_opposite_2 rfl (lv_at hl 2 rfl) ?_
      refine lv_aload_n hx hb d_M_opposite_3 rfl (lv_at hl 0 rfl) ?_
      refine va_get (D := (dC, dI)) (ci := ciM) (v := .ref a1) (C := R_M) (T := F_M) (N := 9) hx hb hts (fun w h => List.mem_cons_of_mem _ (in_M w h)) hown hK hP 0 rfl rfl 2 (by decide) (hts (.fieldLink R_M 7 "PeriodWordsModel" "head" "[I") (List.mem_cons_of_mem _ mb_385)) (fun _ h9 => h9) rfl d_M_opposite_4 ?_
      refine lv_iload_n hx hb d_M_opposite_7 rfl (lv_at hl 1 rfl) ?_
      refine va_iald hx hb hK hP 1 0 rfl rfl (vp_in_nI (n := i) (by omega) (by omega)) d_M_opposite_8 ?_
      refine pq_top (y := .int (xh i)) (by rw [pq_cl (by omega)]) ?_
      refine pq_top (y := .int (nI (h))) (by rw [e1]) ?_
      refine lv_aload_n hx hb d_M_opposite_9 rfl (lv_at hl 0 rfl) ?_
      refine va_get (D := (dC, dI)) (ci := ciM) (v := .ref a2) (C := R_M) (T := F_M) (N := 9) hx hb hts (fun w h => List.mem_cons_of_mem _ (in_M w h)) hown hK hP 0 rfl rfl 3 (by decide) (hts (.fieldLink R_M 13 "PeriodWordsModel" "ring" "[I") (List.mem_cons_of_mem _ mb_386)) (fun _ h9 => h9) rfl d_M_opposite_10 ?_
      refine lv_iload_n hx hb d_M_opposite_13 rfl (lv_at hl 1 rfl) ?_
      refine va_iald hx hb hK hP 2 1 rfl rfl (vp_in_nI (n := i) (by omega) (by omega)) d_M_opposite_14 ?_
      refine pq_top (y := .int (yr i)) (by rw [pq_cl (by omega)]) ?_
      refine pq_top (y := .int (nI (pp))) (by rw [e2]) ?_
      refine pq_iadd (a := h) (b := pp) hx hb d_M_opposite_15 ?_
      refine pq_icmp_ge (tgt := 45) (a := t) (b := (h + pp)) hx hb d_M_opposite_16 (by decide) (by omega) (by omega) (fun c_16 => ?_) (fun c_16 => ?_)
      · refine lv_aload_n hx hb d_M_opposite_45 rfl (lv_at hl 0 rfl) ?_
        refine lv_aload_n hx hb d_M_opposite_46 rfl (lv_at hl 0 rfl) ?_
        refine va_get (D := (dC, dI)) (ci := ciM) (v := .ref a1) (C := R_M) (T := F_M) (N := 9) hx hb hts (fun w h => List.mem_cons_of_mem _ (in_M w h)) hown hK hP 0 rfl rfl 2 (by decide) (hts (.fieldLink R_M 7 "PeriodWordsModel" "head" "[I") (List.mem_cons_of_mem _ mb_385)) (fun _ h9 => h9) rfl d_M_opposite_47 ?_
        refine lv_iload_n hx hb d_M_opposite_50 rfl (lv_at hl 1 rfl) ?_
        refine va_iald hx hb hK hP 1 0 rfl rfl (vp_in_nI (n := i) (by omega) (by omega)) d_M_opposite_51 ?_
        refine pq_top (y := .int (xh i)) (by rw [pq_cl (by omega)]) ?_
        refine pq_top (y := .int (nI (h))) (by rw [e1]) ?_
        refine lv_aload_n hx hb d_M_opposite_52 rfl (lv_at hl 0 rfl) ?_
        refine va_get (D := (dC, dI)) (ci := ciM) (v := .ref a2) (C := R_M) (T := F_M) (N := 9) hx hb hts (fun w h => List.mem_cons_of_mem _ (in_M w h)) hown hK hP 0 rfl rfl 3 (by decide) (hts (.fieldLink R_M 13 "PeriodWordsModel" "ring" "[I") (List.mem_cons_of_mem _ mb_386)) (fun _ h9 => h9) rfl d_M_opposite_53 ?_
        refine lv_iload_n hx hb d_M_opposite_56 rfl (lv_at hl 1 rfl) ?_
        refine va_iald hx hb hK hP 2 1 rfl rfl (vp_in_nI (n := i) (by omega) (by omega)) d_M_opposite_57 ?_
        refine pq_top (y := .int (yr i)) (by rw [pq_cl (by omega)]) ?_
        refine pq_top (y := .int (nI (pp))) (by rw [e2]) ?_
        have hFc := va_free (wc := [(o, .inr (ciM, [.int (th), .int (nI (n)), .ref a1, .ref a2, .ref a3, .ref a4, .ref a5, .int (mo), .int (le)])), (a1, .inl (c1, 40, .inl xh)), (a2, .inl (c2, 40, .inl yr)), (a3, .inl (c3, 40, .inr (.inl xb))), (a4, .inl (c4, 40, .inr (.inl yb))), (a5, .inl (c5, 7400, .inl bz))]) hD hS hA [0, 1, 2, 3, 4, 5] rfl
        refine va_calli (va_runV (As := [.int (nI (h)), .int (nI (pp))]) (rest := []) ⟨hx, hb, hml, hown, hts⟩ (c_M_settle l dC dI (F := pw_mk 3 f f2 d) (fun j hj => hbz j (by omega)) (by omega) hp0 (pw_E_not hE) hn) (cwV 2 hts (gd_V mb_424 mb_426 mb_3 mb_23 mb_427) rfl rfl rfl (by decide +kernel) ⟨Nat.le_of_ble_eq_true rfl, Nat.le_of_ble_eq_true rfl⟩) ⟨md_blind, va_recv hK hP (ci := ciM) (q0 := 0) rfl rfl, fun U hU hW => ⟨rfl, by rw [hU], by rw [hU]; exact hP, va_K.moved hW.alike hK, hD.weaken (fun _ _ _ _ => trivial)⟩⟩ rfl rfl hl.1 rfl (lv_room (Nat.le_of_ble_eq_true rfl)) d_M_opposite_58 ⟨Nat.le_of_ble_eq_true rfl, Nat.le_of_ble_eq_true rfl⟩) hS (fun q _ h => hFc q h) hFc (fun r_58 u_58 t_ H1 locs ht_ hvm_ hr_58 hB_ hz1_ hk1_ hS => ?_)
        obtain ⟨hP1_, hK1_, hD1_⟩ := hB_
        rw [ht_] at hP1_
        clear hP hD
        have hP := hP1_
        have hD := hD1_.weaken (fun k q _ h => hFc q.1 h)
        generalize H1 = H at hP hS ⊢
        have hP : va_P (dC, dI) vwCl [(o, .inr (ciM, [.int (u_58.1), .int (nI (u_58.2.1)), .ref a1, .ref a2, .ref a3, .ref a4, .ref a5, .int (u_58.2.2.1), .int (u_58.2.2.2.1)])), (a1, .inl (c1, 40, .inl u_58.2.2.2.2.1)), (a2, .inl (c2, 40, .inl u_58.2.2.2.2.2.1)), (a3, .inl (c3, 40, .inr (.inl u_58.2.2.2.2.2.2.1))), (a4, .inl (c4, 40, .inr (.inl u_58.2.2.2.2.2.2.2.1))), (a5, .inl (c5, 7400, .inl u_58.2.2.2.2.2.2.2.2))] H := hP
        have hD : va_D A [(o, .inr (ciM, [.int (u_58.1), .int (nI (u_58.2.1)), .ref a1, .ref a2, .ref a3, .ref a4, .ref a5, .int (u_58.2.2.1), .int (u_58.2.2.2.1)])), (a1, .inl (c1, 40, .inl u_58.2.2.2.2.1)), (a2, .inl (c2, 40, .inl u_58.2.2.2.2.2.1)), (a3, .inl (c3, 40, .inr (.inl u_58.2.2.2.2.2.2.1))), (a4, .inl (c4, 40, .inr (.inl u_58.2.2.2.2.2.2.2.1))), (a5, .inl (c5, 7400, .inl u_58.2.2.2.2.2.2.2.2))] := hD
        exact W.iret (v := (r_58)) hx hb hr (fun t_ ht_ hW_ => ⟨⟨_, u_58, rfl, hr_58, by rw [ht_]; exact hP, va_K.moved hW_.alike hK, hD⟩, hS.F ht_⟩) hS.2.2 d_M_opposite_61
      · have B_38 : ∀ (x : Nat) (H : Heap) (locs : List Loc) (ls : Array Slot), (x = (pw_mk 3 f f2 d t).toNat) → (va_P (dC, dI) vwCl [(o, .inr (ciM, [.int (th), .int (nI (n)), .ref a1, .ref a2, .ref a3, .ref a4, .ref a5, .int (mo), .int (le)])), (a1, .inl (c1, 40, .inl xh)), (a2, .inl (c2, 40, .inl yr)), (a3, .inl (c3, 40, .inr (.inl xb))), (a4, .inl (c4, 40, .inr (.inl yb))), (a5, .inl (c5, 7400, .inl bz))] H) → (va_D A [(o, .inr (ciM, [.int (th), .int (nI (n)), .ref a1, .ref a2, .ref a3, .ref a4, .ref a5, .int (mo), .int (le)])), (a1, .inl (c1, 40, .inl xh)), (a2, .inl (c2, 40, .inl yr)), (a3, .inl (c3, 40, .inr (.inl xb))), (a4, .inl (c4, 40, .inr (.inl yb))), (a5, .inl (c5, 7400, .inl bz))]) → (va_S A s.heap H locs) → lv_has ls 3 [(0, .ref o), (1, .int (nI (i))), (2, .int (nI (t)))] → W p l e (headSpec ws_M_opposite ({ frames := 2, cells := 0, slots := 0, locals := 49 } : Room)).room s m ([.ref o, .int (nI (i))]).toArray below meth c H locs 0 0 (MQ below (va_Qi (fun r u => md_set (pw_mk 3 f f2 d) n xh yr xb yb r u ∧ u.1 = th) (md_B dC dI A o a1 a2 a3 a4 a5 c1 c2 c3 c4 c5) A) ([.ref o, .int (nI (i))]).toArray s 0 0 A) (F0 m 38 ls [.int (nI (x)), .int (nI (t)), .ref a5]) := by
          intro x H locs ls hx2 hP hD hS hl
          refine va_zast hx hb hK hP hD hS 5 4 rfl rfl (vp_in_nI (n := t) (by omega) (by omega)) d_M_opposite_38 (fun H locs hP hD hS => ?_)
          rw [pq_cl (by omega)] at hP hD
          have hP : va_P (dC, dI) vwCl [(o, .inr (ciM, [.int (th), .int (nI (n)), .ref a1, .ref a2, .ref a3, .ref a4, .ref a5, .int (mo), .int (le)])), (a1, .inl (c1, 40, .inl xh)), (a2, .inl (c2, 40, .inl yr)), (a3, .inl (c3, 40, .inr (.inl xb))), (a4, .inl (c4, 40, .inr (.inl yb))), (a5, .inl (c5, 7400, .inl (upd bz t (vp_nar .boolean (nI (x))))))] H := hP
          have hD : va_D A [(o, .inr (ciM, [.int (th), .int (nI (n)), .ref a1, .ref a2, .ref a3, .ref a4, .ref a5, .int (mo), .int (le)])), (a1, .inl (c1, 40, .inl xh)), (a2, .inl (c2, 40, .inl yr)), (a3, .inl (c3, 40, .inr (.inl xb))), (a4, .inl (c4, 40, .inr (.inl yb))), (a5, .inl (c5, 7400, .inl (upd bz t (vp_nar .boolean (nI (x))))))] := hD
          refine lv_iinc (v := nI (t + 1)) (lv' := [(2, .int (nI (t + 1))), (0, .ref o), (1, .int (nI (i)))]) hx hb d_M_opposite_39 hl (k := 2) rfl (pq_inc _) (by decide) rfl (fun ls hl => ?_)
          refine lv_goto (tgt := 2) hx hb d_M_opposite_42 (by decide) ?_
          exact ih_2 (t + 1) (upd bz t (vp_nar .boolean (nI (x)))) _ _ ls (by omega) (by omega) (md_put hbz hx2) hP hD hS (lv_sub hl [1, 2, 0] rfl)
        refine lv_aload_n hx hb d_M_opposite_19 rfl (lv_at hl 0 rfl) ?_
        refine va_get (D := (dC, dI)) (ci := ciM) (v := .ref a5) (C := R_M) (T := F_M) (N := 9) hx hb hts (fun w h => List.mem_cons_of_mem _ (in_M w h)) hown hK hP 0 rfl rfl 6 (by decide) (hts (.fieldLink R_M 23 "PeriodWordsModel" "bits" "[Z") (List.mem_cons_of_mem _ mb_389)) (fun _ h9 => h9) rfl d_M_opposite_20 ?_
        refine lv_iload_n hx hb d_M_opposite_23 rfl (lv_at hl 2 rfl) ?_
        refine lv_aload_n hx hb d_M_opposite_24 rfl (lv_at hl 0 rfl) ?_
        refine lv_iload_n hx hb d_M_opposite_25 rfl (lv_at hl 1 rfl) ?_
        refine lv_iload_n hx hb d_M_opposite_26 rfl (lv_at hl 2 rfl) ?_
        refine vp_callSi (W.runV (As := [.int (nI (i)), .int (nI (t))]) (rest := [.int (nI (t)), .ref a5]) ⟨hx, hb, hml, hown, hts⟩ (c_M_has l dC dI hmd (t := t) (by omega)) (cwV 2 hts (gd_V mb_455 mb_457 mb_9 mb_23 mb_458) rfl rfl rfl (by decide +kernel) ⟨Nat.le_of_ble_eq_true rfl, Nat.le_of_ble_eq_true rfl⟩) (pw_R_V (va_recv hK hP (ci := ciM) (q0 := 0) rfl rfl) hP hK) rfl rfl hl.1 rfl (lv_room (Nat.le_of_ble_eq_true rfl)) d_M_opposite_27 ⟨Nat.le_of_ble_eq_true rfl, Nat.le_of_ble_eq_true rfl⟩) (fun r_27 hr_27 => ?_)
        subst hr_27
        refine pq_if_ne (tgt := 37) (a := ((f t).toNat)) hx hb d_M_opposite_30 (by decide) (by have := pw_lt2 (f t); omega) (fun c_30 => ?_) (fun c_30 => ?_)
        · refine lv_iconst (v := nI 0) hx hb d_M_opposite_37 (by decide) ?_
          exact B_38 (0) _ _ ls (by show _ = (!f t).toNat; rcases pw_bt (f t) with q | q <;> rw [q.2] <;> first | rfl | (exfalso; omega)) hP hD hS (lv_sub hl [0, 1, 2] rfl)
        · refine lv_iconst (v := nI 1) hx hb d_M_opposite_33 (by decide) ?_
          refine lv_goto (tgt := 38) hx hb d_M_opposite_34 (by decide) ?_
          exact B_38 (1) _ _ ls (by show _ = (!f t).toNat; rcases pw_bt (f t) with q | q <;> rw [q.2] <;> first | rfl | (exfalso; omega)) hP hD hS (lv_sub hl [0, 1, 2] rfl)
  exact B_2 _ (0) (bs) _ _ ls (Nat.lt_succ_self _) (by omega) (fun j hj => absurd hj (Nat.not_lt_zero j)) hP hD hS (lv_sub hl [1, 2, 0] rfl)
set_option maxHeartbeats 4000000 in
set_option maxRecDepth 100000 in
theorem c_M_on (l : Launch) (dC : Nat → ClassId) (dI : Nat → Nat → Nat) {sz : Nat} {o a1 a2 a3 a4 a5 : Nat} {c1 c2 c3 c4 c5 : ClassId} {th mo le : Int32} {n : Nat} {xh yr : Nat → Int32} {xb yb : Nat → Int64} {bs : Nat → Int32} {i h pp : Nat} {f : Nat → Bool} (hmd : md_at xh yr xb yb i h pp f) {i2 h2 pp2 : Nat} {f2 : Nat → Bool} (hmd2 : md_at xh yr xb yb i2 h2 pp2 f2) {d : Nat} (hn : n < 40) : Met l y_M_on ws_M_on ({ frames := 2, cells := 0, slots := 0, locals := 49 } : Room) (md_Pre [.ref o, .int (nI (i)), .int (nI (i2))] dC dI sz (mdT c1 c2 c3 c4 c5) (md o a1 a2 a3 a4 a5 c1 c2 c3 c4 c5 th n mo le xh yr xb yb bs)) (va_Qi (fun r u => md_set (pw_mk 4 f f2 d) n xh yr xb yb r u ∧ u.1 = th) (md_B dC dI (va_A (md o a1 a2 a3 a4 a5 c1 c2 c3 c4 c5 th n mo le xh yr xb yb bs) sz) o a1 a2 a3 a4 a5 c1 c2 c3 c4 c5) (va_A (md o a1 a2 a3 a4 a5 c1 c2 c3 c4 c5 th n mo le xh yr xb yb bs) sz)) 0 0 (va_A (md o a1 a2 a3 a4 a5 c1 c2 c3 c4 c5 th n mo le xh yr xb yb bs) sz) := by
  refine Met.ofW (cc := b_M_on) (maxL := 8) (ret := (some .int)) (by decide) rfl ?_
  intro p e s m args below meth c s₁ B hml hv
  obtain ⟨rfl, hsz, hP, hK, hD0⟩ := hv
  have hx := B.exec
  have hb := B.bytes
  have hr := B.returns
  have hts := atoms_spec (ws := ws_M_on) B.pre
  have hown : s.vm.findClass R_M = some m.cls := findClass_of_methodNamed B.named
  have hlocks := B.notSynchronized
  subst hsz
  have hD := hD0.self (sz := s.heap.size)
  generalize hAe : va_A (md o a1 a2 a3 a4 a5 c1 c2 c3 c4 c5 th n mo le xh yr xb yb bs) s.heap.size = A at hD ⊢
  have hA : ∀ q : Nat, s.heap.size ≤ q → A q := fun q h => by rw [← hAe]; exact Or.inr h
  have hS : va_S A s.heap s.heap [] := va_S.rf
  have hmd_ := hmd; obtain ⟨hi, e1, e2, e3, e4, hok⟩ := hmd_; have hok_ := hok; obtain ⟨hh, hp0, hp6, hE⟩ := hok_
  have ho := pw_o_le f h pp
  have hc := pw_c_le f h
  have hb0 := pq_lt60 (pw_b_lt f 0 h) hh
  have hb1 := pq_lt60 (pw_b_lt f h pp) hp6
  have hmd2_ := hmd2; obtain ⟨hi2, e12, e22, e32, e42, hok2⟩ := hmd2_; have hok2_ := hok2; obtain ⟨hh2, hp02, hp62, hE2⟩ := hok2_
  have ho2 := pw_o_le f2 h2 pp2
  have hc2 := pw_c_le f2 h2
  have hb02 := pq_lt60 (pw_b_lt f2 0 h2) hh2
  have hb12 := pq_lt60 (pw_b_lt f2 h2 pp2) hp62
  have mm : pp * pp2 ≤ 60 * 60 := Nat.mul_le_mul hp6 hp62
  have hl := lv_entry ([.ref o, .int (nI (i)), .int (nI (i2))]) (n := 8) (Nat.le_of_ble_eq_true rfl)
  rw [lg_entry_eq]
  generalize (lg_sl ([.ref o, .int (nI (i)), .int (nI (i2))]) ++ List.replicate (8 - (lg_sl ([.ref o, .int (nI (i)), .int (nI (i2))])).length) Slot.unset).toArray = ls at hl ⊢
  have hl : lv_has ls 8 [(0, .ref o), (1, .int (nI (i))), (2, .int (nI (i2)))] := hl
  have B_69 : ∀ (k_ : Nat) (fr : Nat) (bk : Nat) (cnt : Nat) (t : Nat) (bz : Nat → Int32) (H : Heap) (locs : List Loc) (ls : Array Slot), (fr + bk - t) < k_ → (fr + bk ≤ 7400) → (0 < bk) → (pw_E (pw_mk 4 f f2 d) fr bk) → (t ≤ fr + bk) → (cnt = pw_c f t) → (∀ j, j < t → bz j = nI (pw_mk 4 f f2 d j).toNat) → (va_P (dC, dI) vwCl [(o, .inr (ciM, [.int (th), .int (nI (n)), .ref a1, .ref a2, .ref a3, .ref a4, .ref a5, .int (mo), .int (le)])), (a1, .inl (c1, 40, .inl xh)), (a2, .inl (c2, 40, .inl yr)), (a3, .inl (c3, 40, .inr (.inl xb))), (a4, .inl (c4, 40, .inr (.inl yb))), (a5, .inl (c5, 7400, .inl bz))] H) → (va_D A [(o, .inr (ciM, [.int (th), .int (nI (n)), .ref a1, .ref a2, .ref a3, .ref a4, .ref a5, .int (mo), .int (le)])), (a1, .inl (c1, 40, .inl xh)), (a2, .inl (c2, 40, .inl yr)), (a3, .inl (c3, 40, .inr (.inl xb))), (a4, .inl (c4, 40, .inr (.inl yb))), (a5, .inl (c5, 7400, .inl bz))]) → (va_S A s.heap H locs) → lv_has ls 8 [(0, .ref o), (1, .int (nI (i))), (2, .int (nI (i2))), (4, .int (nI (fr))), (5, .int (nI (bk))), (6, .int (nI (cnt))), (7, .int (nI (t)))] → W p l e (headSpec ws_M_on ({ frames := 2, cells := 0, slots := 0, locals := 49 } : Room)).room s m ([.ref o, .int (nI (i)), .int (nI (i2))]).toArray below meth c H locs 0 0 (MQ below (va_Qi (fun r u => md_set (pw_mk 4 f f2 d) n xh yr xb yb r u ∧ u.1 = th) (md_B dC dI A o a1 a2 a3 a4 a5 c1 c2 c3 c4 c5) A) ([.ref o, .int (nI (i)), .int (nI (i2))]).toArray s 0 0 A) (F0 m 69 ls []) := by
    intro k_
    induction k_ with
    | zero => intro fr bk cnt t bz H locs ls h_; omega
    | succ k_ ih_69 =>
      intro fr bk cnt t bz H locs ls hm_ hfb hbk hEF ht hcnt hbz hP hD hS hl
      refine lv_iload hx hb d_M_on_69 (lv_at hl 6 rfl) ?_
      refine lv_iload hx hb d_M_on_71 (lv_at hl 3 rfl) ?_
      refine lv_iload hx hb d_M_on_73 (lv_at hl 4 rfl) ?_
      refine pq_iadd (a := fr) (b := bk) hx hb d_M_on_75 ?_
      refine pq_icmp_ge (tgt := 137) (a := t) (b := (fr + bk)) hx hb d_M_on_76 (by decide) (by omega) (by omega) (fun c_76 => ?_) (fun c_76 => ?_)
      · refine lv_aload_n hx hb d_M_on_137 rfl (lv_at hl 0 rfl) ?_
        refine lv_iload hx hb d_M_on_138 (lv_at hl 3 rfl) ?_
        refine lv_iload hx hb d_M_on_140 (lv_at hl 4 rfl) ?_
        have hFc := va_free (wc := [(o, .inr (ciM, [.int (th), .int (nI (n)), .ref a1, .ref a2, .ref a3, .ref a4, .ref a5, .int (mo), .int (le)])), (a1, .inl (c1, 40, .inl xh)), (a2, .inl (c2, 40, .inl yr)), (a3, .inl (c3, 40, .inr (.inl xb))), (a4, .inl (c4, 40, .inr (.inl yb))), (a5, .inl (c5, 7400, .inl bz))]) hD hS hA [0, 1, 2, 3, 4, 5] rfl
        refine va_calli (va_runV (As := [.int (nI (fr)), .int (nI (bk))]) (rest := []) ⟨hx, hb, hml, hown, hts⟩ (c_M_settle l dC dI (F := pw_mk 4 f f2 d) (fun j hj => hbz j (by omega)) hfb hbk hEF hn) (cwV 2 hts (gd_V mb_424 mb_426 mb_3 mb_23 mb_427) rfl rfl rfl (by decide +kernel) ⟨Nat.le_of_ble_eq_true rfl, Nat.le_of_ble_eq_true rfl⟩) ⟨md_blind, va_recv hK hP (ci := ciM) (q0 := 0) rfl rfl, fun U hU hW => ⟨rfl, by rw [hU], by rw [hU]; exact hP, va_K.moved hW.alike hK, hD.weaken (fun _ _ _ _ => trivial)⟩⟩ rfl rfl hl.1 rfl (lv_room (Nat.le_of_ble_eq_true rfl)) d_M_on_142 ⟨Nat.le_of_ble_eq_true rfl, Nat.le_of_ble_eq_true rfl⟩) hS (fun q _ h => hFc q h) hFc (fun r_142 u_142 t_ H1 locs ht_ hvm_ hr_142 hB_ hz1_ hk1_ hS => ?_)
        obtain ⟨hP1_, hK1_, hD1_⟩ := hB_
        rw [ht_] at hP1_
        clear hP hD
        have hP := hP1_
        have hD := hD1_.weaken (fun k q _ h => hFc q.1 h)
        generalize H1 = H at hP hS ⊢
        have hP : va_P (dC, dI) vwCl [(o, .inr (ciM, [.int (u_142.1), .int (nI (u_142.2.1)), .ref a1, .ref a2, .ref a3, .ref a4, .ref a5, .int (u_142.2.2.1), .int (u_142.2.2.2.1)])), (a1, .inl (c1, 40, .inl u_142.2.2.2.2.1)), (a2, .inl (c2, 40, .inl u_142.2.2.2.2.2.1)), (a3, .inl (c3, 40, .inr (.inl u_142.2.2.2.2.2.2.1))), (a4, .inl (c4, 40, .inr (.inl u_142.2.2.2.2.2.2.2.1))), (a5, .inl (c5, 7400, .inl u_142.2.2.2.2.2.2.2.2))] H := hP
        have hD : va_D A [(o, .inr (ciM, [.int (u_142.1), .int (nI (u_142.2.1)), .ref a1, .ref a2, .ref a3, .ref a4, .ref a5, .int (u_142.2.2.1), .int (u_142.2.2.2.1)])), (a1, .inl (c1, 40, .inl u_142.2.2.2.2.1)), (a2, .inl (c2, 40, .inl u_142.2.2.2.2.2.1)), (a3, .inl (c3, 40, .inr (.inl u_142.2.2.2.2.2.2.1))), (a4, .inl (c4, 40, .inr (.inl u_142.2.2.2.2.2.2.2.1))), (a5, .inl (c5, 7400, .inl u_142.2.2.2.2.2.2.2.2))] := hD
        exact W.iret (v := (r_142)) hx hb hr (fun t_ ht_ hW_ => ⟨⟨_, u_142, rfl, hr_142, by rw [ht_]; exact hP, va_K.moved hW_.alike hK, hD⟩, hS.F ht_⟩) hS.2.2 d_M_on_145
      · have hcle := pw_c_le f t
        have B_110 : ∀ (x : Nat) (H : Heap) (locs : List Loc) (ls : Array Slot), (x = (pw_mk 4 f f2 d t).toNat) → (va_P (dC, dI) vwCl [(o, .inr (ciM, [.int (th), .int (nI (n)), .ref a1, .ref a2, .ref a3, .ref a4, .ref a5, .int (mo), .int (le)])), (a1, .inl (c1, 40, .inl xh)), (a2, .inl (c2, 40, .inl yr)), (a3, .inl (c3, 40, .inr (.inl xb))), (a4, .inl (c4, 40, .inr (.inl yb))), (a5, .inl (c5, 7400, .inl bz))] H) → (va_D A [(o, .inr (ciM, [.int (th), .int (nI (n)), .ref a1, .ref a2, .ref a3, .ref a4, .ref a5, .int (mo), .int (le)])), (a1, .inl (c1, 40, .inl xh)), (a2, .inl (c2, 40, .inl yr)), (a3, .inl (c3, 40, .inr (.inl xb))), (a4, .inl (c4, 40, .inr (.inl yb))), (a5, .inl (c5, 7400, .inl bz))]) → (va_S A s.heap H locs) → lv_has ls 8 [(0, .ref o), (1, .int (nI (i))), (2, .int (nI (i2))), (4, .int (nI (fr))), (5, .int (nI (bk))), (6, .int (nI (cnt))), (7, .int (nI (t)))] → W p l e (headSpec ws_M_on ({ frames := 2, cells := 0, slots := 0, locals := 49 } : Room)).room s m ([.ref o, .int (nI (i)), .int (nI (i2))]).toArray below meth c H locs 0 0 (MQ below (va_Qi (fun r u => md_set (pw_mk 4 f f2 d) n xh yr xb yb r u ∧ u.1 = th) (md_B dC dI A o a1 a2 a3 a4 a5 c1 c2 c3 c4 c5) A) ([.ref o, .int (nI (i)), .int (nI (i2))]).toArray s 0 0 A) (F0 m 110 ls [.int (nI (x)), .int (nI (t)), .ref a5]) := by
          intro x H locs ls hx2 hP hD hS hl
          refine va_zast hx hb hK hP hD hS 5 4 rfl rfl (vp_in_nI (n := t) (by omega) (by omega)) d_M_on_110 (fun H locs hP hD hS => ?_)
          rw [pq_cl (by omega)] at hP hD
          have hP : va_P (dC, dI) vwCl [(o, .inr (ciM, [.int (th), .int (nI (n)), .ref a1, .ref a2, .ref a3, .ref a4, .ref a5, .int (mo), .int (le)])), (a1, .inl (c1, 40, .inl xh)), (a2, .inl (c2, 40, .inl yr)), (a3, .inl (c3, 40, .inr (.inl xb))), (a4, .inl (c4, 40, .inr (.inl yb))), (a5, .inl (c5, 7400, .inl (upd bz t (vp_nar .boolean (nI (x))))))] H := hP
          have hD : va_D A [(o, .inr (ciM, [.int (th), .int (nI (n)), .ref a1, .ref a2, .ref a3, .ref a4, .ref a5, .int (mo), .int (le)])), (a1, .inl (c1, 40, .inl xh)), (a2, .inl (c2, 40, .inl yr)), (a3, .inl (c3, 40, .inr (.inl xb))), (a4, .inl (c4, 40, .inr (.inl yb))), (a5, .inl (c5, 7400, .inl (upd bz t (vp_nar .boolean (nI (x))))))] := hD
          refine lv_iload hx hb d_M_on_111 (lv_at hl 5 rfl) ?_
          refine lv_aload_n hx hb d_M_on_113 rfl (lv_at hl 0 rfl) ?_
          refine lv_iload_n hx hb d_M_on_114 rfl (lv_at hl 1 rfl) ?_
          refine lv_iload hx hb d_M_on_115 (lv_at hl 6 rfl) ?_
          refine vp_callSi (W.runV (As := [.int (nI (i)), .int (nI (t))]) (rest := [.int (nI (cnt))]) ⟨hx, hb, hml, hown, hts⟩ (c_M_has l dC dI hmd (t := t) (by omega)) (cwV 2 hts (gd_V mb_455 mb_457 mb_9 mb_23 mb_458) rfl rfl rfl (by decide +kernel) ⟨Nat.le_of_ble_eq_true rfl, Nat.le_of_ble_eq_true rfl⟩) (pw_R_V (va_recv hK hP (ci := ciM) (q0 := 0) rfl rfl) hP hK) rfl rfl hl.1 rfl (lv_room (Nat.le_of_ble_eq_true rfl)) d_M_on_117 ⟨Nat.le_of_ble_eq_true rfl, Nat.le_of_ble_eq_true rfl⟩) (fun r_117 hr_117 => ?_)
          subst hr_117
          refine pq_if_eq (tgt := 127) (a := ((f t).toNat)) hx hb d_M_on_120 (by decide) (by have := pw_lt2 (f t); omega) (fun c_120 => ?_) (fun c_120 => ?_)
          · refine lv_iconst (v := nI 0) hx hb d_M_on_127 (by decide) ?_
            refine pq_iadd (a := cnt) (b := 0) hx hb d_M_on_128 ?_
            refine lv_istore (lv' := [(6, .int (nI (cnt + 0))), (0, .ref o), (1, .int (nI (i))), (2, .int (nI (i2))), (4, .int (nI (fr))), (5, .int (nI (bk))), (7, .int (nI (t)))]) hx hb d_M_on_129 hl (by decide) rfl (fun ls hl => ?_)
            refine lv_iinc (v := nI (t + 1)) (lv' := [(7, .int (nI (t + 1))), (6, .int (nI (cnt + 0))), (0, .ref o), (1, .int (nI (i))), (2, .int (nI (i2))), (4, .int (nI (fr))), (5, .int (nI (bk)))]) hx hb d_M_on_131 hl (k := 6) rfl (pq_inc _) (by decide) rfl (fun ls hl => ?_)
            refine lv_goto (tgt := 69) hx hb d_M_on_134 (by decide) ?_
            exact ih_69 (fr) (bk) (cnt + 0) (t + 1) (upd bz t (vp_nar .boolean (nI (x)))) _ _ ls (by omega) hfb hbk hEF (by omega) (by rw [pw_c_s, ← hcnt]; have := pw_lt2 (f t); omega) (md_put hbz hx2) hP hD hS (lv_sub hl [2, 3, 4, 5, 6, 1, 0] rfl)
          · refine lv_iconst (v := nI 1) hx hb d_M_on_123 (by decide) ?_
            refine lv_goto (tgt := 128) hx hb d_M_on_124 (by decide) ?_
            refine pq_iadd (a := cnt) (b := 1) hx hb d_M_on_128 ?_
            refine lv_istore (lv' := [(6, .int (nI (cnt + 1))), (0, .ref o), (1, .int (nI (i))), (2, .int (nI (i2))), (4, .int (nI (fr))), (5, .int (nI (bk))), (7, .int (nI (t)))]) hx hb d_M_on_129 hl (by decide) rfl (fun ls hl => ?_)
            refine lv_iinc (v := nI (t + 1)) (lv' := [(7, .int (nI (t + 1))), (6, .int (nI (cnt + 1))), (0, .ref o), (1, .int (nI (i))), (2, .int (nI (i2))), (4, .int (nI (fr))), (5, .int (nI (bk)))]) hx hb d_M_on_131 hl (k := 6) rfl (pq_inc _) (by decide) rfl (fun ls hl => ?_)
            refine lv_goto (tgt := 69) hx hb d_M_on_134 (by decide) ?_
            exact ih_69 (fr) (bk) (cnt + 1) (t + 1) (upd bz t (vp_nar .boolean (nI (x)))) _ _ ls (by omega) hfb hbk hEF (by omega) (by rw [pw_c_s, ← hcnt]; have := pw_lt2 (f t); omega) (md_put hbz hx2) hP hD hS (lv_sub hl [2, 3, 4, 5, 6, 1, 0] rfl)
        refine lv_aload_n hx hb d_M_on_79 rfl (lv_at hl 0 rfl) ?_
        refine va_get (D := (dC, dI)) (ci := ciM) (v := .ref a5) (C := R_M) (T := F_M) (N := 9) hx hb hts (fun w h => List.mem_cons_of_mem _ (in_M w h)) hown hK hP 0 rfl rfl 6 (by decide) (hts (.fieldLink R_M 23 "PeriodWordsModel" "bits" "[Z") (List.mem_cons_of_mem _ mb_389)) (fun _ h9 => h9) rfl d_M_on_80 ?_
        refine lv_iload hx hb d_M_on_83 (lv_at hl 6 rfl) ?_
        refine lv_aload_n hx hb d_M_on_85 rfl (lv_at hl 0 rfl) ?_
        refine lv_iload_n hx hb d_M_on_86 rfl (lv_at hl 1 rfl) ?_
        refine lv_iload hx hb d_M_on_87 (lv_at hl 6 rfl) ?_
        refine vp_callSi (W.runV (As := [.int (nI (i)), .int (nI (t))]) (rest := [.int (nI (t)), .ref a5]) ⟨hx, hb, hml, hown, hts⟩ (c_M_has l dC dI hmd (t := t) (by omega)) (cwV 2 hts (gd_V mb_455 mb_457 mb_9 mb_23 mb_458) rfl rfl rfl (by decide +kernel) ⟨Nat.le_of_ble_eq_true rfl, Nat.le_of_ble_eq_true rfl⟩) (pw_R_V (va_recv hK hP (ci := ciM) (q0 := 0) rfl rfl) hP hK) rfl rfl hl.1 rfl (lv_room (Nat.le_of_ble_eq_true rfl)) d_M_on_89 ⟨Nat.le_of_ble_eq_true rfl, Nat.le_of_ble_eq_true rfl⟩) (fun r_89 hr_89 => ?_)
        subst hr_89
        refine pq_if_eq (tgt := 109) (a := ((f t).toNat)) hx hb d_M_on_92 (by decide) (by have := pw_lt2 (f t); omega) (fun c_92 => ?_) (fun c_92 => ?_)
        · refine lv_iconst (v := nI 0) hx hb d_M_on_109 (by decide) ?_
          exact B_110 (0) _ _ ls (by show _ = (f t && f2 (pw_c f t)).toNat; rw [← hcnt]; rcases pw_bt (f t) with q | q <;> rcases pw_bt (f2 cnt) with q2 | q2 <;> rw [q.2, q2.2] <;> first | rfl | (exfalso; omega)) hP hD hS (lv_sub hl [0, 1, 2, 3, 4, 5, 6] rfl)
        · refine lv_aload_n hx hb d_M_on_95 rfl (lv_at hl 0 rfl) ?_
          refine lv_iload_n hx hb d_M_on_96 rfl (lv_at hl 2 rfl) ?_
          refine lv_iload hx hb d_M_on_97 (lv_at hl 5 rfl) ?_
          refine vp_callSi (W.runV (As := [.int (nI (i2)), .int (nI (cnt))]) (rest := [.int (nI (t)), .ref a5]) ⟨hx, hb, hml, hown, hts⟩ (c_M_has l dC dI hmd2 (t := cnt) (by omega)) (cwV 2 hts (gd_V mb_455 mb_457 mb_9 mb_23 mb_458) rfl rfl rfl (by decide +kernel) ⟨Nat.le_of_ble_eq_true rfl, Nat.le_of_ble_eq_true rfl⟩) (pw_R_V (va_recv hK hP (ci := ciM) (q0 := 0) rfl rfl) hP hK) rfl rfl hl.1 rfl (lv_room (Nat.le_of_ble_eq_true rfl)) d_M_on_99 ⟨Nat.le_of_ble_eq_true rfl, Nat.le_of_ble_eq_true rfl⟩) (fun r_99 hr_99 => ?_)
          subst hr_99
          refine pq_if_eq (tgt := 109) (a := ((f2 cnt).toNat)) hx hb d_M_on_102 (by decide) (by have := pw_lt2 (f2 cnt); omega) (fun c_102 => ?_) (fun c_102 => ?_)
          · refine lv_iconst (v := nI 0) hx hb d_M_on_109 (by decide) ?_
            exact B_110 (0) _ _ ls (by show _ = (f t && f2 (pw_c f t)).toNat; rw [← hcnt]; rcases pw_bt (f t) with q | q <;> rcases pw_bt (f2 cnt) with q2 | q2 <;> rw [q.2, q2.2] <;> first | rfl | (exfalso; omega)) hP hD hS (lv_sub hl [0, 1, 2, 3, 4, 5, 6] rfl)
          · refine lv_iconst (v := nI 1) hx hb d_M_on_105 (by decide) ?_
            refine lv_goto (tgt := 110) hx hb d_M_on_106 (by decide) ?_
            exact B_110 (1) _ _ ls (by show _ = (f t && f2 (pw_c f t)).toNat; rw [← hcnt]; rcases pw_bt (f t) with q | q <;> rcases pw_bt (f2 cnt) with q2 | q2 <;> rw [q.2, q2.2] <;> first | rfl | (exfalso; omega)) hP hD hS (lv_sub hl [0, 1, 2, 3, 4, 5, 6] rfl)
  refine lv_aload_n hx hb d_M_on_0 rfl (lv_at hl 0 rfl) ?_
  refine lv_iload_n hx hb d_M_on_1 rfl (lv_at hl 1 rfl) ?_
  refine vp_callSi (W.runV (As := [.int (nI (i))]) (rest := []) ⟨hx, hb, hml, hown, hts⟩ (c_M_inRing l dC dI hmd) (cwV 1 hts (gd_V mb_440 mb_442 mb_6 mb_23 mb_443) rfl rfl rfl (by decide +kernel) ⟨Nat.le_of_ble_eq_true rfl, Nat.le_of_ble_eq_true rfl⟩) (pw_R_V (va_recv hK hP (ci := ciM) (q0 := 0) rfl rfl) hP hK) rfl rfl hl.1 rfl (lv_room (Nat.le_of_ble_eq_true rfl)) d_M_on_2 ⟨Nat.le_of_ble_eq_true rfl, Nat.le_of_ble_eq_true rfl⟩) (fun r_2 hr_2 => ?_)
  subst hr_2
  refine pq_if_ne (tgt := 12) (a := (pw_o f h pp)) hx hb d_M_on_5 (by decide) (by omega) (fun c_5 => ?_) (fun c_5 => ?_)
  · refine lv_iconst (v := nI 0) hx hb d_M_on_12 (by decide) ?_
    refine lv_istore_n (lv' := [(3, .int (nI (0))), (0, .ref o), (1, .int (nI (i))), (2, .int (nI (i2)))]) hx hb d_M_on_13 rfl hl (by decide) rfl (fun ls hl => ?_)
    refine lv_aload_n hx hb d_M_on_14 rfl (lv_at hl 1 rfl) ?_
    refine va_get (D := (dC, dI)) (ci := ciM) (v := .ref a1) (C := R_M) (T := F_M) (N := 9) hx hb hts (fun w h => List.mem_cons_of_mem _ (in_M w h)) hown hK hP 0 rfl rfl 2 (by decide) (hts (.fieldLink R_M 7 "PeriodWordsModel" "head" "[I") (List.mem_cons_of_mem _ mb_385)) (fun _ h9 => h9) rfl d_M_on_15 ?_
    refine lv_iload_n hx hb d_M_on_18 rfl (lv_at hl 2 rfl) ?_
    refine va_iald hx hb hK hP 1 0 rfl rfl (vp_in_nI (n := i) (by omega) (by omega)) d_M_on_19 ?_
    refine pq_top (y := .int (xh i)) (by rw [pq_cl (by omega)]) ?_
    refine pq_top (y := .int (nI (h))) (by rw [e1]) ?_
    refine lv_iload_n hx hb d_M_on_20 rfl (lv_at hl 0 rfl) ?_
    refine pq_if_eq (tgt := 28) (a := 0) hx hb d_M_on_21 (by decide) (by omega) (fun c_21 => ?_) (fun c_21 => absurd c_21 (by omega))
    refine lv_bipush (v := nI 60) hx hb d_M_on_28 (by decide) ?_
    refine lv_aload_n hx hb d_M_on_30 rfl (lv_at hl 1 rfl) ?_
    refine va_get (D := (dC, dI)) (ci := ciM) (v := .ref a2) (C := R_M) (T := F_M) (N := 9) hx hb hts (fun w h => List.mem_cons_of_mem _ (in_M w h)) hown hK hP 0 rfl rfl 3 (by decide) (hts (.fieldLink R_M 13 "PeriodWordsModel" "ring" "[I") (List.mem_cons_of_mem _ mb_386)) (fun _ h9 => h9) rfl d_M_on_31 ?_
    refine lv_iload_n hx hb d_M_on_34 rfl (lv_at hl 2 rfl) ?_
    refine va_iald hx hb hK hP 2 1 rfl rfl (vp_in_nI (n := i) (by omega) (by omega)) d_M_on_35 ?_
    refine pq_top (y := .int (yr i)) (by rw [pq_cl (by omega)]) ?_
    refine pq_top (y := .int (nI (pp))) (by rw [e2]) ?_
    refine pq_imul (a := 60) (b := pp) hx hb d_M_on_36 ?_
    refine pq_iadd (a := h) (b := (60 * pp)) hx hb d_M_on_37 ?_
    refine lv_istore (lv' := [(4, .int (nI (h + (60 * pp)))), (3, .int (nI (0))), (0, .ref o), (1, .int (nI (i))), (2, .int (nI (i2)))]) hx hb d_M_on_38 hl (by decide) rfl (fun ls hl => ?_)
    refine lv_iload_n hx hb d_M_on_40 rfl (lv_at hl 1 rfl) ?_
    refine pq_if_eq (tgt := 48) (a := 0) hx hb d_M_on_41 (by decide) (by omega) (fun c_41 => ?_) (fun c_41 => absurd c_41 (by omega))
    refine lv_aload_n hx hb d_M_on_48 rfl (lv_at hl 2 rfl) ?_
    refine va_get (D := (dC, dI)) (ci := ciM) (v := .ref a2) (C := R_M) (T := F_M) (N := 9) hx hb hts (fun w h => List.mem_cons_of_mem _ (in_M w h)) hown hK hP 0 rfl rfl 3 (by decide) (hts (.fieldLink R_M 13 "PeriodWordsModel" "ring" "[I") (List.mem_cons_of_mem _ mb_386)) (fun _ h9 => h9) rfl d_M_on_49 ?_
    refine lv_iload_n hx hb d_M_on_52 rfl (lv_at hl 3 rfl) ?_
    refine va_iald hx hb hK hP 2 1 rfl rfl (vp_in_nI (n := i) (by omega) (by omega)) d_M_on_53 ?_
    refine pq_top (y := .int (yr i)) (by rw [pq_cl (by omega)]) ?_
    refine pq_top (y := .int (nI (pp))) (by rw [e2]) ?_
    refine lv_aload_n hx hb d_M_on_54 rfl (lv_at hl 2 rfl) ?_
    refine va_get (D := (dC, dI)) (ci := ciM) (v := .ref a2) (C := R_M) (T := F_M) (N := 9) hx hb hts (fun w h => List.mem_cons_of_mem _ (in_M w h)) hown hK hP 0 rfl rfl 3 (by decide) (hts (.fieldLink R_M 13 "PeriodWordsModel" "ring" "[I") (List.mem_cons_of_mem _ mb_386)) (fun _ h9 => h9) rfl d_M_on_55 ?_
    refine lv_iload_n hx hb d_M_on_58 rfl (lv_at hl 4 rfl) ?_
    refine va_iald hx hb hK hP 2 1 rfl rfl (vp_in_nI (n := i2) (by omega) (by omega)) d_M_on_59 ?_
    refine pq_top (y := .int (yr i2)) (by rw [pq_cl (by omega)]) ?_
    refine pq_top (y := .int (nI (pp2))) (by rw [e22]) ?_
    refine pq_imul (a := pp) (b := pp2) hx hb d_M_on_60 ?_
    refine lv_istore (lv' := [(5, .int (nI (pp * pp2))), (4, .int (nI (h + (60 * pp)))), (3, .int (nI (0))), (0, .ref o), (1, .int (nI (i))), (2, .int (nI (i2)))]) hx hb d_M_on_61 hl (by decide) rfl (fun ls hl => ?_)
    refine lv_iconst (v := nI 0) hx hb d_M_on_63 (by decide) ?_
    refine lv_istore (lv' := [(6, .int (nI (0))), (5, .int (nI (pp * pp2))), (4, .int (nI (h + (60 * pp)))), (3, .int (nI (0))), (0, .ref o), (1, .int (nI (i))), (2, .int (nI (i2)))]) hx hb d_M_on_64 hl (by decide) rfl (fun ls hl => ?_)
    refine lv_iconst (v := nI 0) hx hb d_M_on_66 (by decide) ?_
    refine lv_istore (lv' := [(7, .int (nI (0))), (6, .int (nI (0))), (5, .int (nI (pp * pp2))), (4, .int (nI (h + (60 * pp)))), (3, .int (nI (0))), (0, .ref o), (1, .int (nI (i))), (2, .int (nI (i2)))]) hx hb d_M_on_67 hl (by decide) rfl (fun ls hl => ?_)
    exact B_69 _ (h + (60 * pp)) (pp * pp2) (0) (0) (bs) _ _ ls (Nat.lt_succ_self _) (by omega) (by first | omega | exact Nat.mul_pos hp0 hp02) (by first | exact pw_E_on0 hE hp0 c_5 f2 1 | exact pw_E_onM hE hp0 hE2 c_5 hh2) (by omega) rfl (fun j hj => absurd hj (Nat.not_lt_zero j)) hP hD hS (lv_sub hl [5, 6, 7, 3, 2, 1, 0] rfl)
  · refine lv_iconst (v := nI 1) hx hb d_M_on_8 (by decide) ?_
    refine lv_goto (tgt := 13) hx hb d_M_on_9 (by decide) ?_
    refine lv_istore_n (lv' := [(3, .int (nI (1))), (0, .ref o), (1, .int (nI (i))), (2, .int (nI (i2)))]) hx hb d_M_on_13 rfl hl (by decide) rfl (fun ls hl => ?_)
    refine lv_aload_n hx hb d_M_on_14 rfl (lv_at hl 1 rfl) ?_
    refine va_get (D := (dC, dI)) (ci := ciM) (v := .ref a1) (C := R_M) (T := F_M) (N := 9) hx hb hts (fun w h => List.mem_cons_of_mem _ (in_M w h)) hown hK hP 0 rfl rfl 2 (by decide) (hts (.fieldLink R_M 7 "PeriodWordsModel" "head" "[I") (List.mem_cons_of_mem _ mb_385)) (fun _ h9 => h9) rfl d_M_on_15 ?_
    refine lv_iload_n hx hb d_M_on_18 rfl (lv_at hl 2 rfl) ?_
    refine va_iald hx hb hK hP 1 0 rfl rfl (vp_in_nI (n := i) (by omega) (by omega)) d_M_on_19 ?_
    refine pq_top (y := .int (xh i)) (by rw [pq_cl (by omega)]) ?_
    refine pq_top (y := .int (nI (h))) (by rw [e1]) ?_
    refine lv_iload_n hx hb d_M_on_20 rfl (lv_at hl 0 rfl) ?_
    refine pq_if_eq (tgt := 28) (a := 1) hx hb d_M_on_21 (by decide) (by omega) (fun c_21 => absurd c_21 (by omega)) (fun c_21 => ?_)
    refine lv_iconst (v := nI 0) hx hb d_M_on_24 (by decide) ?_
    refine lv_goto (tgt := 37) hx hb d_M_on_25 (by decide) ?_
    refine pq_iadd (a := h) (b := 0) hx hb d_M_on_37 ?_
    refine lv_istore (lv' := [(4, .int (nI (h + 0))), (3, .int (nI (1))), (0, .ref o), (1, .int (nI (i))), (2, .int (nI (i2)))]) hx hb d_M_on_38 hl (by decide) rfl (fun ls hl => ?_)
    refine lv_iload_n hx hb d_M_on_40 rfl (lv_at hl 1 rfl) ?_
    refine pq_if_eq (tgt := 48) (a := 1) hx hb d_M_on_41 (by decide) (by omega) (fun c_41 => absurd c_41 (by omega)) (fun c_41 => ?_)
    refine lv_iconst (v := nI 1) hx hb d_M_on_44 (by decide) ?_
    refine lv_goto (tgt := 61) hx hb d_M_on_45 (by decide) ?_
    refine lv_istore (lv' := [(5, .int (nI (1))), (4, .int (nI (h + 0))), (3, .int (nI (1))), (0, .ref o), (1, .int (nI (i))), (2, .int (nI (i2)))]) hx hb d_M_on_61 hl (by decide) rfl (fun ls hl => ?_)
    refine lv_iconst (v := nI 0) hx hb d_M_on_63 (by decide) ?_
    refine lv_istore (lv' := [(6, .int (nI (0))), (5, .int (nI (1))), (4, .int (nI (h + 0))), (3, .int (nI (1))), (0, .ref o), (1, .int (nI (i))), (2, .int (nI (i2)))]) hx hb d_M_on_64 hl (by decide) rfl (fun ls hl => ?_)
    refine lv_iconst (v := nI 0) hx hb d_M_on_66 (by decide) ?_
    refine lv_istore (lv' := [(7, .int (nI (0))), (6, .int (nI (0))), (5, .int (nI (1))), (4, .int (nI (h + 0))), (3, .int (nI (1))), (0, .ref o), (1, .int (nI (i))), (2, .int (nI (i2)))]) hx hb d_M_on_67 hl (by decide) rfl (fun ls hl => ?_)
    exact B_69 _ (h + 0) (1) (0) (0) (bs) _ _ ls (Nat.lt_succ_self _) (by omega) (by first | omega | exact Nat.mul_pos hp0 hp02) (by first | exact pw_E_on0 hE hp0 c_5 f2 1 | exact pw_E_onM hE hp0 hE2 c_5 hh2) (by omega) rfl (fun j hj => absurd hj (Nat.not_lt_zero j)) hP hD hS (lv_sub hl [5, 6, 7, 3, 2, 1, 0] rfl)
set_option maxHeartbeats 4000000 in
set_option maxRecDepth 100000 in
theorem c_M_by (l : Launch) (dC : Nat → ClassId) (dI : Nat → Nat → Nat) {sz : Nat} {o a1 a2 a3 a4 a5 : Nat} {c1 c2 c3 c4 c5 : ClassId} {th mo le : Int32} {n : Nat} {xh yr : Nat → Int32} {xb yb : Nat → Int64} {bs : Nat → Int32} {i h pp : Nat} {f : Nat → Bool} (hmd : md_at xh yr xb yb i h pp f) {i2 h2 pp2 : Nat} {f2 : Nat → Bool} (hmd2 : md_at xh yr xb yb i2 h2 pp2 f2) {d : Nat} (hob : 0 < pw_o f2 h2 pp2) (hn : n < 40) : Met l y_M_by ws_M_by ({ frames := 2, cells := 0, slots := 0, locals := 49 } : Room) (md_Pre [.ref o, .int (nI (i)), .int (nI (i2))] dC dI sz (mdT c1 c2 c3 c4 c5) (md o a1 a2 a3 a4 a5 c1 c2 c3 c4 c5 th n mo le xh yr xb yb bs)) (va_Qi (fun r u => md_set (pw_mk 5 f f2 d) n xh yr xb yb r u ∧ u.1 = th) (md_B dC dI (va_A (md o a1 a2 a3 a4 a5 c1 c2 c3 c4 c5 th n mo le xh yr xb yb bs) sz) o a1 a2 a3 a4 a5 c1 c2 c3 c4 c5) (va_A (md o a1 a2 a3 a4 a5 c1 c2 c3 c4 c5 th n mo le xh yr xb yb bs) sz)) 0 0 (va_A (md o a1 a2 a3 a4 a5 c1 c2 c3 c4 c5 th n mo le xh yr xb yb bs) sz) := by
  refine Met.ofW (cc := b_M_by) (maxL := 8) (ret := (some .int)) (by decide) rfl ?_
  intro p e s m args below meth c s₁ B hml hv
  obtain ⟨rfl, hsz, hP, hK, hD0⟩ := hv
  have hx := B.exec
  have hb := B.bytes
  have hr := B.returns
  have hts := atoms_spec (ws := ws_M_by) B.pre
  have hown : s.vm.findClass R_M = some m.cls := findClass_of_methodNamed B.named
  have hlocks := B.notSynchronized
  subst hsz
  have hD := hD0.self (sz := s.heap.size)
  generalize hAe : va_A (md o a1 a2 a3 a4 a5 c1 c2 c3 c4 c5 th n mo le xh yr xb yb bs) s.heap.size = A at hD ⊢
  have hA : ∀ q : Nat, s.heap.size ≤ q → A q := fun q h => by rw [← hAe]; exact Or.inr h
  have hS : va_S A s.heap s.heap [] := va_S.rf
  have hmd_ := hmd; obtain ⟨hi, e1, e2, e3, e4, hok⟩ := hmd_; have hok_ := hok; obtain ⟨hh, hp0, hp6, hE⟩ := hok_
  have ho := pw_o_le f h pp
  have hc := pw_c_le f h
  have hb0 := pq_lt60 (pw_b_lt f 0 h) hh
  have hb1 := pq_lt60 (pw_b_lt f h pp) hp6
  have hmd2_ := hmd2; obtain ⟨hi2, e12, e22, e32, e42, hok2⟩ := hmd2_; have hok2_ := hok2; obtain ⟨hh2, hp02, hp62, hE2⟩ := hok2_
  have ho2 := pw_o_le f2 h2 pp2
  have hc2 := pw_c_le f2 h2
  have hb02 := pq_lt60 (pw_b_lt f2 0 h2) hh2
  have hb12 := pq_lt60 (pw_b_lt f2 h2 pp2) hp62
  have mm : pw_o f2 h2 pp2 * pp ≤ 60 * 60 := Nat.mul_le_mul (by omega) hp6
  have mm0 : 0 < pw_o f2 h2 pp2 * pp := Nat.mul_pos hob hp0
  have hl := lv_entry ([.ref o, .int (nI (i)), .int (nI (i2))]) (n := 8) (Nat.le_of_ble_eq_true rfl)
  rw [lg_entry_eq]
  generalize (lg_sl ([.ref o, .int (nI (i)), .int (nI (i2))]) ++ List.replicate (8 - (lg_sl ([.ref o, .int (nI (i)), .int (nI (i2))])).length) Slot.unset).toArray = ls at hl ⊢
  have hl : lv_has ls 8 [(0, .ref o), (1, .int (nI (i))), (2, .int (nI (i2)))] := hl
  refine lv_aload_n hx hb d_M_by_0 rfl (lv_at hl 0 rfl) ?_
  refine va_get (D := (dC, dI)) (ci := ciM) (v := .ref a1) (C := R_M) (T := F_M) (N := 9) hx hb hts (fun w h => List.mem_cons_of_mem _ (in_M w h)) hown hK hP 0 rfl rfl 2 (by decide) (hts (.fieldLink R_M 7 "PeriodWordsModel" "head" "[I") (List.mem_cons_of_mem _ mb_385)) (fun _ h9 => h9) rfl d_M_by_1 ?_
  refine lv_iload_n hx hb d_M_by_4 rfl (lv_at hl 1 rfl) ?_
  refine va_iald hx hb hK hP 1 0 rfl rfl (vp_in_nI (n := i) (by omega) (by omega)) d_M_by_5 ?_
  refine pq_top (y := .int (xh i)) (by rw [pq_cl (by omega)]) ?_
  refine pq_top (y := .int (nI (h))) (by rw [e1]) ?_
  refine lv_aload_n hx hb d_M_by_6 rfl (lv_at hl 0 rfl) ?_
  refine va_get (D := (dC, dI)) (ci := ciM) (v := .ref a1) (C := R_M) (T := F_M) (N := 9) hx hb hts (fun w h => List.mem_cons_of_mem _ (in_M w h)) hown hK hP 0 rfl rfl 2 (by decide) (hts (.fieldLink R_M 7 "PeriodWordsModel" "head" "[I") (List.mem_cons_of_mem _ mb_385)) (fun _ h9 => h9) rfl d_M_by_7 ?_
  refine lv_iload_n hx hb d_M_by_10 rfl (lv_at hl 2 rfl) ?_
  refine va_iald hx hb hK hP 1 0 rfl rfl (vp_in_nI (n := i2) (by omega) (by omega)) d_M_by_11 ?_
  refine pq_top (y := .int (xh i2)) (by rw [pq_cl (by omega)]) ?_
  refine pq_top (y := .int (nI (h2))) (by rw [e12]) ?_
  refine vp_callSi (W.runS (As := [.int (nI (h)), .int (nI (h2))]) (rest := []) ⟨hx, hb, hml, hown, hts⟩ (c_M_greater l dC dI (x := h) (y := h2) (by omega) (by omega)) (va_cwS 2 hts (gd_S mb_467 mb_468 mb_23 mb_469) rfl rfl rfl (by decide +kernel) ⟨Nat.le_of_ble_eq_true rfl, Nat.le_of_ble_eq_true rfl⟩) (pw_R_S pw_P0 (hK.sub [] rfl)) rfl rfl hl.1 rfl (lv_room (Nat.le_of_ble_eq_true rfl)) d_M_by_12 ⟨Nat.le_of_ble_eq_true rfl, Nat.le_of_ble_eq_true rfl⟩) (fun r_12 hr_12 => ?_)
  subst hr_12
  refine lv_istore_n (lv' := [(3, .int (nI (max h h2))), (0, .ref o), (1, .int (nI (i))), (2, .int (nI (i2)))]) hx hb d_M_by_15 rfl hl (by decide) rfl (fun ls hl => ?_)
  refine lv_iconst (v := nI 0) hx hb d_M_by_16 (by decide) ?_
  refine lv_istore (lv' := [(4, .int (nI (0))), (3, .int (nI (max h h2))), (0, .ref o), (1, .int (nI (i))), (2, .int (nI (i2)))]) hx hb d_M_by_17 hl (by decide) rfl (fun ls hl => ?_)
  refine lv_iconst (v := nI 0) hx hb d_M_by_19 (by decide) ?_
  refine lv_istore (lv' := [(5, .int (nI (0))), (4, .int (nI (0))), (3, .int (nI (max h h2))), (0, .ref o), (1, .int (nI (i))), (2, .int (nI (i2)))]) hx hb d_M_by_20 hl (by decide) rfl (fun ls hl => ?_)
  have B_22 : ∀ (k_ : Nat) (fr : Nat) (t : Nat) (H : Heap) (locs : List Loc) (ls : Array Slot), (max h h2 - t) < k_ → (t ≤ max h h2) → (fr = pw_c f2 t) → (fr ≤ t) → (va_P (dC, dI) vwCl [(o, .inr (ciM, [.int (th), .int (nI (n)), .ref a1, .ref a2, .ref a3, .ref a4, .ref a5, .int (mo), .int (le)])), (a1, .inl (c1, 40, .inl xh)), (a2, .inl (c2, 40, .inl yr)), (a3, .inl (c3, 40, .inr (.inl xb))), (a4, .inl (c4, 40, .inr (.inl yb))), (a5, .inl (c5, 7400, .inl bs))] H) → (va_D A [(o, .inr (ciM, [.int (th), .int (nI (n)), .ref a1, .ref a2, .ref a3, .ref a4, .ref a5, .int (mo), .int (le)])), (a1, .inl (c1, 40, .inl xh)), (a2, .inl (c2, 40, .inl yr)), (a3, .inl (c3, 40, .inr (.inl xb))), (a4, .inl (c4, 40, .inr (.inl yb))), (a5, .inl (c5, 7400, .inl bs))]) → (va_S A s.heap H locs) → lv_has ls 8 [(0, .ref o), (1, .int (nI (i))), (2, .int (nI (i2))), (3, .int (nI (max h h2))), (4, .int (nI (fr))), (5, .int (nI (t)))] → W p l e (headSpec ws_M_by ({ frames := 2, cells := 0, slots := 0, locals := 49 } : Room)).room s m ([.ref o, .int (nI (i)), .int (nI (i2))]).toArray below meth c H locs 0 0 (MQ below (va_Qi (fun r u => md_set (pw_mk 5 f f2 d) n xh yr xb yb r u ∧ u.1 = th) (md_B dC dI A o a1 a2 a3 a4 a5 c1 c2 c3 c4 c5) A) ([.ref o, .int (nI (i)), .int (nI (i2))]).toArray s 0 0 A) (F0 m 22 ls []) := by
    intro k_
    induction k_ with
    | zero => intro fr t H locs ls h_; omega
    | succ k_ ih_22 =>
      intro fr t H locs ls hm_ ht hfr hfl hP hD hS hl
      refine lv_iload hx hb d_M_by_22 (lv_at hl 5 rfl) ?_
      refine lv_iload_n hx hb d_M_by_24 rfl (lv_at hl 3 rfl) ?_
      refine pq_icmp_ge (tgt := 54) (a := t) (b := (max h h2)) hx hb d_M_by_25 (by decide) (by omega) (by omega) (fun c_25 => ?_) (fun c_25 => ?_)
      · have hfr2 : fr = pw_c f2 (max h h2) := by rw [hfr, show t = max h h2 by omega]
        have hEF : pw_E (pw_mk 5 f f2 d) fr (pw_o f2 h2 pp2 * pp) := by rw [hfr2]; exact pw_E_byM hE hE2 hp02 hob
        have hfle := pw_c_le f2 (max h h2)
        obtain ⟨T, hTe⟩ : ∃ T, T = pw_tk f2 (fr + pw_o f2 h2 pp2 * pp) := ⟨_, rfl⟩
        have hTN : pw_N f2 (fr + pw_o f2 h2 pp2 * pp) T := by rw [hTe]; exact pw_tk_N ((pw_has hE2 hp02 (by omega)).mpr (Or.inl hob))
        have hTb : T < 1000000 := by
          have a := pw_tk_le hE2 hp02 (show 0 < fr + pw_o f2 h2 pp2 * pp by omega) (Or.inl hob)
          have b : (fr + pw_o f2 h2 pp2 * pp) * pp2 ≤ 7200 * 60 := Nat.mul_le_mul (by omega) hp62
          omega
        refine lv_aload_n hx hb d_M_by_54 rfl (lv_at hl 0 rfl) ?_
        refine lv_iload_n hx hb d_M_by_55 rfl (lv_at hl 2 rfl) ?_
        refine vp_callSi (W.runV (As := [.int (nI (i2))]) (rest := []) ⟨hx, hb, hml, hown, hts⟩ (c_M_inRing l dC dI hmd2) (cwV 1 hts (gd_V mb_440 mb_442 mb_6 mb_23 mb_443) rfl rfl rfl (by decide +kernel) ⟨Nat.le_of_ble_eq_true rfl, Nat.le_of_ble_eq_true rfl⟩) (pw_R_V (va_recv hK hP (ci := ciM) (q0 := 0) rfl rfl) hP hK) rfl rfl hl.1 rfl (lv_room (Nat.le_of_ble_eq_true rfl)) d_M_by_56 ⟨Nat.le_of_ble_eq_true rfl, Nat.le_of_ble_eq_true rfl⟩) (fun r_56 hr_56 => ?_)
        subst hr_56
        refine lv_aload_n hx hb d_M_by_59 rfl (lv_at hl 0 rfl) ?_
        refine va_get (D := (dC, dI)) (ci := ciM) (v := .ref a2) (C := R_M) (T := F_M) (N := 9) hx hb hts (fun w h => List.mem_cons_of_mem _ (in_M w h)) hown hK hP 0 rfl rfl 3 (by decide) (hts (.fieldLink R_M 13 "PeriodWordsModel" "ring" "[I") (List.mem_cons_of_mem _ mb_386)) (fun _ h9 => h9) rfl d_M_by_60 ?_
        refine lv_iload_n hx hb d_M_by_63 rfl (lv_at hl 1 rfl) ?_
        refine va_iald hx hb hK hP 2 1 rfl rfl (vp_in_nI (n := i) (by omega) (by omega)) d_M_by_64 ?_
        refine pq_top (y := .int (yr i)) (by rw [pq_cl (by omega)]) ?_
        refine pq_top (y := .int (nI (pp))) (by rw [e2]) ?_
        refine pq_imul (a := (pw_o f2 h2 pp2)) (b := pp) hx hb d_M_by_65 ?_
        refine lv_istore (lv' := [(5, .int (nI ((pw_o f2 h2 pp2) * pp))), (0, .ref o), (1, .int (nI (i))), (2, .int (nI (i2))), (3, .int (nI (max h h2))), (4, .int (nI (fr)))]) hx hb d_M_by_66 hl (by decide) rfl (fun ls hl => ?_)
        refine lv_iconst (v := nI 0) hx hb d_M_by_68 (by decide) ?_
        refine lv_istore (lv' := [(6, .int (nI (0))), (5, .int (nI ((pw_o f2 h2 pp2) * pp))), (0, .ref o), (1, .int (nI (i))), (2, .int (nI (i2))), (3, .int (nI (max h h2))), (4, .int (nI (fr)))]) hx hb d_M_by_69 hl (by decide) rfl (fun ls hl => ?_)
        refine lv_iconst (v := nI 0) hx hb d_M_by_71 (by decide) ?_
        refine lv_istore (lv' := [(7, .int (nI (0))), (6, .int (nI (0))), (5, .int (nI ((pw_o f2 h2 pp2) * pp))), (0, .ref o), (1, .int (nI (i))), (2, .int (nI (i2))), (3, .int (nI (max h h2))), (4, .int (nI (fr)))]) hx hb d_M_by_72 hl (by decide) rfl (fun ls hl => ?_)
        have B_74 : ∀ (k_ : Nat) (cnt : Nat) (t : Nat) (bz : Nat → Int32) (H : Heap) (locs : List Loc) (ls : Array Slot), (T + 1 - t) < k_ → (t ≤ T + 1) → (cnt = pw_c f2 t) → (cnt ≤ fr + pw_o f2 h2 pp2 * pp) → (∀ j, j < cnt → bz j = nI (pw_mk 5 f f2 d j).toNat) → (va_P (dC, dI) vwCl [(o, .inr (ciM, [.int (th), .int (nI (n)), .ref a1, .ref a2, .ref a3, .ref a4, .ref a5, .int (mo), .int (le)])), (a1, .inl (c1, 40, .inl xh)), (a2, .inl (c2, 40, .inl yr)), (a3, .inl (c3, 40, .inr (.inl xb))), (a4, .inl (c4, 40, .inr (.inl yb))), (a5, .inl (c5, 7400, .inl bz))] H) → (va_D A [(o, .inr (ciM, [.int (th), .int (nI (n)), .ref a1, .ref a2, .ref a3, .ref a4, .ref a5, .int (mo), .int (le)])), (a1, .inl (c1, 40, .inl xh)), (a2, .inl (c2, 40, .inl yr)), (a3, .inl (c3, 40, .inr (.inl xb))), (a4, .inl (c4, 40, .inr (.inl yb))), (a5, .inl (c5, 7400, .inl bz))]) → (va_S A s.heap H locs) → lv_has ls 8 [(0, .ref o), (1, .int (nI (i))), (2, .int (nI (i2))), (4, .int (nI (fr))), (5, .int (nI (pw_o f2 h2 pp2 * pp))), (6, .int (nI (cnt))), (7, .int (nI (t)))] → W p l e (headSpec ws_M_by ({ frames := 2, cells := 0, slots := 0, locals := 49 } : Room)).room s m ([.ref o, .int (nI (i)), .int (nI (i2))]).toArray below meth c H locs 0 0 (MQ below (va_Qi (fun r u => md_set (pw_mk 5 f f2 d) n xh yr xb yb r u ∧ u.1 = th) (md_B dC dI A o a1 a2 a3 a4 a5 c1 c2 c3 c4 c5) A) ([.ref o, .int (nI (i)), .int (nI (i2))]).toArray s 0 0 A) (F0 m 74 ls []) := by
          intro k_
          induction k_ with
          | zero => intro cnt t bz H locs ls h_; omega
          | succ k_ ih_74 =>
            intro cnt t bz H locs ls hm_ ht1 hcnt hcb hbz hP hD hS hl
            refine lv_iload hx hb d_M_by_74 (lv_at hl 5 rfl) ?_
            refine lv_iload hx hb d_M_by_76 (lv_at hl 3 rfl) ?_
            refine lv_iload hx hb d_M_by_78 (lv_at hl 4 rfl) ?_
            refine pq_iadd (a := fr) (b := (pw_o f2 h2 pp2 * pp)) hx hb d_M_by_80 ?_
            refine pq_icmp_ge (tgt := 120) (a := cnt) (b := (fr + (pw_o f2 h2 pp2 * pp))) hx hb d_M_by_81 (by decide) (by omega) (by omega) (fun c_81 => ?_) (fun c_81 => ?_)
            · refine lv_aload_n hx hb d_M_by_120 rfl (lv_at hl 0 rfl) ?_
              refine lv_iload hx hb d_M_by_121 (lv_at hl 3 rfl) ?_
              refine lv_iload hx hb d_M_by_123 (lv_at hl 4 rfl) ?_
              have hFc := va_free (wc := [(o, .inr (ciM, [.int (th), .int (nI (n)), .ref a1, .ref a2, .ref a3, .ref a4, .ref a5, .int (mo), .int (le)])), (a1, .inl (c1, 40, .inl xh)), (a2, .inl (c2, 40, .inl yr)), (a3, .inl (c3, 40, .inr (.inl xb))), (a4, .inl (c4, 40, .inr (.inl yb))), (a5, .inl (c5, 7400, .inl bz))]) hD hS hA [0, 1, 2, 3, 4, 5] rfl
              refine va_calli (va_runV (As := [.int (nI (fr)), .int (nI (pw_o f2 h2 pp2 * pp))]) (rest := []) ⟨hx, hb, hml, hown, hts⟩ (c_M_settle l dC dI (F := pw_mk 5 f f2 d) (fun j hj => hbz j (by omega)) (by omega) mm0 hEF hn) (cwV 2 hts (gd_V mb_424 mb_426 mb_3 mb_23 mb_427) rfl rfl rfl (by decide +kernel) ⟨Nat.le_of_ble_eq_true rfl, Nat.le_of_ble_eq_true rfl⟩) ⟨md_blind, va_recv hK hP (ci := ciM) (q0 := 0) rfl rfl, fun U hU hW => ⟨rfl, by rw [hU], by rw [hU]; exact hP, va_K.moved hW.alike hK, hD.weaken (fun _ _ _ _ => trivial)⟩⟩ rfl rfl hl.1 rfl (lv_room (Nat.le_of_ble_eq_true rfl)) d_M_by_125 ⟨Nat.le_of_ble_eq_true rfl, Nat.le_of_ble_eq_true rfl⟩) hS (fun q _ h => hFc q h) hFc (fun r_125 u_125 t_ H1 locs ht_ hvm_ hr_125 hB_ hz1_ hk1_ hS => ?_)
              obtain ⟨hP1_, hK1_, hD1_⟩ := hB_
              rw [ht_] at hP1_
              clear hP hD
              have hP := hP1_
              have hD := hD1_.weaken (fun k q _ h => hFc q.1 h)
              generalize H1 = H at hP hS ⊢
              have hP : va_P (dC, dI) vwCl [(o, .inr (ciM, [.int (u_125.1), .int (nI (u_125.2.1)), .ref a1, .ref a2, .ref a3, .ref a4, .ref a5, .int (u_125.2.2.1), .int (u_125.2.2.2.1)])), (a1, .inl (c1, 40, .inl u_125.2.2.2.2.1)), (a2, .inl (c2, 40, .inl u_125.2.2.2.2.2.1)), (a3, .inl (c3, 40, .inr (.inl u_125.2.2.2.2.2.2.1))), (a4, .inl (c4, 40, .inr (.inl u_125.2.2.2.2.2.2.2.1))), (a5, .inl (c5, 7400, .inl u_125.2.2.2.2.2.2.2.2))] H := hP
              have hD : va_D A [(o, .inr (ciM, [.int (u_125.1), .int (nI (u_125.2.1)), .ref a1, .ref a2, .ref a3, .ref a4, .ref a5, .int (u_125.2.2.1), .int (u_125.2.2.2.1)])), (a1, .inl (c1, 40, .inl u_125.2.2.2.2.1)), (a2, .inl (c2, 40, .inl u_125.2.2.2.2.2.1)), (a3, .inl (c3, 40, .inr (.inl u_125.2.2.2.2.2.2.1))), (a4, .inl (c4, 40, .inr (.inl u_125.2.2.2.2.2.2.2.1))), (a5, .inl (c5, 7400, .inl u_125.2.2.2.2.2.2.2.2))] := hD
              exact W.iret (v := (r_125)) hx hb hr (fun t_ ht_ hW_ => ⟨⟨_, u_125, rfl, hr_125, by rw [ht_]; exact hP, va_K.moved hW_.alike hK, hD⟩, hS.F ht_⟩) hS.2.2 d_M_by_128
            · have htT : t ≤ T := pw_N_far hTN (by omega)
              have hqs : pw_c f2 (t + 1) = pw_c f2 t + (f2 t).toNat := rfl
              have hq2 := pw_lt2 (f2 t)
              refine lv_aload_n hx hb d_M_by_84 rfl (lv_at hl 0 rfl) ?_
              refine lv_iload_n hx hb d_M_by_85 rfl (lv_at hl 2 rfl) ?_
              refine lv_iload hx hb d_M_by_86 (lv_at hl 6 rfl) ?_
              refine vp_callSi (W.runV (As := [.int (nI (i2)), .int (nI (t))]) (rest := []) ⟨hx, hb, hml, hown, hts⟩ (c_M_has l dC dI hmd2 (t := t) (by omega)) (cwV 2 hts (gd_V mb_455 mb_457 mb_9 mb_23 mb_458) rfl rfl rfl (by decide +kernel) ⟨Nat.le_of_ble_eq_true rfl, Nat.le_of_ble_eq_true rfl⟩) (pw_R_V (va_recv hK hP (ci := ciM) (q0 := 0) rfl rfl) hP hK) rfl rfl hl.1 rfl (lv_room (Nat.le_of_ble_eq_true rfl)) d_M_by_88 ⟨Nat.le_of_ble_eq_true rfl, Nat.le_of_ble_eq_true rfl⟩) (fun r_88 hr_88 => ?_)
              subst hr_88
              refine pq_if_ne (tgt := 97) (a := ((f2 t).toNat)) hx hb d_M_by_91 (by decide) (by have := pw_lt2 (f2 t); omega) (fun c_91 => ?_) (fun c_91 => ?_)
              · refine lv_aload_n hx hb d_M_by_97 rfl (lv_at hl 0 rfl) ?_
                refine va_get (D := (dC, dI)) (ci := ciM) (v := .ref a5) (C := R_M) (T := F_M) (N := 9) hx hb hts (fun w h => List.mem_cons_of_mem _ (in_M w h)) hown hK hP 0 rfl rfl 6 (by decide) (hts (.fieldLink R_M 23 "PeriodWordsModel" "bits" "[Z") (List.mem_cons_of_mem _ mb_389)) (fun _ h9 => h9) rfl d_M_by_98 ?_
                refine lv_iload hx hb d_M_by_101 (lv_at hl 5 rfl) ?_
                refine lv_aload_n hx hb d_M_by_103 rfl (lv_at hl 0 rfl) ?_
                refine lv_iload_n hx hb d_M_by_104 rfl (lv_at hl 1 rfl) ?_
                refine lv_iload hx hb d_M_by_105 (lv_at hl 6 rfl) ?_
                refine vp_callSi (W.runV (As := [.int (nI (i)), .int (nI (t))]) (rest := [.int (nI (cnt)), .ref a5]) ⟨hx, hb, hml, hown, hts⟩ (c_M_has l dC dI hmd (t := t) (by omega)) (cwV 2 hts (gd_V mb_455 mb_457 mb_9 mb_23 mb_458) rfl rfl rfl (by decide +kernel) ⟨Nat.le_of_ble_eq_true rfl, Nat.le_of_ble_eq_true rfl⟩) (pw_R_V (va_recv hK hP (ci := ciM) (q0 := 0) rfl rfl) hP hK) rfl rfl hl.1 rfl (lv_room (Nat.le_of_ble_eq_true rfl)) d_M_by_107 ⟨Nat.le_of_ble_eq_true rfl, Nat.le_of_ble_eq_true rfl⟩) (fun r_107 hr_107 => ?_)
                subst hr_107
                refine va_zast hx hb hK hP hD hS 5 4 rfl rfl (vp_in_nI (n := cnt) (by omega) (by omega)) d_M_by_110 (fun H locs hP hD hS => ?_)
                rw [pq_cl (by omega)] at hP hD
                have hP : va_P (dC, dI) vwCl [(o, .inr (ciM, [.int (th), .int (nI (n)), .ref a1, .ref a2, .ref a3, .ref a4, .ref a5, .int (mo), .int (le)])), (a1, .inl (c1, 40, .inl xh)), (a2, .inl (c2, 40, .inl yr)), (a3, .inl (c3, 40, .inr (.inl xb))), (a4, .inl (c4, 40, .inr (.inl yb))), (a5, .inl (c5, 7400, .inl (upd bz cnt (vp_nar .boolean (nI ((f t).toNat))))))] H := hP
                have hD : va_D A [(o, .inr (ciM, [.int (th), .int (nI (n)), .ref a1, .ref a2, .ref a3, .ref a4, .ref a5, .int (mo), .int (le)])), (a1, .inl (c1, 40, .inl xh)), (a2, .inl (c2, 40, .inl yr)), (a3, .inl (c3, 40, .inr (.inl xb))), (a4, .inl (c4, 40, .inr (.inl yb))), (a5, .inl (c5, 7400, .inl (upd bz cnt (vp_nar .boolean (nI ((f t).toNat))))))] := hD
                refine lv_iinc (v := nI (cnt + 1)) (lv' := [(6, .int (nI (cnt + 1))), (0, .ref o), (1, .int (nI (i))), (2, .int (nI (i2))), (4, .int (nI (fr))), (5, .int (nI (pw_o f2 h2 pp2 * pp))), (7, .int (nI (t)))]) hx hb d_M_by_111 hl (k := 5) rfl (pq_inc _) (by decide) rfl (fun ls hl => ?_)
                refine lv_iinc (v := nI (t + 1)) (lv' := [(7, .int (nI (t + 1))), (6, .int (nI (cnt + 1))), (0, .ref o), (1, .int (nI (i))), (2, .int (nI (i2))), (4, .int (nI (fr))), (5, .int (nI (pw_o f2 h2 pp2 * pp)))]) hx hb d_M_by_114 hl (k := 6) rfl (pq_inc _) (by decide) rfl (fun ls hl => ?_)
                refine lv_goto (tgt := 74) hx hb d_M_by_117 (by decide) ?_
                exact ih_74 (cnt + 1) (t + 1) (upd bz cnt (vp_nar .boolean (nI ((f t).toNat)))) _ _ ls (by omega) (by omega) (by omega) (by omega) (md_put hbz (by show _ = (f (pw_tk f2 (cnt + 1))).toNat; rw [pw_tk_of (pw_byN c_91 hcnt)])) hP hD hS (lv_sub hl [2, 3, 4, 5, 6, 1, 0] rfl)
              · refine lv_goto (tgt := 114) hx hb d_M_by_94 (by decide) ?_
                refine lv_iinc (v := nI (t + 1)) (lv' := [(7, .int (nI (t + 1))), (0, .ref o), (1, .int (nI (i))), (2, .int (nI (i2))), (4, .int (nI (fr))), (5, .int (nI (pw_o f2 h2 pp2 * pp))), (6, .int (nI (cnt)))]) hx hb d_M_by_114 hl (k := 6) rfl (pq_inc _) (by decide) rfl (fun ls hl => ?_)
                refine lv_goto (tgt := 74) hx hb d_M_by_117 (by decide) ?_
                exact ih_74 (cnt) (t + 1) (bz) _ _ ls (by omega) (by omega) (by omega) (by omega) hbz hP hD hS (lv_sub hl [1, 2, 3, 4, 5, 6, 0] rfl)
        exact B_74 _ (0) (0) (bs) _ _ ls (Nat.lt_succ_self _) (by omega) rfl (by omega) (fun j hj => absurd hj (Nat.not_lt_zero j)) hP hD hS (lv_sub hl [3, 4, 5, 7, 2, 1, 0] rfl)
      · refine lv_iload hx hb d_M_by_28 (lv_at hl 4 rfl) ?_
        refine lv_aload_n hx hb d_M_by_30 rfl (lv_at hl 0 rfl) ?_
        refine lv_iload_n hx hb d_M_by_31 rfl (lv_at hl 2 rfl) ?_
        refine lv_iload hx hb d_M_by_32 (lv_at hl 5 rfl) ?_
        refine vp_callSi (W.runV (As := [.int (nI (i2)), .int (nI (t))]) (rest := [.int (nI (fr))]) ⟨hx, hb, hml, hown, hts⟩ (c_M_has l dC dI hmd2 (t := t) (by omega)) (cwV 2 hts (gd_V mb_455 mb_457 mb_9 mb_23 mb_458) rfl rfl rfl (by decide +kernel) ⟨Nat.le_of_ble_eq_true rfl, Nat.le_of_ble_eq_true rfl⟩) (pw_R_V (va_recv hK hP (ci := ciM) (q0 := 0) rfl rfl) hP hK) rfl rfl hl.1 rfl (lv_room (Nat.le_of_ble_eq_true rfl)) d_M_by_34 ⟨Nat.le_of_ble_eq_true rfl, Nat.le_of_ble_eq_true rfl⟩) (fun r_34 hr_34 => ?_)
        subst hr_34
        refine pq_if_eq (tgt := 44) (a := ((f2 t).toNat)) hx hb d_M_by_37 (by decide) (by have := pw_lt2 (f2 t); omega) (fun c_37 => ?_) (fun c_37 => ?_)
        · refine lv_iconst (v := nI 0) hx hb d_M_by_44 (by decide) ?_
          refine pq_iadd (a := fr) (b := 0) hx hb d_M_by_45 ?_
          refine lv_istore (lv' := [(4, .int (nI (fr + 0))), (0, .ref o), (1, .int (nI (i))), (2, .int (nI (i2))), (3, .int (nI (max h h2))), (5, .int (nI (t)))]) hx hb d_M_by_46 hl (by decide) rfl (fun ls hl => ?_)
          refine lv_iinc (v := nI (t + 1)) (lv' := [(5, .int (nI (t + 1))), (4, .int (nI (fr + 0))), (0, .ref o), (1, .int (nI (i))), (2, .int (nI (i2))), (3, .int (nI (max h h2)))]) hx hb d_M_by_48 hl (k := 5) rfl (pq_inc _) (by decide) rfl (fun ls hl => ?_)
          refine lv_goto (tgt := 22) hx hb d_M_by_51 (by decide) ?_
          exact ih_22 (fr + 0) (t + 1) _ _ ls (by omega) (by omega) (by rw [pw_c_s, ← hfr]; have := pw_lt2 (f2 t); omega) (by omega) hP hD hS (lv_sub hl [2, 3, 4, 5, 1, 0] rfl)
        · refine lv_iconst (v := nI 1) hx hb d_M_by_40 (by decide) ?_
          refine lv_goto (tgt := 45) hx hb d_M_by_41 (by decide) ?_
          refine pq_iadd (a := fr) (b := 1) hx hb d_M_by_45 ?_
          refine lv_istore (lv' := [(4, .int (nI (fr + 1))), (0, .ref o), (1, .int (nI (i))), (2, .int (nI (i2))), (3, .int (nI (max h h2))), (5, .int (nI (t)))]) hx hb d_M_by_46 hl (by decide) rfl (fun ls hl => ?_)
          refine lv_iinc (v := nI (t + 1)) (lv' := [(5, .int (nI (t + 1))), (4, .int (nI (fr + 1))), (0, .ref o), (1, .int (nI (i))), (2, .int (nI (i2))), (3, .int (nI (max h h2)))]) hx hb d_M_by_48 hl (k := 5) rfl (pq_inc _) (by decide) rfl (fun ls hl => ?_)
          refine lv_goto (tgt := 22) hx hb d_M_by_51 (by decide) ?_
          exact ih_22 (fr + 1) (t + 1) _ _ ls (by omega) (by omega) (by rw [pw_c_s, ← hfr]; have := pw_lt2 (f2 t); omega) (by omega) hP hD hS (lv_sub hl [2, 3, 4, 5, 1, 0] rfl)
  exact B_22 _ (0) (0) _ _ ls (Nat.lt_succ_self _) (by omega) rfl (by omega) hP hD hS (lv_sub hl [3, 4, 5, 2, 1, 0] rfl)
set_option maxHeartbeats 4000000 in
set_option maxRecDepth 100000 in
theorem c_M_late (l : Launch) (dC : Nat → ClassId) (dI : Nat → Nat → Nat) {sz : Nat} {o a1 a2 a3 a4 a5 : Nat} {c1 c2 c3 c4 c5 : ClassId} {th mo le : Int32} {n : Nat} {xh yr : Nat → Int32} {xb yb : Nat → Int64} {bs : Nat → Int32} {i h pp : Nat} {f : Nat → Bool} (hmd : md_at xh yr xb yb i h pp f) {f2 : Nat → Bool} {d : Nat} (hd : d ≤ 30) (hn : n < 40) : Met l y_M_late ws_M_late ({ frames := 2, cells := 0, slots := 0, locals := 49 } : Room) (md_Pre [.ref o, .int (nI (i)), .int (nI (d))] dC dI sz (mdT c1 c2 c3 c4 c5) (md o a1 a2 a3 a4 a5 c1 c2 c3 c4 c5 th n mo le xh yr xb yb bs)) (va_Qi (fun r u => md_set (pw_mk 6 f f2 d) n xh yr xb yb r u ∧ u.1 = th) (md_B dC dI (va_A (md o a1 a2 a3 a4 a5 c1 c2 c3 c4 c5 th n mo le xh yr xb yb bs) sz) o a1 a2 a3 a4 a5 c1 c2 c3 c4 c5) (va_A (md o a1 a2 a3 a4 a5 c1 c2 c3 c4 c5 th n mo le xh yr xb yb bs) sz)) 0 0 (va_A (md o a1 a2 a3 a4 a5 c1 c2 c3 c4 c5 th n mo le xh yr xb yb bs) sz) := by
  refine Met.ofW (cc := b_M_late) (maxL := 4) (ret := (some .int)) (by decide) rfl ?_
  intro p e s m args below meth c s₁ B hml hv
  obtain ⟨rfl, hsz, hP, hK, hD0⟩ := hv
  have hx := B.exec
  have hb := B.bytes
  have hr := B.returns
  have hts := atoms_spec (ws := ws_M_late) B.pre
  have hown : s.vm.findClass R_M = some m.cls := findClass_of_methodNamed B.named
  have hlocks := B.notSynchronized
  subst hsz
  have hD := hD0.self (sz := s.heap.size)
  generalize hAe : va_A (md o a1 a2 a3 a4 a5 c1 c2 c3 c4 c5 th n mo le xh yr xb yb bs) s.heap.size = A at hD ⊢
  have hA : ∀ q : Nat, s.heap.size ≤ q → A q := fun q h => by rw [← hAe]; exact Or.inr h
  have hS : va_S A s.heap s.heap [] := va_S.rf
  have hmd_ := hmd; obtain ⟨hi, e1, e2, e3, e4, hok⟩ := hmd_; have hok_ := hok; obtain ⟨hh, hp0, hp6, hE⟩ := hok_
  have ho := pw_o_le f h pp
  have hc := pw_c_le f h
  have hb0 := pq_lt60 (pw_b_lt f 0 h) hh
  have hb1 := pq_lt60 (pw_b_lt f h pp) hp6
  have hl := lv_entry ([.ref o, .int (nI (i)), .int (nI (d))]) (n := 4) (Nat.le_of_ble_eq_true rfl)
  rw [lg_entry_eq]
  generalize (lg_sl ([.ref o, .int (nI (i)), .int (nI (d))]) ++ List.replicate (4 - (lg_sl ([.ref o, .int (nI (i)), .int (nI (d))])).length) Slot.unset).toArray = ls at hl ⊢
  have hl : lv_has ls 4 [(0, .ref o), (1, .int (nI (i))), (2, .int (nI (d)))] := hl
  refine lv_iconst (v := nI 0) hx hb d_M_late_0 (by decide) ?_
  refine lv_istore_n (lv' := [(3, .int (nI (0))), (0, .ref o), (1, .int (nI (i))), (2, .int (nI (d)))]) hx hb d_M_late_1 rfl hl (by decide) rfl (fun ls hl => ?_)
  have B_2 : ∀ (k_ : Nat) (t : Nat) (bz : Nat → Int32) (H : Heap) (locs : List Loc) (ls : Array Slot), (d - t) < k_ → (t ≤ d) → (∀ j, j < t → bz j = nI (pw_mk 6 f f2 d j).toNat) → (va_P (dC, dI) vwCl [(o, .inr (ciM, [.int (th), .int (nI (n)), .ref a1, .ref a2, .ref a3, .ref a4, .ref a5, .int (mo), .int (le)])), (a1, .inl (c1, 40, .inl xh)), (a2, .inl (c2, 40, .inl yr)), (a3, .inl (c3, 40, .inr (.inl xb))), (a4, .inl (c4, 40, .inr (.inl yb))), (a5, .inl (c5, 7400, .inl bz))] H) → (va_D A [(o, .inr (ciM, [.int (th), .int (nI (n)), .ref a1, .ref a2, .ref a3, .ref a4, .ref a5, .int (mo), .int (le)])), (a1, .inl (c1, 40, .inl xh)), (a2, .inl (c2, 40, .inl yr)), (a3, .inl (c3, 40, .inr (.inl xb))), (a4, .inl (c4, 40, .inr (.inl yb))), (a5, .inl (c5, 7400, .inl bz))]) → (va_S A s.heap H locs) → lv_has ls 4 [(0, .ref o), (1, .int (nI (i))), (2, .int (nI (d))), (3, .int (nI (t)))] → W p l e (headSpec ws_M_late ({ frames := 2, cells := 0, slots := 0, locals := 49 } : Room)).room s m ([.ref o, .int (nI (i)), .int (nI (d))]).toArray below meth c H locs 0 0 (MQ below (va_Qi (fun r u => md_set (pw_mk 6 f f2 d) n xh yr xb yb r u ∧ u.1 = th) (md_B dC dI A o a1 a2 a3 a4 a5 c1 c2 c3 c4 c5) A) ([.ref o, .int (nI (i)), .int (nI (d))]).toArray s 0 0 A) (F0 m 2 ls []) := by
    intro k_
    induction k_ with
    | zero => intro t bz H locs ls h_; omega
    | succ k_ ih_2 =>
      intro t bz H locs ls hm_ ht hbz hP hD hS hl
      refine lv_iload_n hx hb d_M_late_2 rfl (lv_at hl 3 rfl) ?_
      refine lv_iload_n hx hb d_M_late_3 rfl (lv_at hl 2 rfl) ?_
      refine pq_icmp_ge (tgt := 20) (a := t) (b := d) hx hb d_M_late_4 (by decide) (by omega) (by omega) (fun c_4 => ?_) (fun c_4 => ?_)
      · refine lv_iconst (v := nI 0) hx hb d_M_late_20 (by decide) ?_
        refine lv_istore_n (lv' := [(3, .int (nI (0))), (0, .ref o), (1, .int (nI (i))), (2, .int (nI (d)))]) hx hb d_M_late_21 rfl hl (by decide) rfl (fun ls hl => ?_)
        have B_22 : ∀ (k_ : Nat) (t : Nat) (bz : Nat → Int32) (H : Heap) (locs : List Loc) (ls : Array Slot), (h + pp - t) < k_ → (t ≤ h + pp) → (∀ j, j < d + t → bz j = nI (pw_mk 6 f f2 d j).toNat) → (va_P (dC, dI) vwCl [(o, .inr (ciM, [.int (th), .int (nI (n)), .ref a1, .ref a2, .ref a3, .ref a4, .ref a5, .int (mo), .int (le)])), (a1, .inl (c1, 40, .inl xh)), (a2, .inl (c2, 40, .inl yr)), (a3, .inl (c3, 40, .inr (.inl xb))), (a4, .inl (c4, 40, .inr (.inl yb))), (a5, .inl (c5, 7400, .inl bz))] H) → (va_D A [(o, .inr (ciM, [.int (th), .int (nI (n)), .ref a1, .ref a2, .ref a3, .ref a4, .ref a5, .int (mo), .int (le)])), (a1, .inl (c1, 40, .inl xh)), (a2, .inl (c2, 40, .inl yr)), (a3, .inl (c3, 40, .inr (.inl xb))), (a4, .inl (c4, 40, .inr (.inl yb))), (a5, .inl (c5, 7400, .inl bz))]) → (va_S A s.heap H locs) → lv_has ls 4 [(0, .ref o), (1, .int (nI (i))), (2, .int (nI (d))), (3, .int (nI (t)))] → W p l e (headSpec ws_M_late ({ frames := 2, cells := 0, slots := 0, locals := 49 } : Room)).room s m ([.ref o, .int (nI (i)), .int (nI (d))]).toArray below meth c H locs 0 0 (MQ below (va_Qi (fun r u => md_set (pw_mk 6 f f2 d) n xh yr xb yb r u ∧ u.1 = th) (md_B dC dI A o a1 a2 a3 a4 a5 c1 c2 c3 c4 c5) A) ([.ref o, .int (nI (i)), .int (nI (d))]).toArray s 0 0 A) (F0 m 22 ls []) := by
          intro k_
          induction k_ with
          | zero => intro t bz H locs ls h_; omega
          | succ k_ ih_22 =>
            intro t bz H locs ls hm_ ht hbz hP hD hS hl
            refine lv_iload_n hx hb d_M_late_22 rfl (lv_at hl 3 rfl) ?_
            refine lv_aload_n hx hb d_M_late_23 rfl (lv_at hl 0 rfl) ?_
            refine va_get (D := (dC, dI)) (ci := ciM) (v := .ref a1) (C := R_M) (T := F_M) (N := 9) hx hb hts (fun w h => List.mem_cons_of_mem _ (in_M w h)) hown hK hP 0 rfl rfl 2 (by decide) (hts (.fieldLink R_M 7 "PeriodWordsModel" "head" "[I") (List.mem_cons_of_mem _ mb_385)) (fun _ h9 => h9) rfl d_M_late_24 ?_
            refine lv_iload_n hx hb d_M_late_27 rfl (lv_at hl 1 rfl) ?_
            refine va_iald hx hb hK hP 1 0 rfl rfl (vp_in_nI (n := i) (by omega) (by omega)) d_M_late_28 ?_
            refine pq_top (y := .int (xh i)) (by rw [pq_cl (by omega)]) ?_
            refine pq_top (y := .int (nI (h))) (by rw [e1]) ?_
            refine lv_aload_n hx hb d_M_late_29 rfl (lv_at hl 0 rfl) ?_
            refine va_get (D := (dC, dI)) (ci := ciM) (v := .ref a2) (C := R_M) (T := F_M) (N := 9) hx hb hts (fun w h => List.mem_cons_of_mem _ (in_M w h)) hown hK hP 0 rfl rfl 3 (by decide) (hts (.fieldLink R_M 13 "PeriodWordsModel" "ring" "[I") (List.mem_cons_of_mem _ mb_386)) (fun _ h9 => h9) rfl d_M_late_30 ?_
            refine lv_iload_n hx hb d_M_late_33 rfl (lv_at hl 1 rfl) ?_
            refine va_iald hx hb hK hP 2 1 rfl rfl (vp_in_nI (n := i) (by omega) (by omega)) d_M_late_34 ?_
            refine pq_top (y := .int (yr i)) (by rw [pq_cl (by omega)]) ?_
            refine pq_top (y := .int (nI (pp))) (by rw [e2]) ?_
            refine pq_iadd (a := h) (b := pp) hx hb d_M_late_35 ?_
            refine pq_icmp_ge (tgt := 59) (a := t) (b := (h + pp)) hx hb d_M_late_36 (by decide) (by omega) (by omega) (fun c_36 => ?_) (fun c_36 => ?_)
            · refine lv_aload_n hx hb d_M_late_59 rfl (lv_at hl 0 rfl) ?_
              refine lv_iload_n hx hb d_M_late_60 rfl (lv_at hl 2 rfl) ?_
              refine lv_aload_n hx hb d_M_late_61 rfl (lv_at hl 0 rfl) ?_
              refine va_get (D := (dC, dI)) (ci := ciM) (v := .ref a1) (C := R_M) (T := F_M) (N := 9) hx hb hts (fun w h => List.mem_cons_of_mem _ (in_M w h)) hown hK hP 0 rfl rfl 2 (by decide) (hts (.fieldLink R_M 7 "PeriodWordsModel" "head" "[I") (List.mem_cons_of_mem _ mb_385)) (fun _ h9 => h9) rfl d_M_late_62 ?_
              refine lv_iload_n hx hb d_M_late_65 rfl (lv_at hl 1 rfl) ?_
              refine va_iald hx hb hK hP 1 0 rfl rfl (vp_in_nI (n := i) (by omega) (by omega)) d_M_late_66 ?_
              refine pq_top (y := .int (xh i)) (by rw [pq_cl (by omega)]) ?_
              refine pq_top (y := .int (nI (h))) (by rw [e1]) ?_
              refine pq_iadd (a := d) (b := h) hx hb d_M_late_67 ?_
              refine lv_aload_n hx hb d_M_late_68 rfl (lv_at hl 0 rfl) ?_
              refine va_get (D := (dC, dI)) (ci := ciM) (v := .ref a2) (C := R_M) (T := F_M) (N := 9) hx hb hts (fun w h => List.mem_cons_of_mem _ (in_M w h)) hown hK hP 0 rfl rfl 3 (by decide) (hts (.fieldLink R_M 13 "PeriodWordsModel" "ring" "[I") (List.mem_cons_of_mem _ mb_386)) (fun _ h9 => h9) rfl d_M_late_69 ?_
              refine lv_iload_n hx hb d_M_late_72 rfl (lv_at hl 1 rfl) ?_
              refine va_iald hx hb hK hP 2 1 rfl rfl (vp_in_nI (n := i) (by omega) (by omega)) d_M_late_73 ?_
              refine pq_top (y := .int (yr i)) (by rw [pq_cl (by omega)]) ?_
              refine pq_top (y := .int (nI (pp))) (by rw [e2]) ?_
              have hFc := va_free (wc := [(o, .inr (ciM, [.int (th), .int (nI (n)), .ref a1, .ref a2, .ref a3, .ref a4, .ref a5, .int (mo), .int (le)])), (a1, .inl (c1, 40, .inl xh)), (a2, .inl (c2, 40, .inl yr)), (a3, .inl (c3, 40, .inr (.inl xb))), (a4, .inl (c4, 40, .inr (.inl yb))), (a5, .inl (c5, 7400, .inl bz))]) hD hS hA [0, 1, 2, 3, 4, 5] rfl
              refine va_calli (va_runV (As := [.int (nI (d + h)), .int (nI (pp))]) (rest := []) ⟨hx, hb, hml, hown, hts⟩ (c_M_settle l dC dI (F := pw_mk 6 f f2 d) (fun j hj => hbz j (by omega)) (by omega) hp0 (by rw [Nat.add_comm d h]; exact pw_E_late hE d) hn) (cwV 2 hts (gd_V mb_424 mb_426 mb_3 mb_23 mb_427) rfl rfl rfl (by decide +kernel) ⟨Nat.le_of_ble_eq_true rfl, Nat.le_of_ble_eq_true rfl⟩) ⟨md_blind, va_recv hK hP (ci := ciM) (q0 := 0) rfl rfl, fun U hU hW => ⟨rfl, by rw [hU], by rw [hU]; exact hP, va_K.moved hW.alike hK, hD.weaken (fun _ _ _ _ => trivial)⟩⟩ rfl rfl hl.1 rfl (lv_room (Nat.le_of_ble_eq_true rfl)) d_M_late_74 ⟨Nat.le_of_ble_eq_true rfl, Nat.le_of_ble_eq_true rfl⟩) hS (fun q _ h => hFc q h) hFc (fun r_74 u_74 t_ H1 locs ht_ hvm_ hr_74 hB_ hz1_ hk1_ hS => ?_)
              obtain ⟨hP1_, hK1_, hD1_⟩ := hB_
              rw [ht_] at hP1_
              clear hP hD
              have hP := hP1_
              have hD := hD1_.weaken (fun k q _ h => hFc q.1 h)
              generalize H1 = H at hP hS ⊢
              have hP : va_P (dC, dI) vwCl [(o, .inr (ciM, [.int (u_74.1), .int (nI (u_74.2.1)), .ref a1, .ref a2, .ref a3, .ref a4, .ref a5, .int (u_74.2.2.1), .int (u_74.2.2.2.1)])), (a1, .inl (c1, 40, .inl u_74.2.2.2.2.1)), (a2, .inl (c2, 40, .inl u_74.2.2.2.2.2.1)), (a3, .inl (c3, 40, .inr (.inl u_74.2.2.2.2.2.2.1))), (a4, .inl (c4, 40, .inr (.inl u_74.2.2.2.2.2.2.2.1))), (a5, .inl (c5, 7400, .inl u_74.2.2.2.2.2.2.2.2))] H := hP
              have hD : va_D A [(o, .inr (ciM, [.int (u_74.1), .int (nI (u_74.2.1)), .ref a1, .ref a2, .ref a3, .ref a4, .ref a5, .int (u_74.2.2.1), .int (u_74.2.2.2.1)])), (a1, .inl (c1, 40, .inl u_74.2.2.2.2.1)), (a2, .inl (c2, 40, .inl u_74.2.2.2.2.2.1)), (a3, .inl (c3, 40, .inr (.inl u_74.2.2.2.2.2.2.1))), (a4, .inl (c4, 40, .inr (.inl u_74.2.2.2.2.2.2.2.1))), (a5, .inl (c5, 7400, .inl u_74.2.2.2.2.2.2.2.2))] := hD
              exact W.iret (v := (r_74)) hx hb hr (fun t_ ht_ hW_ => ⟨⟨_, u_74, rfl, hr_74, by rw [ht_]; exact hP, va_K.moved hW_.alike hK, hD⟩, hS.F ht_⟩) hS.2.2 d_M_late_77
            · refine lv_aload_n hx hb d_M_late_39 rfl (lv_at hl 0 rfl) ?_
              refine va_get (D := (dC, dI)) (ci := ciM) (v := .ref a5) (C := R_M) (T := F_M) (N := 9) hx hb hts (fun w h => List.mem_cons_of_mem _ (in_M w h)) hown hK hP 0 rfl rfl 6 (by decide) (hts (.fieldLink R_M 23 "PeriodWordsModel" "bits" "[Z") (List.mem_cons_of_mem _ mb_389)) (fun _ h9 => h9) rfl d_M_late_40 ?_
              refine lv_iload_n hx hb d_M_late_43 rfl (lv_at hl 2 rfl) ?_
              refine lv_iload_n hx hb d_M_late_44 rfl (lv_at hl 3 rfl) ?_
              refine pq_iadd (a := d) (b := t) hx hb d_M_late_45 ?_
              refine lv_aload_n hx hb d_M_late_46 rfl (lv_at hl 0 rfl) ?_
              refine lv_iload_n hx hb d_M_late_47 rfl (lv_at hl 1 rfl) ?_
              refine lv_iload_n hx hb d_M_late_48 rfl (lv_at hl 3 rfl) ?_
              refine vp_callSi (W.runV (As := [.int (nI (i)), .int (nI (t))]) (rest := [.int (nI (d + t)), .ref a5]) ⟨hx, hb, hml, hown, hts⟩ (c_M_has l dC dI hmd (t := t) (by omega)) (cwV 2 hts (gd_V mb_455 mb_457 mb_9 mb_23 mb_458) rfl rfl rfl (by decide +kernel) ⟨Nat.le_of_ble_eq_true rfl, Nat.le_of_ble_eq_true rfl⟩) (pw_R_V (va_recv hK hP (ci := ciM) (q0 := 0) rfl rfl) hP hK) rfl rfl hl.1 rfl (lv_room (Nat.le_of_ble_eq_true rfl)) d_M_late_49 ⟨Nat.le_of_ble_eq_true rfl, Nat.le_of_ble_eq_true rfl⟩) (fun r_49 hr_49 => ?_)
              subst hr_49
              refine va_zast hx hb hK hP hD hS 5 4 rfl rfl (vp_in_nI (n := (d + t)) (by omega) (by omega)) d_M_late_52 (fun H locs hP hD hS => ?_)
              rw [pq_cl (by omega)] at hP hD
              have hP : va_P (dC, dI) vwCl [(o, .inr (ciM, [.int (th), .int (nI (n)), .ref a1, .ref a2, .ref a3, .ref a4, .ref a5, .int (mo), .int (le)])), (a1, .inl (c1, 40, .inl xh)), (a2, .inl (c2, 40, .inl yr)), (a3, .inl (c3, 40, .inr (.inl xb))), (a4, .inl (c4, 40, .inr (.inl yb))), (a5, .inl (c5, 7400, .inl (upd bz (d + t) (vp_nar .boolean (nI ((f t).toNat))))))] H := hP
              have hD : va_D A [(o, .inr (ciM, [.int (th), .int (nI (n)), .ref a1, .ref a2, .ref a3, .ref a4, .ref a5, .int (mo), .int (le)])), (a1, .inl (c1, 40, .inl xh)), (a2, .inl (c2, 40, .inl yr)), (a3, .inl (c3, 40, .inr (.inl xb))), (a4, .inl (c4, 40, .inr (.inl yb))), (a5, .inl (c5, 7400, .inl (upd bz (d + t) (vp_nar .boolean (nI ((f t).toNat))))))] := hD
              refine lv_iinc (v := nI (t + 1)) (lv' := [(3, .int (nI (t + 1))), (0, .ref o), (1, .int (nI (i))), (2, .int (nI (d)))]) hx hb d_M_late_53 hl (k := 3) rfl (pq_inc _) (by decide) rfl (fun ls hl => ?_)
              refine lv_goto (tgt := 22) hx hb d_M_late_56 (by decide) ?_
              exact ih_22 (t + 1) (upd bz (d + t) (vp_nar .boolean (nI ((f t).toNat)))) _ _ ls (by omega) (by omega) (md_put hbz (by show _ = (if d + t < d then false else f (d + t - d)).toNat; rw [if_neg (by omega), Nat.add_sub_cancel_left])) hP hD hS (lv_sub hl [1, 2, 3, 0] rfl)
        exact B_22 _ (0) (bz) _ _ ls (Nat.lt_succ_self _) (by omega) (fun j hj => hbz j (by omega)) hP hD hS (lv_sub hl [1, 2, 3, 0] rfl)
      · refine lv_aload_n hx hb d_M_late_7 rfl (lv_at hl 0 rfl) ?_
        refine va_get (D := (dC, dI)) (ci := ciM) (v := .ref a5) (C := R_M) (T := F_M) (N := 9) hx hb hts (fun w h => List.mem_cons_of_mem _ (in_M w h)) hown hK hP 0 rfl rfl 6 (by decide) (hts (.fieldLink R_M 23 "PeriodWordsModel" "bits" "[Z") (List.mem_cons_of_mem _ mb_389)) (fun _ h9 => h9) rfl d_M_late_8 ?_
        refine lv_iload_n hx hb d_M_late_11 rfl (lv_at hl 3 rfl) ?_
        refine lv_iconst (v := nI 0) hx hb d_M_late_12 (by decide) ?_
        refine va_zast hx hb hK hP hD hS 5 4 rfl rfl (vp_in_nI (n := t) (by omega) (by omega)) d_M_late_13 (fun H locs hP hD hS => ?_)
        rw [pq_cl (by omega)] at hP hD
        have hP : va_P (dC, dI) vwCl [(o, .inr (ciM, [.int (th), .int (nI (n)), .ref a1, .ref a2, .ref a3, .ref a4, .ref a5, .int (mo), .int (le)])), (a1, .inl (c1, 40, .inl xh)), (a2, .inl (c2, 40, .inl yr)), (a3, .inl (c3, 40, .inr (.inl xb))), (a4, .inl (c4, 40, .inr (.inl yb))), (a5, .inl (c5, 7400, .inl (upd bz t (vp_nar .boolean (nI (0))))))] H := hP
        have hD : va_D A [(o, .inr (ciM, [.int (th), .int (nI (n)), .ref a1, .ref a2, .ref a3, .ref a4, .ref a5, .int (mo), .int (le)])), (a1, .inl (c1, 40, .inl xh)), (a2, .inl (c2, 40, .inl yr)), (a3, .inl (c3, 40, .inr (.inl xb))), (a4, .inl (c4, 40, .inr (.inl yb))), (a5, .inl (c5, 7400, .inl (upd bz t (vp_nar .boolean (nI (0))))))] := hD
        refine lv_iinc (v := nI (t + 1)) (lv' := [(3, .int (nI (t + 1))), (0, .ref o), (1, .int (nI (i))), (2, .int (nI (d)))]) hx hb d_M_late_14 hl (k := 3) rfl (pq_inc _) (by decide) rfl (fun ls hl => ?_)
        refine lv_goto (tgt := 2) hx hb d_M_late_17 (by decide) ?_
        exact ih_2 (t + 1) (upd bz t (vp_nar .boolean (nI (0)))) _ _ ls (by omega) (by omega) (md_put (x := 0) hbz (by show 0 = (if t < d then false else f (t - d)).toNat; rw [if_pos (by omega)]; rfl)) hP hD hS (lv_sub hl [1, 2, 3, 0] rfl)
  exact B_2 _ (0) (bs) _ _ ls (Nat.lt_succ_self _) (by omega) (fun j hj => absurd hj (Nat.not_lt_zero j)) hP hD hS (lv_sub hl [1, 2, 3, 0] rfl)
set_option maxHeartbeats 4000000 in
set_option maxRecDepth 100000 in
theorem c_M_halved (l : Launch) (dC : Nat → ClassId) (dI : Nat → Nat → Nat) {sz : Nat} {o a1 a2 a3 a4 a5 : Nat} {c1 c2 c3 c4 c5 : ClassId} {th mo le : Int32} {n : Nat} {xh yr : Nat → Int32} {xb yb : Nat → Int64} {bs : Nat → Int32} {i h pp : Nat} {f : Nat → Bool} (hmd : md_at xh yr xb yb i h pp f) {f2 : Nat → Bool} {d : Nat} (hn : n < 40) : Met l y_M_halved ws_M_halved ({ frames := 2, cells := 0, slots := 0, locals := 49 } : Room) (md_Pre [.ref o, .int (nI (i))] dC dI sz (mdT c1 c2 c3 c4 c5) (md o a1 a2 a3 a4 a5 c1 c2 c3 c4 c5 th n mo le xh yr xb yb bs)) (va_Qi (fun r u => md_set (pw_mk 7 f f2 d) n xh yr xb yb r u ∧ u.1 = th) (md_B dC dI (va_A (md o a1 a2 a3 a4 a5 c1 c2 c3 c4 c5 th n mo le xh yr xb yb bs) sz) o a1 a2 a3 a4 a5 c1 c2 c3 c4 c5) (va_A (md o a1 a2 a3 a4 a5 c1 c2 c3 c4 c5 th n mo le xh yr xb yb bs) sz)) 0 0 (va_A (md o a1 a2 a3 a4 a5 c1 c2 c3 c4 c5 th n mo le xh yr xb yb bs) sz) := by
  refine Met.ofW (cc := b_M_halved) (maxL := 4) (ret := (some .int)) (by decide) rfl ?_
  intro p e s m args below meth c s₁ B hml hv
  obtain ⟨rfl, hsz, hP, hK, hD0⟩ := hv
  have hx := B.exec
  have hb := B.bytes
  have hr := B.returns
  have hts := atoms_spec (ws := ws_M_halved) B.pre
  have hown : s.vm.findClass R_M = some m.cls := findClass_of_methodNamed B.named
  have hlocks := B.notSynchronized
  subst hsz
  have hD := hD0.self (sz := s.heap.size)
  generalize hAe : va_A (md o a1 a2 a3 a4 a5 c1 c2 c3 c4 c5 th n mo le xh yr xb yb bs) s.heap.size = A at hD ⊢
  have hA : ∀ q : Nat, s.heap.size ≤ q → A q := fun q h => by rw [← hAe]; exact Or.inr h
  have hS : va_S A s.heap s.heap [] := va_S.rf
  have hmd_ := hmd; obtain ⟨hi, e1, e2, e3, e4, hok⟩ := hmd_; have hok_ := hok; obtain ⟨hh, hp0, hp6, hE⟩ := hok_
  have ho := pw_o_le f h pp
  have hc := pw_c_le f h
  have hb0 := pq_lt60 (pw_b_lt f 0 h) hh
  have hb1 := pq_lt60 (pw_b_lt f h pp) hp6
  have hl := lv_entry ([.ref o, .int (nI (i))]) (n := 4) (Nat.le_of_ble_eq_true rfl)
  rw [lg_entry_eq]
  generalize (lg_sl ([.ref o, .int (nI (i))]) ++ List.replicate (4 - (lg_sl ([.ref o, .int (nI (i))])).length) Slot.unset).toArray = ls at hl ⊢
  have hl : lv_has ls 4 [(0, .ref o), (1, .int (nI (i)))] := hl
  refine lv_iconst (v := nI 1) hx hb d_M_halved_0 (by decide) ?_
  refine lv_istore_n (lv' := [(2, .int (nI (1))), (0, .ref o), (1, .int (nI (i)))]) hx hb d_M_halved_1 rfl hl (by decide) rfl (fun ls hl => ?_)
  refine lv_iconst (v := nI 0) hx hb d_M_halved_2 (by decide) ?_
  refine lv_istore_n (lv' := [(3, .int (nI (0))), (2, .int (nI (1))), (0, .ref o), (1, .int (nI (i)))]) hx hb d_M_halved_3 rfl hl (by decide) rfl (fun ls hl => ?_)
  have B_4 : ∀ (k_ : Nat) (tk : Nat) (t : Nat) (bz : Nat → Int32) (H : Heap) (locs : List Loc) (ls : Array Slot), (h + 2 * pp - t) < k_ → (t ≤ h + 2 * pp) → (tk = (decide (pw_c f t % 2 = 0)).toNat) → (∀ j, j < t → bz j = nI (pw_mk 7 f f2 d j).toNat) → (va_P (dC, dI) vwCl [(o, .inr (ciM, [.int (th), .int (nI (n)), .ref a1, .ref a2, .ref a3, .ref a4, .ref a5, .int (mo), .int (le)])), (a1, .inl (c1, 40, .inl xh)), (a2, .inl (c2, 40, .inl yr)), (a3, .inl (c3, 40, .inr (.inl xb))), (a4, .inl (c4, 40, .inr (.inl yb))), (a5, .inl (c5, 7400, .inl bz))] H) → (va_D A [(o, .inr (ciM, [.int (th), .int (nI (n)), .ref a1, .ref a2, .ref a3, .ref a4, .ref a5, .int (mo), .int (le)])), (a1, .inl (c1, 40, .inl xh)), (a2, .inl (c2, 40, .inl yr)), (a3, .inl (c3, 40, .inr (.inl xb))), (a4, .inl (c4, 40, .inr (.inl yb))), (a5, .inl (c5, 7400, .inl bz))]) → (va_S A s.heap H locs) → lv_has ls 4 [(0, .ref o), (1, .int (nI (i))), (2, .int (nI (tk))), (3, .int (nI (t)))] → W p l e (headSpec ws_M_halved ({ frames := 2, cells := 0, slots := 0, locals := 49 } : Room)).room s m ([.ref o, .int (nI (i))]).toArray below meth c H locs 0 0 (MQ below (va_Qi (fun r u => md_set (pw_mk 7 f f2 d) n xh yr xb yb r u ∧ u.1 = th) (md_B dC dI A o a1 a2 a3 a4 a5 c1 c2 c3 c4 c5) A) ([.ref o, .int (nI (i))]).toArray s 0 0 A) (F0 m 4 ls []) := by
    intro k_
    induction k_ with
    | zero => intro tk t bz H locs ls h_; omega
    | succ k_ ih_4 =>
      intro tk t bz H locs ls hm_ ht htk hbz hP hD hS hl
      refine lv_iload_n hx hb d_M_halved_4 rfl (lv_at hl 3 rfl) ?_
      refine lv_aload_n hx hb d_M_halved_5 rfl (lv_at hl 0 rfl) ?_
      refine va_get (D := (dC, dI)) (ci := ciM) (v := .ref a1) (C := R_M) (T := F_M) (N := 9) hx hb hts (fun w h => List.mem_cons_of_mem _ (in_M w h)) hown hK hP 0 rfl rfl 2 (by decide) (hts (.fieldLink R_M 7 "PeriodWordsModel" "head" "[I") (List.mem_cons_of_mem _ mb_385)) (fun _ h9 => h9) rfl d_M_halved_6 ?_
      refine lv_iload_n hx hb d_M_halved_9 rfl (lv_at hl 1 rfl) ?_
      refine va_iald hx hb hK hP 1 0 rfl rfl (vp_in_nI (n := i) (by omega) (by omega)) d_M_halved_10 ?_
      refine pq_top (y := .int (xh i)) (by rw [pq_cl (by omega)]) ?_
      refine pq_top (y := .int (nI (h))) (by rw [e1]) ?_
      refine lv_iconst (v := nI 2) hx hb d_M_halved_11 (by decide) ?_
      refine lv_aload_n hx hb d_M_halved_12 rfl (lv_at hl 0 rfl) ?_
      refine va_get (D := (dC, dI)) (ci := ciM) (v := .ref a2) (C := R_M) (T := F_M) (N := 9) hx hb hts (fun w h => List.mem_cons_of_mem _ (in_M w h)) hown hK hP 0 rfl rfl 3 (by decide) (hts (.fieldLink R_M 13 "PeriodWordsModel" "ring" "[I") (List.mem_cons_of_mem _ mb_386)) (fun _ h9 => h9) rfl d_M_halved_13 ?_
      refine lv_iload_n hx hb d_M_halved_16 rfl (lv_at hl 1 rfl) ?_
      refine va_iald hx hb hK hP 2 1 rfl rfl (vp_in_nI (n := i) (by omega) (by omega)) d_M_halved_17 ?_
      refine pq_top (y := .int (yr i)) (by rw [pq_cl (by omega)]) ?_
      refine pq_top (y := .int (nI (pp))) (by rw [e2]) ?_
      refine pq_imul (a := 2) (b := pp) hx hb d_M_halved_18 ?_
      refine pq_iadd (a := h) (b := (2 * pp)) hx hb d_M_halved_19 ?_
      refine pq_icmp_ge (tgt := 69) (a := t) (b := (h + (2 * pp))) hx hb d_M_halved_20 (by decide) (by omega) (by omega) (fun c_20 => ?_) (fun c_20 => ?_)
      · refine lv_aload_n hx hb d_M_halved_69 rfl (lv_at hl 0 rfl) ?_
        refine lv_aload_n hx hb d_M_halved_70 rfl (lv_at hl 0 rfl) ?_
        refine va_get (D := (dC, dI)) (ci := ciM) (v := .ref a1) (C := R_M) (T := F_M) (N := 9) hx hb hts (fun w h => List.mem_cons_of_mem _ (in_M w h)) hown hK hP 0 rfl rfl 2 (by decide) (hts (.fieldLink R_M 7 "PeriodWordsModel" "head" "[I") (List.mem_cons_of_mem _ mb_385)) (fun _ h9 => h9) rfl d_M_halved_71 ?_
        refine lv_iload_n hx hb d_M_halved_74 rfl (lv_at hl 1 rfl) ?_
        refine va_iald hx hb hK hP 1 0 rfl rfl (vp_in_nI (n := i) (by omega) (by omega)) d_M_halved_75 ?_
        refine pq_top (y := .int (xh i)) (by rw [pq_cl (by omega)]) ?_
        refine pq_top (y := .int (nI (h))) (by rw [e1]) ?_
        refine lv_iconst (v := nI 2) hx hb d_M_halved_76 (by decide) ?_
        refine lv_aload_n hx hb d_M_halved_77 rfl (lv_at hl 0 rfl) ?_
        refine va_get (D := (dC, dI)) (ci := ciM) (v := .ref a2) (C := R_M) (T := F_M) (N := 9) hx hb hts (fun w h => List.mem_cons_of_mem _ (in_M w h)) hown hK hP 0 rfl rfl 3 (by decide) (hts (.fieldLink R_M 13 "PeriodWordsModel" "ring" "[I") (List.mem_cons_of_mem _ mb_386)) (fun _ h9 => h9) rfl d_M_halved_78 ?_
        refine lv_iload_n hx hb d_M_halved_81 rfl (lv_at hl 1 rfl) ?_
        refine va_iald hx hb hK hP 2 1 rfl rfl (vp_in_nI (n := i) (by omega) (by omega)) d_M_halved_82 ?_
        refine pq_top (y := .int (yr i)) (by rw [pq_cl (by omega)]) ?_
        refine pq_top (y := .int (nI (pp))) (by rw [e2]) ?_
        refine pq_imul (a := 2) (b := pp) hx hb d_M_halved_83 ?_
        have hFc := va_free (wc := [(o, .inr (ciM, [.int (th), .int (nI (n)), .ref a1, .ref a2, .ref a3, .ref a4, .ref a5, .int (mo), .int (le)])), (a1, .inl (c1, 40, .inl xh)), (a2, .inl (c2, 40, .inl yr)), (a3, .inl (c3, 40, .inr (.inl xb))), (a4, .inl (c4, 40, .inr (.inl yb))), (a5, .inl (c5, 7400, .inl bz))]) hD hS hA [0, 1, 2, 3, 4, 5] rfl
        refine va_calli (va_runV (As := [.int (nI (h)), .int (nI (2 * pp))]) (rest := []) ⟨hx, hb, hml, hown, hts⟩ (c_M_settle l dC dI (F := pw_mk 7 f f2 d) (fun j hj => hbz j (by omega)) (by omega) (by omega) (pw_E_half hE hp0 2 (by omega)) hn) (cwV 2 hts (gd_V mb_424 mb_426 mb_3 mb_23 mb_427) rfl rfl rfl (by decide +kernel) ⟨Nat.le_of_ble_eq_true rfl, Nat.le_of_ble_eq_true rfl⟩) ⟨md_blind, va_recv hK hP (ci := ciM) (q0 := 0) rfl rfl, fun U hU hW => ⟨rfl, by rw [hU], by rw [hU]; exact hP, va_K.moved hW.alike hK, hD.weaken (fun _ _ _ _ => trivial)⟩⟩ rfl rfl hl.1 rfl (lv_room (Nat.le_of_ble_eq_true rfl)) d_M_halved_84 ⟨Nat.le_of_ble_eq_true rfl, Nat.le_of_ble_eq_true rfl⟩) hS (fun q _ h => hFc q h) hFc (fun r_84 u_84 t_ H1 locs ht_ hvm_ hr_84 hB_ hz1_ hk1_ hS => ?_)
        obtain ⟨hP1_, hK1_, hD1_⟩ := hB_
        rw [ht_] at hP1_
        clear hP hD
        have hP := hP1_
        have hD := hD1_.weaken (fun k q _ h => hFc q.1 h)
        generalize H1 = H at hP hS ⊢
        have hP : va_P (dC, dI) vwCl [(o, .inr (ciM, [.int (u_84.1), .int (nI (u_84.2.1)), .ref a1, .ref a2, .ref a3, .ref a4, .ref a5, .int (u_84.2.2.1), .int (u_84.2.2.2.1)])), (a1, .inl (c1, 40, .inl u_84.2.2.2.2.1)), (a2, .inl (c2, 40, .inl u_84.2.2.2.2.2.1)), (a3, .inl (c3, 40, .inr (.inl u_84.2.2.2.2.2.2.1))), (a4, .inl (c4, 40, .inr (.inl u_84.2.2.2.2.2.2.2.1))), (a5, .inl (c5, 7400, .inl u_84.2.2.2.2.2.2.2.2))] H := hP
        have hD : va_D A [(o, .inr (ciM, [.int (u_84.1), .int (nI (u_84.2.1)), .ref a1, .ref a2, .ref a3, .ref a4, .ref a5, .int (u_84.2.2.1), .int (u_84.2.2.2.1)])), (a1, .inl (c1, 40, .inl u_84.2.2.2.2.1)), (a2, .inl (c2, 40, .inl u_84.2.2.2.2.2.1)), (a3, .inl (c3, 40, .inr (.inl u_84.2.2.2.2.2.2.1))), (a4, .inl (c4, 40, .inr (.inl u_84.2.2.2.2.2.2.2.1))), (a5, .inl (c5, 7400, .inl u_84.2.2.2.2.2.2.2.2))] := hD
        exact W.iret (v := (r_84)) hx hb hr (fun t_ ht_ hW_ => ⟨⟨_, u_84, rfl, hr_84, by rw [ht_]; exact hP, va_K.moved hW_.alike hK, hD⟩, hS.F ht_⟩) hS.2.2 d_M_halved_87
      · have htk2 := pw_lt2 (decide (pw_c f t % 2 = 0))
        have B_46 : ∀ (x : Nat) (H : Heap) (locs : List Loc) (ls : Array Slot), (x = (pw_mk 7 f f2 d t).toNat) → (va_P (dC, dI) vwCl [(o, .inr (ciM, [.int (th), .int (nI (n)), .ref a1, .ref a2, .ref a3, .ref a4, .ref a5, .int (mo), .int (le)])), (a1, .inl (c1, 40, .inl xh)), (a2, .inl (c2, 40, .inl yr)), (a3, .inl (c3, 40, .inr (.inl xb))), (a4, .inl (c4, 40, .inr (.inl yb))), (a5, .inl (c5, 7400, .inl bz))] H) → (va_D A [(o, .inr (ciM, [.int (th), .int (nI (n)), .ref a1, .ref a2, .ref a3, .ref a4, .ref a5, .int (mo), .int (le)])), (a1, .inl (c1, 40, .inl xh)), (a2, .inl (c2, 40, .inl yr)), (a3, .inl (c3, 40, .inr (.inl xb))), (a4, .inl (c4, 40, .inr (.inl yb))), (a5, .inl (c5, 7400, .inl bz))]) → (va_S A s.heap H locs) → lv_has ls 4 [(0, .ref o), (1, .int (nI (i))), (2, .int (nI (tk))), (3, .int (nI (t)))] → W p l e (headSpec ws_M_halved ({ frames := 2, cells := 0, slots := 0, locals := 49 } : Room)).room s m ([.ref o, .int (nI (i))]).toArray below meth c H locs 0 0 (MQ below (va_Qi (fun r u => md_set (pw_mk 7 f f2 d) n xh yr xb yb r u ∧ u.1 = th) (md_B dC dI A o a1 a2 a3 a4 a5 c1 c2 c3 c4 c5) A) ([.ref o, .int (nI (i))]).toArray s 0 0 A) (F0 m 46 ls [.int (nI (x)), .int (nI (t)), .ref a5]) := by
          intro x H locs ls hx2 hP hD hS hl
          refine va_zast hx hb hK hP hD hS 5 4 rfl rfl (vp_in_nI (n := t) (by omega) (by omega)) d_M_halved_46 (fun H locs hP hD hS => ?_)
          rw [pq_cl (by omega)] at hP hD
          have hP : va_P (dC, dI) vwCl [(o, .inr (ciM, [.int (th), .int (nI (n)), .ref a1, .ref a2, .ref a3, .ref a4, .ref a5, .int (mo), .int (le)])), (a1, .inl (c1, 40, .inl xh)), (a2, .inl (c2, 40, .inl yr)), (a3, .inl (c3, 40, .inr (.inl xb))), (a4, .inl (c4, 40, .inr (.inl yb))), (a5, .inl (c5, 7400, .inl (upd bz t (vp_nar .boolean (nI (x))))))] H := hP
          have hD : va_D A [(o, .inr (ciM, [.int (th), .int (nI (n)), .ref a1, .ref a2, .ref a3, .ref a4, .ref a5, .int (mo), .int (le)])), (a1, .inl (c1, 40, .inl xh)), (a2, .inl (c2, 40, .inl yr)), (a3, .inl (c3, 40, .inr (.inl xb))), (a4, .inl (c4, 40, .inr (.inl yb))), (a5, .inl (c5, 7400, .inl (upd bz t (vp_nar .boolean (nI (x))))))] := hD
          refine lv_aload_n hx hb d_M_halved_47 rfl (lv_at hl 0 rfl) ?_
          refine lv_iload_n hx hb d_M_halved_48 rfl (lv_at hl 1 rfl) ?_
          refine lv_iload_n hx hb d_M_halved_49 rfl (lv_at hl 3 rfl) ?_
          refine vp_callSi (W.runV (As := [.int (nI (i)), .int (nI (t))]) (rest := []) ⟨hx, hb, hml, hown, hts⟩ (c_M_has l dC dI hmd (t := t) (by omega)) (cwV 2 hts (gd_V mb_455 mb_457 mb_9 mb_23 mb_458) rfl rfl rfl (by decide +kernel) ⟨Nat.le_of_ble_eq_true rfl, Nat.le_of_ble_eq_true rfl⟩) (pw_R_V (va_recv hK hP (ci := ciM) (q0 := 0) rfl rfl) hP hK) rfl rfl hl.1 rfl (lv_room (Nat.le_of_ble_eq_true rfl)) d_M_halved_50 ⟨Nat.le_of_ble_eq_true rfl, Nat.le_of_ble_eq_true rfl⟩) (fun r_50 hr_50 => ?_)
          subst hr_50
          refine lv_iload_n hx hb d_M_halved_53 rfl (lv_at hl 2 rfl) ?_
          refine pq_icmp_eq (tgt := 61) (a := ((f t).toNat)) (b := tk) hx hb d_M_halved_54 (by decide) (by have := pw_lt2 (f t); omega) (by omega) (fun c_54 => ?_) (fun c_54 => ?_)
          · refine lv_iconst (v := nI 0) hx hb d_M_halved_61 (by decide) ?_
            refine lv_istore_n (lv' := [(2, .int (nI (0))), (0, .ref o), (1, .int (nI (i))), (3, .int (nI (t)))]) hx hb d_M_halved_62 rfl hl (by decide) rfl (fun ls hl => ?_)
            refine lv_iinc (v := nI (t + 1)) (lv' := [(3, .int (nI (t + 1))), (2, .int (nI (0))), (0, .ref o), (1, .int (nI (i)))]) hx hb d_M_halved_63 hl (k := 3) rfl (pq_inc _) (by decide) rfl (fun ls hl => ?_)
            refine lv_goto (tgt := 4) hx hb d_M_halved_66 (by decide) ?_
            exact ih_4 (0) (t + 1) (upd bz t (vp_nar .boolean (nI (x)))) _ _ ls (by omega) (by omega) (pw_tkn htk (by omega)) (md_put hbz hx2) hP hD hS (lv_sub hl [2, 3, 1, 0] rfl)
          · refine lv_iconst (v := nI 1) hx hb d_M_halved_57 (by decide) ?_
            refine lv_goto (tgt := 62) hx hb d_M_halved_58 (by decide) ?_
            refine lv_istore_n (lv' := [(2, .int (nI (1))), (0, .ref o), (1, .int (nI (i))), (3, .int (nI (t)))]) hx hb d_M_halved_62 rfl hl (by decide) rfl (fun ls hl => ?_)
            refine lv_iinc (v := nI (t + 1)) (lv' := [(3, .int (nI (t + 1))), (2, .int (nI (1))), (0, .ref o), (1, .int (nI (i)))]) hx hb d_M_halved_63 hl (k := 3) rfl (pq_inc _) (by decide) rfl (fun ls hl => ?_)
            refine lv_goto (tgt := 4) hx hb d_M_halved_66 (by decide) ?_
            exact ih_4 (1) (t + 1) (upd bz t (vp_nar .boolean (nI (x)))) _ _ ls (by omega) (by omega) (pw_tkn htk (by omega)) (md_put hbz hx2) hP hD hS (lv_sub hl [2, 3, 1, 0] rfl)
        refine lv_aload_n hx hb d_M_halved_23 rfl (lv_at hl 0 rfl) ?_
        refine va_get (D := (dC, dI)) (ci := ciM) (v := .ref a5) (C := R_M) (T := F_M) (N := 9) hx hb hts (fun w h => List.mem_cons_of_mem _ (in_M w h)) hown hK hP 0 rfl rfl 6 (by decide) (hts (.fieldLink R_M 23 "PeriodWordsModel" "bits" "[Z") (List.mem_cons_of_mem _ mb_389)) (fun _ h9 => h9) rfl d_M_halved_24 ?_
        refine lv_iload_n hx hb d_M_halved_27 rfl (lv_at hl 3 rfl) ?_
        refine lv_aload_n hx hb d_M_halved_28 rfl (lv_at hl 0 rfl) ?_
        refine lv_iload_n hx hb d_M_halved_29 rfl (lv_at hl 1 rfl) ?_
        refine lv_iload_n hx hb d_M_halved_30 rfl (lv_at hl 3 rfl) ?_
        refine vp_callSi (W.runV (As := [.int (nI (i)), .int (nI (t))]) (rest := [.int (nI (t)), .ref a5]) ⟨hx, hb, hml, hown, hts⟩ (c_M_has l dC dI hmd (t := t) (by omega)) (cwV 2 hts (gd_V mb_455 mb_457 mb_9 mb_23 mb_458) rfl rfl rfl (by decide +kernel) ⟨Nat.le_of_ble_eq_true rfl, Nat.le_of_ble_eq_true rfl⟩) (pw_R_V (va_recv hK hP (ci := ciM) (q0 := 0) rfl rfl) hP hK) rfl rfl hl.1 rfl (lv_room (Nat.le_of_ble_eq_true rfl)) d_M_halved_31 ⟨Nat.le_of_ble_eq_true rfl, Nat.le_of_ble_eq_true rfl⟩) (fun r_31 hr_31 => ?_)
        subst hr_31
        refine pq_if_eq (tgt := 45) (a := ((f t).toNat)) hx hb d_M_halved_34 (by decide) (by have := pw_lt2 (f t); omega) (fun c_34 => ?_) (fun c_34 => ?_)
        · refine lv_iconst (v := nI 0) hx hb d_M_halved_45 (by decide) ?_
          exact B_46 (0) _ _ ls (by show _ = (f t && decide (pw_c f t % 2 = 0)).toNat; rcases pw_bt (f t) with q | q <;> rcases pw_bt (decide (pw_c f t % 2 = 0)) with q2 | q2 <;> rw [q.2, q2.2] <;> first | rfl | (exfalso; omega)) hP hD hS (lv_sub hl [0, 1, 2, 3] rfl)
        · refine lv_iload_n hx hb d_M_halved_37 rfl (lv_at hl 2 rfl) ?_
          refine pq_if_eq (tgt := 45) (a := tk) hx hb d_M_halved_38 (by decide) (by omega) (fun c_38 => ?_) (fun c_38 => ?_)
          · refine lv_iconst (v := nI 0) hx hb d_M_halved_45 (by decide) ?_
            exact B_46 (0) _ _ ls (by show _ = (f t && decide (pw_c f t % 2 = 0)).toNat; rcases pw_bt (f t) with q | q <;> rcases pw_bt (decide (pw_c f t % 2 = 0)) with q2 | q2 <;> rw [q.2, q2.2] <;> first | rfl | (exfalso; omega)) hP hD hS (lv_sub hl [0, 1, 2, 3] rfl)
          · refine lv_iconst (v := nI 1) hx hb d_M_halved_41 (by decide) ?_
            refine lv_goto (tgt := 46) hx hb d_M_halved_42 (by decide) ?_
            exact B_46 (1) _ _ ls (by show _ = (f t && decide (pw_c f t % 2 = 0)).toNat; rcases pw_bt (f t) with q | q <;> rcases pw_bt (decide (pw_c f t % 2 = 0)) with q2 | q2 <;> rw [q.2, q2.2] <;> first | rfl | (exfalso; omega)) hP hD hS (lv_sub hl [0, 1, 2, 3] rfl)
  exact B_4 _ (1) (0) (bs) _ _ ls (Nat.lt_succ_self _) (by omega) rfl (fun j hj => absurd hj (Nat.not_lt_zero j)) hP hD hS (lv_sub hl [2, 3, 1, 0] rfl)
