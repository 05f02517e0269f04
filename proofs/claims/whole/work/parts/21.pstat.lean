set_option maxHeartbeats 4000000 in
set_option maxRecDepth 100000 in
theorem c_P_cd (l : Launch) (dC : Nat → ClassId) (dI : Nat → Nat → Nat) {x y : Nat} (hx1 : x ≤ 60) (hy0 : 0 < y) (hy : y ≤ 60) : Met l y_P_commonDivisor ws_P_commonDivisor ({ frames := 1, cells := 0, slots := 0, locals := 21 } : Room) (pw_R [.int (nI (x)), .int (nI (y))] dC dI [] []) (vp_Si (fun r => r = nI (Nat.gcd x y))) 0 0 (fun _ => False) := by
  refine Met.ofW (cc := b_P_commonDivisor) (maxL := 6) (ret := (some .int)) (by decide) rfl ?_
  intro p e s m args below meth c s₁ B hml hv
  obtain ⟨rfl, hP, hK⟩ := hv
  have hx := B.exec
  have hb := B.bytes
  have hr := B.returns
  have hts := atoms_spec (ws := ws_P_commonDivisor) B.pre
  have hown : s.vm.findClass R_P = some m.cls := findClass_of_methodNamed B.named
  have hlocks := B.notSynchronized
  have hl := lv_entry ([.int (nI (x)), .int (nI (y))]) (n := 6) (Nat.le_of_ble_eq_true rfl)
  rw [lg_entry_eq]
  generalize (lg_sl ([.int (nI (x)), .int (nI (y))]) ++ List.replicate (6 - (lg_sl ([.int (nI (x)), .int (nI (y))])).length) Slot.unset).toArray = ls at hl ⊢
  have hl : lv_has ls 6 [(0, .int (nI (x))), (1, .int (nI (y)))] := hl
  refine lv_iload_n hx hb d_P_commonDivisor_0 rfl (lv_at hl 0 rfl) ?_
  refine lv_istore_n (lv' := [(2, .int (nI (x))), (0, .int (nI (x))), (1, .int (nI (y)))]) hx hb d_P_commonDivisor_1 rfl hl (by decide) rfl (fun ls hl => ?_)
  refine lv_iload_n hx hb d_P_commonDivisor_2 rfl (lv_at hl 2 rfl) ?_
  refine lv_istore_n (lv' := [(3, .int (nI (y))), (2, .int (nI (x))), (0, .int (nI (x))), (1, .int (nI (y)))]) hx hb d_P_commonDivisor_3 rfl hl (by decide) rfl (fun ls hl => ?_)
  refine lv_iconst (v := nI 0) hx hb d_P_commonDivisor_4 (by decide) ?_
  refine lv_istore (lv' := [(4, .int (nI (0))), (3, .int (nI (y))), (2, .int (nI (x))), (0, .int (nI (x))), (1, .int (nI (y)))]) hx hb d_P_commonDivisor_5 hl (by decide) rfl (fun ls hl => ?_)
  have B_7 : ∀ (k_ : Nat) (big : Nat) (small : Nat) (i : Nat) (ls : Array Slot), (small) < k_ → (i + small ≤ 60) → (Nat.gcd big small = Nat.gcd x y) → (big ≤ 60) → lv_has ls 6 [(2, .int (nI (big))), (3, .int (nI (small))), (4, .int (nI (i)))] → W p l e (headSpec ws_P_commonDivisor ({ frames := 1, cells := 0, slots := 0, locals := 21 } : Room)).room s m ([.int (nI (x)), .int (nI (y))]).toArray below meth c s.heap [] 0 0 (MQ below (vp_Si (fun r => r = nI (Nat.gcd x y))) ([.int (nI (x)), .int (nI (y))]).toArray s 0 0 (fun _ => False)) (F0 m 7 ls []) := by
    intro k_
    induction k_ with
    | zero => intro big small i ls h_; omega
    | succ k_ ih_7 =>
      intro big small i ls hm_ hi1 hg hbg hl
      refine lv_iload hx hb d_P_commonDivisor_7 (lv_at hl 2 rfl) ?_
      refine lv_bipush (v := nI 100) hx hb d_P_commonDivisor_9 (by decide) ?_
      refine pq_icmp_ge (tgt := 34) (a := i) (b := 100) hx hb d_P_commonDivisor_11 (by decide) (by omega) (by omega) (fun c_11 => absurd c_11 (by omega)) (fun c_11 => ?_)
      refine lv_iload_n hx hb d_P_commonDivisor_14 rfl (lv_at hl 1 rfl) ?_
      refine pq_if_eq (tgt := 34) (a := small) hx hb d_P_commonDivisor_15 (by decide) (by omega) (fun c_15 => ?_) (fun c_15 => ?_)
      · refine lv_iconst (v := nI 1) hx hb d_P_commonDivisor_34 (by decide) ?_
        refine lv_iload_n hx hb d_P_commonDivisor_35 rfl (lv_at hl 0 rfl) ?_
        refine va_mmax hx hb (hml.trans hl.1.symm) hown (hts (.methodLink R_P 127 Lib.Math.max.name) (List.mem_cons_of_mem _ mb_149)) (hts (.static Lib.Math.max.name) (List.mem_cons_of_mem _ mb_65)) (hts (.initialized "java/lang/Math") (List.mem_cons_of_mem _ mb_25)) (hts (.code Lib.Math.max.name Lib.Math.max.code 2 (some .int)) (List.mem_cons_of_mem _ mb_66)) (Nat.le_of_ble_eq_true rfl) (Nat.le_of_ble_eq_true rfl) (Nat.le_of_ble_eq_true rfl) (Nat.le_of_ble_eq_true rfl) d_P_commonDivisor_36 ?_
        refine pq_top (y := .int (nI (max 1 big))) (by rw [pq_max (by omega) (by omega)]) ?_
        exact W.iret (v := (nI (max 1 big))) hx hb hr (fun t_ ht_ hW_ => ⟨_, rfl, by (try dsimp only); rw [c_15, Nat.gcd_zero_right] at hg; have := Nat.gcd_pos_of_pos_right x hy0; rw [hg, Nat.max_eq_right (by omega)], ht_⟩) (fun q h => absurd h List.not_mem_nil) d_P_commonDivisor_39
      · refine lv_iload_n hx hb d_P_commonDivisor_18 rfl (lv_at hl 0 rfl) ?_
        refine lv_iload_n hx hb d_P_commonDivisor_19 rfl (lv_at hl 1 rfl) ?_
        refine pq_irem (a := big) (b := small) hx hb d_P_commonDivisor_20 (by omega) (by omega) (by omega) ?_
        refine lv_istore (lv' := [(5, .int (nI (big % small))), (2, .int (nI (big))), (3, .int (nI (small))), (4, .int (nI (i)))]) hx hb d_P_commonDivisor_21 hl (by decide) rfl (fun ls hl => ?_)
        refine lv_iload_n hx hb d_P_commonDivisor_23 rfl (lv_at hl 2 rfl) ?_
        refine lv_istore_n (lv' := [(2, .int (nI (small))), (5, .int (nI (big % small))), (3, .int (nI (small))), (4, .int (nI (i)))]) hx hb d_P_commonDivisor_24 rfl hl (by decide) rfl (fun ls hl => ?_)
        refine lv_iload hx hb d_P_commonDivisor_25 (lv_at hl 1 rfl) ?_
        refine lv_istore_n (lv' := [(3, .int (nI (big % small))), (2, .int (nI (small))), (5, .int (nI (big % small))), (4, .int (nI (i)))]) hx hb d_P_commonDivisor_27 rfl hl (by decide) rfl (fun ls hl => ?_)
        refine lv_iinc (v := nI (i + 1)) (lv' := [(4, .int (nI (i + 1))), (3, .int (nI (big % small))), (2, .int (nI (small))), (5, .int (nI (big % small)))]) hx hb d_P_commonDivisor_28 hl (k := 3) rfl (pq_inc _) (by decide) rfl (fun ls hl => ?_)
        have hlt := Nat.mod_lt big c_15
        refine lv_goto (tgt := 7) hx hb d_P_commonDivisor_31 (by decide) ?_
        exact ih_7 (small) (big % small) (i + 1) ls (by omega) (by omega) (by rw [Nat.gcd_comm, ← Nat.gcd_rec, Nat.gcd_comm]; exact hg) (by omega) (lv_sub hl [2, 1, 0] rfl)
  exact B_7 _ (x) (y) (0) ls (Nat.lt_succ_self _) (by omega) rfl hx1 (lv_sub hl [2, 1, 0] rfl)
set_option maxHeartbeats 4000000 in
set_option maxRecDepth 100000 in
theorem c_P_cm (l : Launch) (dC : Nat → ClassId) (dI : Nat → Nat → Nat) {x y : Nat} (hx1 : x ≤ 60) (hy0 : 0 < y) (hy : y ≤ 60) : Met l y_P_commonMultiple ws_P_commonMultiple ({ frames := 2, cells := 0, slots := 0, locals := 46 } : Room) (pw_R [.int (nI (x)), .int (nI (y))] dC dI [] []) (vp_Si (fun r => r = nI (x / Nat.gcd x y * y))) 0 0 (fun _ => False) := by
  refine Met.ofW (cc := b_P_commonMultiple) (maxL := 2) (ret := (some .int)) (by decide) rfl ?_
  intro p e s m args below meth c s₁ B hml hv
  obtain ⟨rfl, hP, hK⟩ := hv
  have hx := B.exec
  have hb := B.bytes
  have hr := B.returns
  have hts := atoms_spec (ws := ws_P_commonMultiple) B.pre
  have hown : s.vm.findClass R_P = some m.cls := findClass_of_methodNamed B.named
  have hlocks := B.notSynchronized
  have hg0 := Nat.gcd_pos_of_pos_right x hy0
  have hg1 := Nat.gcd_le_right x hy0
  have hl := lv_entry ([.int (nI (x)), .int (nI (y))]) (n := 2) (Nat.le_of_ble_eq_true rfl)
  rw [lg_entry_eq]
  generalize (lg_sl ([.int (nI (x)), .int (nI (y))]) ++ List.replicate (2 - (lg_sl ([.int (nI (x)), .int (nI (y))])).length) Slot.unset).toArray = ls at hl ⊢
  have hl : lv_has ls 2 [(0, .int (nI (x))), (1, .int (nI (y)))] := hl
  refine lv_iload_n hx hb d_P_commonMultiple_0 rfl (lv_at hl 0 rfl) ?_
  refine lv_iload_n hx hb d_P_commonMultiple_1 rfl (lv_at hl 0 rfl) ?_
  refine lv_iload_n hx hb d_P_commonMultiple_2 rfl (lv_at hl 1 rfl) ?_
  refine vp_callSi (W.runS (As := [.int (nI (x)), .int (nI (y))]) (rest := [.int (nI (x))]) ⟨hx, hb, hml, hown, hts⟩ (c_P_cd l dC dI hx1 hy0 hy) (va_cwS 2 hts (gd_S mb_150 mb_151 mb_22 mb_152) rfl rfl rfl (by decide +kernel) ⟨Nat.le_of_ble_eq_true rfl, Nat.le_of_ble_eq_true rfl⟩) (pw_R_S pw_P0 (hK.sub [] rfl)) rfl rfl hl.1 rfl (lv_room (Nat.le_of_ble_eq_true rfl)) d_P_commonMultiple_3 ⟨Nat.le_of_ble_eq_true rfl, Nat.le_of_ble_eq_true rfl⟩) (fun r_3 hr_3 => ?_)
  subst hr_3
  refine pq_idiv (a := x) (b := (Nat.gcd x y)) hx hb d_P_commonMultiple_6 (by omega) (by omega) (by omega) ?_
  refine lv_iload_n hx hb d_P_commonMultiple_7 rfl (lv_at hl 1 rfl) ?_
  refine pq_imul (a := (x / (Nat.gcd x y))) (b := y) hx hb d_P_commonMultiple_8 ?_
  exact W.iret (v := (nI ((x / (Nat.gcd x y)) * y))) hx hb hr (fun t_ ht_ hW_ => ⟨_, rfl, rfl, ht_⟩) (fun q h => absurd h List.not_mem_nil) d_P_commonMultiple_9
set_option maxHeartbeats 4000000 in
set_option maxRecDepth 100000 in
theorem c_compare (l : Launch) (dC : Nat → ClassId) (dI : Nat → Nat → Nat) {x y : Nat} (hx1 : x < 2147483648) (hy1 : y < 2147483648) : Met l y_JI_compare ws_JI_compare ({ frames := 0, cells := 0, slots := 0, locals := 0 } : Room) (pw_R [.int (nI (x)), .int (nI (y))] dC dI [] []) (vp_Si (fun r => r = if x < y then (-1) else if x = y then nI 0 else nI 1)) 0 0 (fun _ => False) := by
  refine Met.ofW (cc := b_JI_compare) (maxL := 2) (ret := (some .int)) (by decide) rfl ?_
  intro p e s m args below meth c s₁ B hml hv
  obtain ⟨rfl, hP, hK⟩ := hv
  have hx := B.exec
  have hb := B.bytes
  have hr := B.returns
  have hts := atoms_spec (ws := ws_JI_compare) B.pre
  have hown : s.vm.findClass R_JI = some m.cls := findClass_of_methodNamed B.named
  have hlocks := B.notSynchronized
  have hl := lv_entry ([.int (nI (x)), .int (nI (y))]) (n := 2) (Nat.le_of_ble_eq_true rfl)
  rw [lg_entry_eq]
  generalize (lg_sl ([.int (nI (x)), .int (nI (y))]) ++ List.replicate (2 - (lg_sl ([.int (nI (x)), .int (nI (y))])).length) Slot.unset).toArray = ls at hl ⊢
  have hl : lv_has ls 2 [(0, .int (nI (x))), (1, .int (nI (y)))] := hl
  refine lv_iload_n hx hb d_JI_compare_0 rfl (lv_at hl 0 rfl) ?_
  refine lv_iload_n hx hb d_JI_compare_1 rfl (lv_at hl 1 rfl) ?_
  refine pq_icmp_ge (tgt := 9) (a := x) (b := y) hx hb d_JI_compare_2 (by decide) (by omega) (by omega) (fun c_2 => ?_) (fun c_2 => ?_)
  · refine lv_iload_n hx hb d_JI_compare_9 rfl (lv_at hl 0 rfl) ?_
    refine lv_iload_n hx hb d_JI_compare_10 rfl (lv_at hl 1 rfl) ?_
    refine pq_icmp_ne (tgt := 18) (a := x) (b := y) hx hb d_JI_compare_11 (by decide) (by omega) (by omega) (fun c_11 => ?_) (fun c_11 => ?_)
    · refine lv_iconst (v := nI 1) hx hb d_JI_compare_18 (by decide) ?_
      exact W.iret (v := (nI (1))) hx hb hr (fun t_ ht_ hW_ => ⟨_, rfl, by (try dsimp only); (repeat' split) <;> first | rfl | (exfalso; omega), ht_⟩) (fun q h => absurd h List.not_mem_nil) d_JI_compare_19
    · refine lv_iconst (v := nI 0) hx hb d_JI_compare_14 (by decide) ?_
      refine lv_goto (tgt := 19) hx hb d_JI_compare_15 (by decide) ?_
      exact W.iret (v := (nI (0))) hx hb hr (fun t_ ht_ hW_ => ⟨_, rfl, by (try dsimp only); (repeat' split) <;> first | rfl | (exfalso; omega), ht_⟩) (fun q h => absurd h List.not_mem_nil) d_JI_compare_19
  · refine lv_iconst (v := (-1)) hx hb d_JI_compare_5 (by decide) ?_
    refine lv_goto (tgt := 19) hx hb d_JI_compare_6 (by decide) ?_
    exact W.iret (v := (-1)) hx hb hr (fun t_ ht_ hW_ => ⟨_, rfl, by (try dsimp only); (repeat' split) <;> first | rfl | (exfalso; omega), ht_⟩) (fun q h => absurd h List.not_mem_nil) d_JI_compare_19
set_option maxHeartbeats 4000000 in
set_option maxRecDepth 100000 in
theorem c_P_compareRates (l : Launch) (dC : Nat → ClassId) (dI : Nat → Nat → Nat) {a q h pp : Nat} {cA : ClassId} {f : Nat → Bool} {pl : Nat → Int32} (hw : wd_ok h pp f) {a2 q2 h2 pp2 : Nat} {cA2 : ClassId} {f2 : Nat → Bool} {pl2 : Nat → Int32} (hw2 : wd_ok h2 pp2 f2) : Met l y_P_compareRates ws_P_compareRates ({ frames := 1, cells := 0, slots := 0, locals := 21 } : Room) (pw_R [.ref a, .ref a2] dC dI [(cA, .int), (cA2, .int)] (wd a q cA h pp f pl ++ wd a2 q2 cA2 h2 pp2 f2 pl2)) (vp_Si (fun r => r = if pw_o f h pp * pp2 < pw_o f2 h2 pp2 * pp then (-1) else if pw_o f h pp * pp2 = pw_o f2 h2 pp2 * pp then nI 0 else nI 1)) 0 0 (fun _ => False) := by
  refine Met.ofW (cc := b_P_compareRates) (maxL := 2) (ret := (some .int)) (by decide) rfl ?_
  intro p e s m args below meth c s₁ B hml hv
  obtain ⟨rfl, hP, hK⟩ := hv
  have hx := B.exec
  have hb := B.bytes
  have hr := B.returns
  have hts := atoms_spec (ws := ws_P_compareRates) B.pre
  have hown : s.vm.findClass R_P = some m.cls := findClass_of_methodNamed B.named
  have hlocks := B.notSynchronized
  have hw0 := hw; obtain ⟨hh, hp0, hp6, hE⟩ := hw0
  have ho := pw_o_le f h pp
  have hc := pw_c_le f h
  have hw20 := hw2; obtain ⟨hh2, hp02, hp62, hE2⟩ := hw20
  have ho2 := pw_o_le f2 h2 pp2
  have hc2 := pw_c_le f2 h2
  have hPa := hP.sub (ws' := wd a q cA h pp f pl) [0, 1] rfl
  have hKa := hK.sub (tys' := [(cA, .int)]) [0] rfl
  have hPb := hP.sub (ws' := wd a2 q2 cA2 h2 pp2 f2 pl2) [2, 3] rfl
  have hKb := hK.sub (tys' := [(cA2, .int)]) [1] rfl
  have m1 : pw_o f h pp * pp2 ≤ 60 * 60 := Nat.mul_le_mul (by omega) (by omega)
  have m2 : pw_o f2 h2 pp2 * pp ≤ 60 * 60 := Nat.mul_le_mul (by omega) (by omega)
  have hl := lv_entry ([.ref a, .ref a2]) (n := 2) (Nat.le_of_ble_eq_true rfl)
  rw [lg_entry_eq]
  generalize (lg_sl ([.ref a, .ref a2]) ++ List.replicate (2 - (lg_sl ([.ref a, .ref a2])).length) Slot.unset).toArray = ls at hl ⊢
  have hl : lv_has ls 2 [(0, .ref a), (1, .ref a2)] := hl
  refine lv_aload_n hx hb d_P_compareRates_0 rfl (lv_at hl 0 rfl) ?_
  refine va_get (D := (dC, dI)) (ci := ciW) (v := .int (nI (pw_o f h pp))) (C := R_W) (T := F_W) (N := 7) hx hb hts (fun w h => List.mem_cons_of_mem _ (in_W w h)) hown hKa hPa 0 rfl rfl 5 (by decide) (hts (.fieldLink R_P 42 "PeriodWords$Word" "ringOnes" "I") (List.mem_cons_of_mem _ mb_90)) (fun _ h9 => h9) rfl d_P_compareRates_1 ?_
  refine lv_aload_n hx hb d_P_compareRates_4 rfl (lv_at hl 1 rfl) ?_
  refine va_get (D := (dC, dI)) (ci := ciW) (v := .int (nI (pp2))) (C := R_W) (T := F_W) (N := 7) hx hb hts (fun w h => List.mem_cons_of_mem _ (in_W w h)) hown hKb hPb 0 rfl rfl 2 (by decide) (hts (.fieldLink R_P 55 "PeriodWords$Word" "ringLength" "I") (List.mem_cons_of_mem _ mb_84)) (fun _ h9 => h9) rfl d_P_compareRates_5 ?_
  refine pq_imul (a := (pw_o f h pp)) (b := pp2) hx hb d_P_compareRates_8 ?_
  refine lv_aload_n hx hb d_P_compareRates_9 rfl (lv_at hl 1 rfl) ?_
  refine va_get (D := (dC, dI)) (ci := ciW) (v := .int (nI (pw_o f2 h2 pp2))) (C := R_W) (T := F_W) (N := 7) hx hb hts (fun w h => List.mem_cons_of_mem _ (in_W w h)) hown hKb hPb 0 rfl rfl 5 (by decide) (hts (.fieldLink R_P 42 "PeriodWords$Word" "ringOnes" "I") (List.mem_cons_of_mem _ mb_90)) (fun _ h9 => h9) rfl d_P_compareRates_10 ?_
  refine lv_aload_n hx hb d_P_compareRates_13 rfl (lv_at hl 0 rfl) ?_
  refine va_get (D := (dC, dI)) (ci := ciW) (v := .int (nI (pp))) (C := R_W) (T := F_W) (N := 7) hx hb hts (fun w h => List.mem_cons_of_mem _ (in_W w h)) hown hKa hPa 0 rfl rfl 2 (by decide) (hts (.fieldLink R_P 55 "PeriodWords$Word" "ringLength" "I") (List.mem_cons_of_mem _ mb_84)) (fun _ h9 => h9) rfl d_P_compareRates_14 ?_
  refine pq_imul (a := (pw_o f2 h2 pp2)) (b := pp) hx hb d_P_compareRates_17 ?_
  refine vp_callSi (W.runS (As := [.int (nI ((pw_o f h pp) * pp2)), .int (nI ((pw_o f2 h2 pp2) * pp))]) (rest := []) ⟨hx, hb, hml, hown, hts⟩ (c_compare l dC dI (x := pw_o f h pp * pp2) (y := pw_o f2 h2 pp2 * pp) (by omega) (by omega)) (va_cwS 2 hts (gd_S mb_233 mb_234 mb_33 mb_235) rfl rfl rfl (by decide +kernel) ⟨Nat.le_of_ble_eq_true rfl, Nat.le_of_ble_eq_true rfl⟩) (pw_R_S pw_P0 (hK.sub [] rfl)) rfl rfl hl.1 rfl (lv_room (Nat.le_of_ble_eq_true rfl)) d_P_compareRates_18 ⟨Nat.le_of_ble_eq_true rfl, Nat.le_of_ble_eq_true rfl⟩) (fun r_18 hr_18 => ?_)
  subst hr_18
  exact W.iret (v := (if pw_o f h pp * pp2 < pw_o f2 h2 pp2 * pp then (-1) else if pw_o f h pp * pp2 = pw_o f2 h2 pp2 * pp then nI 0 else nI 1)) hx hb hr (fun t_ ht_ hW_ => ⟨_, rfl, rfl, ht_⟩) (fun q h => absurd h List.not_mem_nil) d_P_compareRates_21
set_option maxHeartbeats 4000000 in
set_option maxRecDepth 100000 in
theorem c_P_mostKept (l : Launch) (dC : Nat → ClassId) (dI : Nat → Nat → Nat) {a q h pp : Nat} {cA : ClassId} {f : Nat → Bool} {pl : Nat → Int32} (hw : wd_ok h pp f) {a2 q2 h2 pp2 : Nat} {cA2 : ClassId} {f2 : Nat → Bool} {pl2 : Nat → Int32} (hw2 : wd_ok h2 pp2 f2) : Met l y_P_mostKept ws_P_mostKept ({ frames := 3, cells := 0, slots := 0, locals := 67 } : Room) (pw_R [.ref a, .ref a2] dC dI [(cA, .int), (cA2, .int)] (wd a q cA h pp f pl ++ wd a2 q2 cA2 h2 pp2 f2 pl2)) (vp_Si (fun r => r = nI (pw_ks f f2 (max h h2 + pp / Nat.gcd pp pp2 * pp2)))) 0 0 (fun _ => False) := by
  refine Met.ofW (cc := b_P_mostKept) (maxL := 6) (ret := (some .int)) (by decide) rfl ?_
  intro p e s m args below meth c s₁ B hml hv
  obtain ⟨rfl, hP, hK⟩ := hv
  have hx := B.exec
  have hb := B.bytes
  have hr := B.returns
  have hts := atoms_spec (ws := ws_P_mostKept) B.pre
  have hown : s.vm.findClass R_P = some m.cls := findClass_of_methodNamed B.named
  have hlocks := B.notSynchronized
  have hw0 := hw; obtain ⟨hh, hp0, hp6, hE⟩ := hw0
  have ho := pw_o_le f h pp
  have hc := pw_c_le f h
  have hw20 := hw2; obtain ⟨hh2, hp02, hp62, hE2⟩ := hw20
  have ho2 := pw_o_le f2 h2 pp2
  have hc2 := pw_c_le f2 h2
  have hPa := hP.sub (ws' := wd a q cA h pp f pl) [0, 1] rfl
  have hKa := hK.sub (tys' := [(cA, .int)]) [0] rfl
  have hPb := hP.sub (ws' := wd a2 q2 cA2 h2 pp2 f2 pl2) [2, 3] rfl
  have hKb := hK.sub (tys' := [(cA2, .int)]) [1] rfl
  have m3 : pp / Nat.gcd pp pp2 * pp2 ≤ 60 * 60 := Nat.mul_le_mul (Nat.le_trans (Nat.div_le_self _ _) hp6) hp62
  have hl := lv_entry ([.ref a, .ref a2]) (n := 6) (Nat.le_of_ble_eq_true rfl)
  rw [lg_entry_eq]
  generalize (lg_sl ([.ref a, .ref a2]) ++ List.replicate (6 - (lg_sl ([.ref a, .ref a2])).length) Slot.unset).toArray = ls at hl ⊢
  have hl : lv_has ls 6 [(0, .ref a), (1, .ref a2)] := hl
  refine lv_aload_n hx hb d_P_mostKept_0 rfl (lv_at hl 0 rfl) ?_
  refine va_get (D := (dC, dI)) (ci := ciW) (v := .int (nI (h))) (C := R_W) (T := F_W) (N := 7) hx hb hts (fun w h => List.mem_cons_of_mem _ (in_W w h)) hown hKa hPa 0 rfl rfl 0 (by decide) (hts (.fieldLink R_P 52 "PeriodWords$Word" "headLength" "I") (List.mem_cons_of_mem _ mb_80)) (fun _ h9 => h9) rfl d_P_mostKept_1 ?_
  refine lv_aload_n hx hb d_P_mostKept_4 rfl (lv_at hl 1 rfl) ?_
  refine va_get (D := (dC, dI)) (ci := ciW) (v := .int (nI (h2))) (C := R_W) (T := F_W) (N := 7) hx hb hts (fun w h => List.mem_cons_of_mem _ (in_W w h)) hown hKb hPb 0 rfl rfl 0 (by decide) (hts (.fieldLink R_P 52 "PeriodWords$Word" "headLength" "I") (List.mem_cons_of_mem _ mb_80)) (fun _ h9 => h9) rfl d_P_mostKept_5 ?_
  refine va_mmax hx hb (hml.trans hl.1.symm) hown (hts (.methodLink R_P 127 Lib.Math.max.name) (List.mem_cons_of_mem _ mb_149)) (hts (.static Lib.Math.max.name) (List.mem_cons_of_mem _ mb_65)) (hts (.initialized "java/lang/Math") (List.mem_cons_of_mem _ mb_25)) (hts (.code Lib.Math.max.name Lib.Math.max.code 2 (some .int)) (List.mem_cons_of_mem _ mb_66)) (Nat.le_of_ble_eq_true rfl) (Nat.le_of_ble_eq_true rfl) (Nat.le_of_ble_eq_true rfl) (Nat.le_of_ble_eq_true rfl) d_P_mostKept_8 ?_
  refine pq_top (y := .int (nI (max h h2))) (by rw [pq_max (by omega) (by omega)]) ?_
  refine lv_aload_n hx hb d_P_mostKept_11 rfl (lv_at hl 0 rfl) ?_
  refine va_get (D := (dC, dI)) (ci := ciW) (v := .int (nI (pp))) (C := R_W) (T := F_W) (N := 7) hx hb hts (fun w h => List.mem_cons_of_mem _ (in_W w h)) hown hKa hPa 0 rfl rfl 2 (by decide) (hts (.fieldLink R_P 55 "PeriodWords$Word" "ringLength" "I") (List.mem_cons_of_mem _ mb_84)) (fun _ h9 => h9) rfl d_P_mostKept_12 ?_
  refine lv_aload_n hx hb d_P_mostKept_15 rfl (lv_at hl 1 rfl) ?_
  refine va_get (D := (dC, dI)) (ci := ciW) (v := .int (nI (pp2))) (C := R_W) (T := F_W) (N := 7) hx hb hts (fun w h => List.mem_cons_of_mem _ (in_W w h)) hown hKb hPb 0 rfl rfl 2 (by decide) (hts (.fieldLink R_P 55 "PeriodWords$Word" "ringLength" "I") (List.mem_cons_of_mem _ mb_84)) (fun _ h9 => h9) rfl d_P_mostKept_16 ?_
  refine vp_callSi (W.runS (As := [.int (nI (pp)), .int (nI (pp2))]) (rest := [.int (nI (max h h2))]) ⟨hx, hb, hml, hown, hts⟩ (c_P_cm l dC dI hp6 hp02 hp62) (va_cwS 2 hts (gd_S mb_160 mb_161 mb_22 mb_162) rfl rfl rfl (by decide +kernel) ⟨Nat.le_of_ble_eq_true rfl, Nat.le_of_ble_eq_true rfl⟩) (pw_R_S pw_P0 (hKa.sub [] rfl)) rfl rfl hl.1 rfl (lv_room (Nat.le_of_ble_eq_true rfl)) d_P_mostKept_19 ⟨Nat.le_of_ble_eq_true rfl, Nat.le_of_ble_eq_true rfl⟩) (fun r_19 hr_19 => ?_)
  subst hr_19
  refine pq_iadd (a := (max h h2)) (b := (pp / Nat.gcd pp pp2 * pp2)) hx hb d_P_mostKept_22 ?_
  refine lv_istore_n (lv' := [(2, .int (nI ((max h h2) + (pp / Nat.gcd pp pp2 * pp2)))), (0, .ref a), (1, .ref a2)]) hx hb d_P_mostKept_23 rfl hl (by decide) rfl (fun ls hl => ?_)
  refine lv_iconst (v := nI 0) hx hb d_P_mostKept_24 (by decide) ?_
  refine lv_istore_n (lv' := [(3, .int (nI (0))), (2, .int (nI ((max h h2) + (pp / Nat.gcd pp pp2 * pp2)))), (0, .ref a), (1, .ref a2)]) hx hb d_P_mostKept_25 rfl hl (by decide) rfl (fun ls hl => ?_)
  refine lv_iconst (v := nI 0) hx hb d_P_mostKept_26 (by decide) ?_
  refine lv_istore (lv' := [(4, .int (nI (0))), (3, .int (nI (0))), (2, .int (nI ((max h h2) + (pp / Nat.gcd pp pp2 * pp2)))), (0, .ref a), (1, .ref a2)]) hx hb d_P_mostKept_27 hl (by decide) rfl (fun ls hl => ?_)
  refine lv_iconst (v := nI 0) hx hb d_P_mostKept_29 (by decide) ?_
  refine lv_istore (lv' := [(5, .int (nI (0))), (4, .int (nI (0))), (3, .int (nI (0))), (2, .int (nI ((max h h2) + (pp / Nat.gcd pp pp2 * pp2)))), (0, .ref a), (1, .ref a2)]) hx hb d_P_mostKept_30 hl (by decide) rfl (fun ls hl => ?_)
  have B_32 : ∀ (k_ : Nat) (kept : Int32) (most : Nat) (t : Nat) (ls : Array Slot), (max h h2 + pp / Nat.gcd pp pp2 * pp2 - t) < k_ → (t ≤ max h h2 + pp / Nat.gcd pp pp2 * pp2) → (kept = nI (pw_c f t) - nI (pw_c f2 t)) → (most = pw_ks f f2 t) → (most ≤ t) → lv_has ls 6 [(0, .ref a), (1, .ref a2), (2, .int (nI (max h h2 + (pp / Nat.gcd pp pp2 * pp2)))), (3, .int (kept)), (4, .int (nI (most))), (5, .int (nI (t)))] → W p l e (headSpec ws_P_mostKept ({ frames := 3, cells := 0, slots := 0, locals := 67 } : Room)).room s m ([.ref a, .ref a2]).toArray below meth c s.heap [] 0 0 (MQ below (vp_Si (fun r => r = nI (pw_ks f f2 (max h h2 + pp / Nat.gcd pp pp2 * pp2)))) ([.ref a, .ref a2]).toArray s 0 0 (fun _ => False)) (F0 m 32 ls []) := by
    intro k_
    induction k_ with
    | zero => intro kept most t ls h_; omega
    | succ k_ ih_32 =>
      intro kept most t ls hm_ ht hk hm hm2 hl
      refine lv_iload hx hb d_P_mostKept_32 (lv_at hl 5 rfl) ?_
      refine lv_iload_n hx hb d_P_mostKept_34 rfl (lv_at hl 2 rfl) ?_
      refine pq_icmp_ge (tgt := 68) (a := t) (b := (max h h2 + (pp / Nat.gcd pp pp2 * pp2))) hx hb d_P_mostKept_35 (by decide) (by omega) (by omega) (fun c_35 => ?_) (fun c_35 => ?_)
      · refine lv_iload hx hb d_P_mostKept_68 (lv_at hl 4 rfl) ?_
        exact W.iret (v := (nI (most))) hx hb hr (fun t_ ht_ hW_ => ⟨_, rfl, by (try dsimp only); rw [hm, show t = max h h2 + pp / Nat.gcd pp pp2 * pp2 by omega], ht_⟩) (fun q h => absurd h List.not_mem_nil) d_P_mostKept_70
      · have q1 := pw_c_le f (t + 1)
        have q2 := pw_c_le f2 (t + 1)
        refine lv_iload_n hx hb d_P_mostKept_38 rfl (lv_at hl 3 rfl) ?_
        refine lv_aload_n hx hb d_P_mostKept_39 rfl (lv_at hl 0 rfl) ?_
        refine lv_iload hx hb d_P_mostKept_40 (lv_at hl 5 rfl) ?_
        refine vp_callSi (W.runV (As := [.int (nI (t))]) (rest := [.int (kept)]) ⟨hx, hb, hml, hown, hts⟩ (c_W_bitAt l dC dI hw (t := t) (by omega)) (cwV 1 hts (gd_V mb_207 mb_174 mb_175 mb_24 mb_176) rfl rfl rfl (by decide +kernel) ⟨Nat.le_of_ble_eq_true rfl, Nat.le_of_ble_eq_true rfl⟩) (pw_R_V (va_recv hKa hPa (ci := ciW) (q0 := 0) rfl rfl) hPa hKa) rfl rfl hl.1 rfl (lv_room (Nat.le_of_ble_eq_true rfl)) d_P_mostKept_42 ⟨Nat.le_of_ble_eq_true rfl, Nat.le_of_ble_eq_true rfl⟩) (fun r_42 hr_42 => ?_)
        subst hr_42
        refine lv_aload_n hx hb d_P_mostKept_45 rfl (lv_at hl 1 rfl) ?_
        refine lv_iload hx hb d_P_mostKept_46 (lv_at hl 5 rfl) ?_
        refine vp_callSi (W.runV (As := [.int (nI (t))]) (rest := [.int (nI ((f t).toNat)), .int (kept)]) ⟨hx, hb, hml, hown, hts⟩ (c_W_bitAt l dC dI hw2 (t := t) (by omega)) (cwV 1 hts (gd_V mb_207 mb_174 mb_175 mb_24 mb_176) rfl rfl rfl (by decide +kernel) ⟨Nat.le_of_ble_eq_true rfl, Nat.le_of_ble_eq_true rfl⟩) (pw_R_V (va_recv hKb hPb (ci := ciW) (q0 := 0) rfl rfl) hPb hKb) rfl rfl hl.1 rfl (lv_room (Nat.le_of_ble_eq_true rfl)) d_P_mostKept_48 ⟨Nat.le_of_ble_eq_true rfl, Nat.le_of_ble_eq_true rfl⟩) (fun r_48 hr_48 => ?_)
        subst hr_48
        refine lv_isub hx hb d_P_mostKept_51 ?_
        refine lv_topi (fun x_1 ex_1 => ?_)
        refine pq_top (y := .int (nI (f t).toNat - nI (f2 t).toNat)) (by rw [ex_1]) ?_
        refine lv_iadd hx hb d_P_mostKept_52 ?_
        refine lv_topi (fun x_2 ex_2 => ?_)
        refine pq_top (y := .int (nI (pw_c f (t + 1)) - nI (pw_c f2 (t + 1)))) (by rw [ex_2, hk, pq_kept]; rfl) ?_
        refine lv_istore_n (lv' := [(3, .int (nI (pw_c f (t + 1)) - nI (pw_c f2 (t + 1)))), (0, .ref a), (1, .ref a2), (2, .int (nI (max h h2 + (pp / Nat.gcd pp pp2 * pp2)))), (4, .int (nI (most))), (5, .int (nI (t)))]) hx hb d_P_mostKept_53 rfl hl (by decide) rfl (fun ls hl => ?_)
        refine lv_iload hx hb d_P_mostKept_54 (lv_at hl 4 rfl) ?_
        refine lv_iload_n hx hb d_P_mostKept_56 rfl (lv_at hl 0 rfl) ?_
        refine va_mmax hx hb (hml.trans hl.1.symm) hown (hts (.methodLink R_P 127 Lib.Math.max.name) (List.mem_cons_of_mem _ mb_149)) (hts (.static Lib.Math.max.name) (List.mem_cons_of_mem _ mb_65)) (hts (.initialized "java/lang/Math") (List.mem_cons_of_mem _ mb_25)) (hts (.code Lib.Math.max.name Lib.Math.max.code 2 (some .int)) (List.mem_cons_of_mem _ mb_66)) (Nat.le_of_ble_eq_true rfl) (Nat.le_of_ble_eq_true rfl) (Nat.le_of_ble_eq_true rfl) (Nat.le_of_ble_eq_true rfl) d_P_mostKept_57 ?_
        refine lv_topi (fun x_3 ex_3 => ?_)
        refine pq_top (y := .int (nI (max most (pw_c f (t + 1) - pw_c f2 (t + 1))))) (by rw [ex_3, pq_maxs (by omega) (by omega) (by omega)]) ?_
        refine lv_istore (lv' := [(4, .int (nI (max most (pw_c f (t + 1) - pw_c f2 (t + 1))))), (3, .int (nI (pw_c f (t + 1)) - nI (pw_c f2 (t + 1)))), (0, .ref a), (1, .ref a2), (2, .int (nI (max h h2 + (pp / Nat.gcd pp pp2 * pp2)))), (5, .int (nI (t)))]) hx hb d_P_mostKept_60 hl (by decide) rfl (fun ls hl => ?_)
        refine lv_iinc (v := nI (t + 1)) (lv' := [(5, .int (nI (t + 1))), (4, .int (nI (max most (pw_c f (t + 1) - pw_c f2 (t + 1))))), (3, .int (nI (pw_c f (t + 1)) - nI (pw_c f2 (t + 1)))), (0, .ref a), (1, .ref a2), (2, .int (nI (max h h2 + (pp / Nat.gcd pp pp2 * pp2))))]) hx hb d_P_mostKept_62 hl (k := 5) rfl (pq_inc _) (by decide) rfl (fun ls hl => ?_)
        refine lv_goto (tgt := 32) hx hb d_P_mostKept_65 (by decide) ?_
        exact ih_32 (nI (pw_c f (t + 1)) - nI (pw_c f2 (t + 1))) (max most (pw_c f (t + 1) - pw_c f2 (t + 1))) (t + 1) ls (by omega) (by omega) rfl (by rw [hm, pw_ks_s]) (by omega) (lv_sub hl [3, 4, 5, 2, 1, 0] rfl)
  exact B_32 _ (nI (0)) (0) (0) ls (Nat.lt_succ_self _) (by omega) (show nI 0 = nI 0 - nI 0 by decide) rfl (by omega) (lv_sub hl [4, 5, 3, 2, 1, 0] rfl)
set_option maxHeartbeats 4000000 in
set_option maxRecDepth 100000 in
theorem c_P_mostBehind (l : Launch) (dC : Nat → ClassId) (dI : Nat → Nat → Nat) {a q h pp : Nat} {cA : ClassId} {f : Nat → Bool} {pl : Nat → Int32} (hw : wd_ok h pp f) {a2 q2 h2 pp2 : Nat} {cA2 : ClassId} {f2 : Nat → Bool} {pl2 : Nat → Int32} (hw2 : wd_ok h2 pp2 f2) (hpl : wd_pl h pp f pl) (hpl2 : wd_pl h2 pp2 f2 pl2) {k : Nat} (hk : k ≤ 10000) (hxa : ∀ n, 0 < n → n ≤ k → 0 < pw_o f h pp ∨ n ≤ pw_c f h) (hxb : ∀ n, 0 < n → n ≤ k → 0 < pw_o f2 h2 pp2 ∨ n ≤ pw_c f2 h2) : Met l y_P_mostBehind ws_P_mostBehind ({ frames := 2, cells := 0, slots := 0, locals := 43 } : Room) (pw_R [.ref a, .ref a2, .int (nI (k))] dC dI [(cA, .int), (cA2, .int)] (wd a q cA h pp f pl ++ wd a2 q2 cA2 h2 pp2 f2 pl2)) (vp_Si (fun r => r = nI (pw_md f f2 k))) 0 0 (fun _ => False) := by
  refine Met.ofW (cc := b_P_mostBehind) (maxL := 5) (ret := (some .int)) (by decide) rfl ?_
  intro p e s m args below meth c s₁ B hml hv
  obtain ⟨rfl, hP, hK⟩ := hv
  have hx := B.exec
  have hb := B.bytes
  have hr := B.returns
  have hts := atoms_spec (ws := ws_P_mostBehind) B.pre
  have hown : s.vm.findClass R_P = some m.cls := findClass_of_methodNamed B.named
  have hlocks := B.notSynchronized
  have hw0 := hw; obtain ⟨hh, hp0, hp6, hE⟩ := hw0
  have ho := pw_o_le f h pp
  have hc := pw_c_le f h
  have hw20 := hw2; obtain ⟨hh2, hp02, hp62, hE2⟩ := hw20
  have ho2 := pw_o_le f2 h2 pp2
  have hc2 := pw_c_le f2 h2
  have hPa := hP.sub (ws' := wd a q cA h pp f pl) [0, 1] rfl
  have hKa := hK.sub (tys' := [(cA, .int)]) [0] rfl
  have hPb := hP.sub (ws' := wd a2 q2 cA2 h2 pp2 f2 pl2) [2, 3] rfl
  have hKb := hK.sub (tys' := [(cA2, .int)]) [1] rfl
  have hl := lv_entry ([.ref a, .ref a2, .int (nI (k))]) (n := 5) (Nat.le_of_ble_eq_true rfl)
  rw [lg_entry_eq]
  generalize (lg_sl ([.ref a, .ref a2, .int (nI (k))]) ++ List.replicate (5 - (lg_sl ([.ref a, .ref a2, .int (nI (k))])).length) Slot.unset).toArray = ls at hl ⊢
  have hl : lv_has ls 5 [(0, .ref a), (1, .ref a2), (2, .int (nI (k)))] := hl
  refine lv_iconst (v := nI 0) hx hb d_P_mostBehind_0 (by decide) ?_
  refine lv_istore_n (lv' := [(3, .int (nI (0))), (0, .ref a), (1, .ref a2), (2, .int (nI (k)))]) hx hb d_P_mostBehind_1 rfl hl (by decide) rfl (fun ls hl => ?_)
  refine lv_iconst (v := nI 1) hx hb d_P_mostBehind_2 (by decide) ?_
  refine lv_istore (lv' := [(4, .int (nI (1))), (3, .int (nI (0))), (0, .ref a), (1, .ref a2), (2, .int (nI (k)))]) hx hb d_P_mostBehind_3 hl (by decide) rfl (fun ls hl => ?_)
  have B_5 : ∀ (k_ : Nat) (most : Nat) (n : Nat) (ls : Array Slot), (k + 1 - n) < k_ → (0 < n) → (n ≤ k + 1) → (most = pw_md f f2 (n - 1)) → (most < 1000000) → lv_has ls 5 [(0, .ref a), (1, .ref a2), (2, .int (nI (k))), (3, .int (nI (most))), (4, .int (nI (n)))] → W p l e (headSpec ws_P_mostBehind ({ frames := 2, cells := 0, slots := 0, locals := 43 } : Room)).room s m ([.ref a, .ref a2, .int (nI (k))]).toArray below meth c s.heap [] 0 0 (MQ below (vp_Si (fun r => r = nI (pw_md f f2 k))) ([.ref a, .ref a2, .int (nI (k))]).toArray s 0 0 (fun _ => False)) (F0 m 5 ls []) := by
    intro k_
    induction k_ with
    | zero => intro most n ls h_; omega
    | succ k_ ih_5 =>
      intro most n ls hm_ hn0 hn1 hm hm2 hl
      refine lv_iload hx hb d_P_mostBehind_5 (lv_at hl 4 rfl) ?_
      refine lv_iload_n hx hb d_P_mostBehind_7 rfl (lv_at hl 2 rfl) ?_
      refine pq_icmp_gt (tgt := 35) (a := n) (b := k) hx hb d_P_mostBehind_8 (by decide) (by omega) (by omega) (fun c_8 => ?_) (fun c_8 => ?_)
      · refine lv_iload_n hx hb d_P_mostBehind_35 rfl (lv_at hl 3 rfl) ?_
        exact W.iret (v := (nI (most))) hx hb hr (fun t_ ht_ hW_ => ⟨_, rfl, by (try dsimp only); rw [hm, show n - 1 = k by omega], ht_⟩) (fun q h => absurd h List.not_mem_nil) d_P_mostBehind_36
      · have t1 := pw_tk_le hE hp0 hn0 (hxa n hn0 c_8)
        have t2 := pw_tk_le hE2 hp02 hn0 (hxb n hn0 c_8)
        have t3 : n * pp ≤ 10000 * 60 := Nat.mul_le_mul (by omega) hp6
        have t4 : n * pp2 ≤ 10000 * 60 := Nat.mul_le_mul (by omega) hp62
        refine lv_iload_n hx hb d_P_mostBehind_11 rfl (lv_at hl 3 rfl) ?_
        refine lv_aload_n hx hb d_P_mostBehind_12 rfl (lv_at hl 0 rfl) ?_
        refine lv_iload hx hb d_P_mostBehind_13 (lv_at hl 4 rfl) ?_
        refine vp_callSi (W.runV (As := [.int (nI (n))]) (rest := [.int (nI (most))]) ⟨hx, hb, hml, hown, hts⟩ (c_W_tickOf l dC dI hw hpl (n := n) hn0 (by omega) (hxa n hn0 c_8)) (cwV 1 hts (gd_V mb_141 mb_142 mb_143 mb_24 mb_144) rfl rfl rfl (by decide +kernel) ⟨Nat.le_of_ble_eq_true rfl, Nat.le_of_ble_eq_true rfl⟩) (pw_R_V (va_recv hKa hPa (ci := ciW) (q0 := 0) rfl rfl) hPa hKa) rfl rfl hl.1 rfl (lv_room (Nat.le_of_ble_eq_true rfl)) d_P_mostBehind_15 ⟨Nat.le_of_ble_eq_true rfl, Nat.le_of_ble_eq_true rfl⟩) (fun r_15 hr_15 => ?_)
        subst hr_15
        refine lv_aload_n hx hb d_P_mostBehind_18 rfl (lv_at hl 1 rfl) ?_
        refine lv_iload hx hb d_P_mostBehind_19 (lv_at hl 4 rfl) ?_
        refine vp_callSi (W.runV (As := [.int (nI (n))]) (rest := [.int (nI (pw_tk f n)), .int (nI (most))]) ⟨hx, hb, hml, hown, hts⟩ (c_W_tickOf l dC dI hw2 hpl2 (n := n) hn0 (by omega) (hxb n hn0 c_8)) (cwV 1 hts (gd_V mb_141 mb_142 mb_143 mb_24 mb_144) rfl rfl rfl (by decide +kernel) ⟨Nat.le_of_ble_eq_true rfl, Nat.le_of_ble_eq_true rfl⟩) (pw_R_V (va_recv hKb hPb (ci := ciW) (q0 := 0) rfl rfl) hPb hKb) rfl rfl hl.1 rfl (lv_room (Nat.le_of_ble_eq_true rfl)) d_P_mostBehind_21 ⟨Nat.le_of_ble_eq_true rfl, Nat.le_of_ble_eq_true rfl⟩) (fun r_21 hr_21 => ?_)
        subst hr_21
        refine lv_isub hx hb d_P_mostBehind_24 ?_
        refine lv_topi (fun x_1 ex_1 => ?_)
        refine pq_top (y := .int (nI (pw_tk f n) - nI (pw_tk f2 n))) (by rw [ex_1]) ?_
        refine va_mmax hx hb (hml.trans hl.1.symm) hown (hts (.methodLink R_P 127 Lib.Math.max.name) (List.mem_cons_of_mem _ mb_149)) (hts (.static Lib.Math.max.name) (List.mem_cons_of_mem _ mb_65)) (hts (.initialized "java/lang/Math") (List.mem_cons_of_mem _ mb_25)) (hts (.code Lib.Math.max.name Lib.Math.max.code 2 (some .int)) (List.mem_cons_of_mem _ mb_66)) (Nat.le_of_ble_eq_true rfl) (Nat.le_of_ble_eq_true rfl) (Nat.le_of_ble_eq_true rfl) (Nat.le_of_ble_eq_true rfl) d_P_mostBehind_25 ?_
        refine lv_topi (fun x_2 ex_2 => ?_)
        refine pq_top (y := .int (nI (max most (pw_tk f n - pw_tk f2 n)))) (by rw [ex_2, pq_maxs (by omega) (by omega) (by omega)]) ?_
        refine lv_istore_n (lv' := [(3, .int (nI (max most (pw_tk f n - pw_tk f2 n)))), (0, .ref a), (1, .ref a2), (2, .int (nI (k))), (4, .int (nI (n)))]) hx hb d_P_mostBehind_28 rfl hl (by decide) rfl (fun ls hl => ?_)
        refine lv_iinc (v := nI (n + 1)) (lv' := [(4, .int (nI (n + 1))), (3, .int (nI (max most (pw_tk f n - pw_tk f2 n)))), (0, .ref a), (1, .ref a2), (2, .int (nI (k)))]) hx hb d_P_mostBehind_29 hl (k := 4) rfl (pq_inc _) (by decide) rfl (fun ls hl => ?_)
        refine lv_goto (tgt := 5) hx hb d_P_mostBehind_32 (by decide) ?_
        exact ih_5 (max most (pw_tk f n - pw_tk f2 n)) (n + 1) ls (by omega) (by omega) (by omega) (by rw [hm, show n + 1 - 1 = (n - 1) + 1 by omega, pw_md_s, show n - 1 + 1 = n by omega]) (by omega) (lv_sub hl [2, 3, 4, 1, 0] rfl)
  exact B_5 _ (0) (1) ls (Nat.lt_succ_self _) (by omega) (by omega) rfl (by omega) (lv_sub hl [2, 3, 4, 1, 0] rfl)
set_option maxHeartbeats 4000000 in
set_option maxRecDepth 100000 in
theorem c_P_leastWait (l : Launch) (dC : Nat → ClassId) (dI : Nat → Nat → Nat) {a q h pp : Nat} {cA : ClassId} {f : Nat → Bool} {pl : Nat → Int32} (hw : wd_ok h pp f) {a2 q2 h2 pp2 : Nat} {cA2 : ClassId} {f2 : Nat → Bool} {pl2 : Nat → Int32} (hw2 : wd_ok h2 pp2 f2) (hpl : wd_pl h pp f pl) (hpl2 : wd_pl h2 pp2 f2 pl2) : Met l y_P_leastWait ws_P_leastWait ({ frames := 3, cells := 0, slots := 0, locals := 67 } : Room) (pw_R [.ref a, .ref a2] dC dI [(cA, .int), (cA2, .int)] (wd a q cA h pp f pl ++ wd a2 q2 cA2 h2 pp2 f2 pl2)) (vp_Si (fun r => (pw_o f2 h2 pp2 = 0 → (0 < pw_o f h pp ∨ pw_c f2 h2 ≤ pw_c f h) → r = nI (pw_md f f2 (pw_c f2 h2))) ∧ (pw_o f2 h2 pp2 = 0 → ¬ (0 < pw_o f h pp ∨ pw_c f2 h2 ≤ pw_c f h) → r = -1) ∧ (0 < pw_o f2 h2 pp2 → pw_o f h pp * pp2 < pw_o f2 h2 pp2 * pp → r = -1) ∧ (0 < pw_o f2 h2 pp2 → pw_o f2 h2 pp2 * pp ≤ pw_o f h pp * pp2 → r = nI (pw_md f f2 (max (pw_c f h) (pw_c f2 h2) + pw_o f h pp / Nat.gcd (pw_o f h pp) (pw_o f2 h2 pp2) * pw_o f2 h2 pp2))))) 0 0 (fun _ => False) := by
  refine Met.ofW (cc := b_P_leastWait) (maxL := 3) (ret := (some .int)) (by decide) rfl ?_
  intro p e s m args below meth c s₁ B hml hv
  obtain ⟨rfl, hP, hK⟩ := hv
  have hx := B.exec
  have hb := B.bytes
  have hr := B.returns
  have hts := atoms_spec (ws := ws_P_leastWait) B.pre
  have hown : s.vm.findClass R_P = some m.cls := findClass_of_methodNamed B.named
  have hlocks := B.notSynchronized
  have hw0 := hw; obtain ⟨hh, hp0, hp6, hE⟩ := hw0
  have ho := pw_o_le f h pp
  have hc := pw_c_le f h
  have hw20 := hw2; obtain ⟨hh2, hp02, hp62, hE2⟩ := hw20
  have ho2 := pw_o_le f2 h2 pp2
  have hc2 := pw_c_le f2 h2
  have hPa := hP.sub (ws' := wd a q cA h pp f pl) [0, 1] rfl
  have hKa := hK.sub (tys' := [(cA, .int)]) [0] rfl
  have hPb := hP.sub (ws' := wd a2 q2 cA2 h2 pp2 f2 pl2) [2, 3] rfl
  have hKb := hK.sub (tys' := [(cA2, .int)]) [1] rfl
  have m1 : pw_o f h pp * pp2 ≤ 60 * 60 := Nat.mul_le_mul (by omega) (by omega)
  have m2 : pw_o f2 h2 pp2 * pp ≤ 60 * 60 := Nat.mul_le_mul (by omega) (by omega)
  have m4 : pw_o f h pp / Nat.gcd (pw_o f h pp) (pw_o f2 h2 pp2) * pw_o f2 h2 pp2 ≤ 60 * 60 := Nat.mul_le_mul (Nat.le_trans (Nat.div_le_self _ _) (by omega)) (by omega)
  have hl := lv_entry ([.ref a, .ref a2]) (n := 3) (Nat.le_of_ble_eq_true rfl)
  rw [lg_entry_eq]
  generalize (lg_sl ([.ref a, .ref a2]) ++ List.replicate (3 - (lg_sl ([.ref a, .ref a2])).length) Slot.unset).toArray = ls at hl ⊢
  have hl : lv_has ls 3 [(0, .ref a), (1, .ref a2)] := hl
  refine lv_aload_n hx hb d_P_leastWait_0 rfl (lv_at hl 1 rfl) ?_
  refine va_get (D := (dC, dI)) (ci := ciW) (v := .int (nI (pw_o f2 h2 pp2))) (C := R_W) (T := F_W) (N := 7) hx hb hts (fun w h => List.mem_cons_of_mem _ (in_W w h)) hown hKb hPb 0 rfl rfl 5 (by decide) (hts (.fieldLink R_P 42 "PeriodWords$Word" "ringOnes" "I") (List.mem_cons_of_mem _ mb_90)) (fun _ h9 => h9) rfl d_P_leastWait_1 ?_
  refine pq_if_ne (tgt := 32) (a := (pw_o f2 h2 pp2)) hx hb d_P_leastWait_4 (by decide) (by omega) (fun c_4 => ?_) (fun c_4 => ?_)
  · refine lv_aload_n hx hb d_P_leastWait_32 rfl (lv_at hl 0 rfl) ?_
    refine lv_aload_n hx hb d_P_leastWait_33 rfl (lv_at hl 1 rfl) ?_
    refine vp_callSi (W.runS (As := [.ref a, .ref a2]) (rest := []) ⟨hx, hb, hml, hown, hts⟩ (c_P_compareRates l dC dI hw hw2) (va_cwS 2 hts (gd_S mb_230 mb_231 mb_22 mb_232) rfl rfl rfl (by decide +kernel) ⟨Nat.le_of_ble_eq_true rfl, Nat.le_of_ble_eq_true rfl⟩) (pw_R_S (hPa.app hPb) hK) rfl rfl hl.1 rfl (lv_room (Nat.le_of_ble_eq_true rfl)) d_P_leastWait_34 ⟨Nat.le_of_ble_eq_true rfl, Nat.le_of_ble_eq_true rfl⟩) (fun r_34 hr_34 => ?_)
    refine lv_if_ge (tgt := 42) hx hb d_P_leastWait_37 (by decide) (fun c_37 => ?_) (fun c_37 => ?_)
    · have hge : pw_o f2 h2 pp2 * pp ≤ pw_o f h pp * pp2 := by
        rcases Nat.lt_or_ge (pw_o f h pp * pp2) (pw_o f2 h2 pp2 * pp) with z | z
        · exfalso; rw [hr_34, if_pos z] at c_37; exact absurd c_37 (by decide)
        · exact z
      have ho0 : 0 < pw_o f h pp := by
        rcases Nat.eq_zero_or_pos (pw_o f h pp) with z | z
        · exfalso; rw [z, Nat.zero_mul] at hge; have := Nat.mul_pos c_4 hp0; omega
        · exact z
      refine lv_aload_n hx hb d_P_leastWait_42 rfl (lv_at hl 0 rfl) ?_
      refine va_get (D := (dC, dI)) (ci := ciW) (v := .int (nI (pw_c f h))) (C := R_W) (T := F_W) (N := 7) hx hb hts (fun w h => List.mem_cons_of_mem _ (in_W w h)) hown hKa hPa 0 rfl rfl 4 (by decide) (hts (.fieldLink R_P 62 "PeriodWords$Word" "headOnes" "I") (List.mem_cons_of_mem _ mb_88)) (fun _ h9 => h9) rfl d_P_leastWait_43 ?_
      refine lv_aload_n hx hb d_P_leastWait_46 rfl (lv_at hl 1 rfl) ?_
      refine va_get (D := (dC, dI)) (ci := ciW) (v := .int (nI (pw_c f2 h2))) (C := R_W) (T := F_W) (N := 7) hx hb hts (fun w h => List.mem_cons_of_mem _ (in_W w h)) hown hKb hPb 0 rfl rfl 4 (by decide) (hts (.fieldLink R_P 62 "PeriodWords$Word" "headOnes" "I") (List.mem_cons_of_mem _ mb_88)) (fun _ h9 => h9) rfl d_P_leastWait_47 ?_
      refine va_mmax hx hb (hml.trans hl.1.symm) hown (hts (.methodLink R_P 127 Lib.Math.max.name) (List.mem_cons_of_mem _ mb_149)) (hts (.static Lib.Math.max.name) (List.mem_cons_of_mem _ mb_65)) (hts (.initialized "java/lang/Math") (List.mem_cons_of_mem _ mb_25)) (hts (.code Lib.Math.max.name Lib.Math.max.code 2 (some .int)) (List.mem_cons_of_mem _ mb_66)) (Nat.le_of_ble_eq_true rfl) (Nat.le_of_ble_eq_true rfl) (Nat.le_of_ble_eq_true rfl) (Nat.le_of_ble_eq_true rfl) d_P_leastWait_50 ?_
      refine pq_top (y := .int (nI (max (pw_c f h) (pw_c f2 h2)))) (by rw [pq_max (by omega) (by omega)]) ?_
      refine lv_aload_n hx hb d_P_leastWait_53 rfl (lv_at hl 0 rfl) ?_
      refine va_get (D := (dC, dI)) (ci := ciW) (v := .int (nI (pw_o f h pp))) (C := R_W) (T := F_W) (N := 7) hx hb hts (fun w h => List.mem_cons_of_mem _ (in_W w h)) hown hKa hPa 0 rfl rfl 5 (by decide) (hts (.fieldLink R_P 42 "PeriodWords$Word" "ringOnes" "I") (List.mem_cons_of_mem _ mb_90)) (fun _ h9 => h9) rfl d_P_leastWait_54 ?_
      refine lv_aload_n hx hb d_P_leastWait_57 rfl (lv_at hl 1 rfl) ?_
      refine va_get (D := (dC, dI)) (ci := ciW) (v := .int (nI (pw_o f2 h2 pp2))) (C := R_W) (T := F_W) (N := 7) hx hb hts (fun w h => List.mem_cons_of_mem _ (in_W w h)) hown hKb hPb 0 rfl rfl 5 (by decide) (hts (.fieldLink R_P 42 "PeriodWords$Word" "ringOnes" "I") (List.mem_cons_of_mem _ mb_90)) (fun _ h9 => h9) rfl d_P_leastWait_58 ?_
      refine vp_callSi (W.runS (As := [.int (nI (pw_o f h pp)), .int (nI (pw_o f2 h2 pp2))]) (rest := [.int (nI (max (pw_c f h) (pw_c f2 h2)))]) ⟨hx, hb, hml, hown, hts⟩ (c_P_cm l dC dI (x := pw_o f h pp) (y := pw_o f2 h2 pp2) (by omega) (by omega) (by omega)) (va_cwS 2 hts (gd_S mb_160 mb_161 mb_22 mb_162) rfl rfl rfl (by decide +kernel) ⟨Nat.le_of_ble_eq_true rfl, Nat.le_of_ble_eq_true rfl⟩) (pw_R_S pw_P0 (hKa.sub [] rfl)) rfl rfl hl.1 rfl (lv_room (Nat.le_of_ble_eq_true rfl)) d_P_leastWait_61 ⟨Nat.le_of_ble_eq_true rfl, Nat.le_of_ble_eq_true rfl⟩) (fun r_61 hr_61 => ?_)
      subst hr_61
      refine pq_iadd (a := (max (pw_c f h) (pw_c f2 h2))) (b := (pw_o f h pp / Nat.gcd (pw_o f h pp) (pw_o f2 h2 pp2) * pw_o f2 h2 pp2)) hx hb d_P_leastWait_64 ?_
      refine lv_istore_n (lv' := [(2, .int (nI ((max (pw_c f h) (pw_c f2 h2)) + (pw_o f h pp / Nat.gcd (pw_o f h pp) (pw_o f2 h2 pp2) * pw_o f2 h2 pp2)))), (0, .ref a), (1, .ref a2)]) hx hb d_P_leastWait_65 rfl hl (by decide) rfl (fun ls hl => ?_)
      refine lv_aload_n hx hb d_P_leastWait_66 rfl (lv_at hl 1 rfl) ?_
      refine lv_aload_n hx hb d_P_leastWait_67 rfl (lv_at hl 2 rfl) ?_
      refine lv_iload_n hx hb d_P_leastWait_68 rfl (lv_at hl 0 rfl) ?_
      refine vp_callSi (W.runS (As := [.ref a, .ref a2, .int (nI ((max (pw_c f h) (pw_c f2 h2)) + (pw_o f h pp / Nat.gcd (pw_o f h pp) (pw_o f2 h2 pp2) * pw_o f2 h2 pp2)))]) (rest := []) ⟨hx, hb, hml, hown, hts⟩ (c_P_mostBehind l dC dI hw hw2 hpl hpl2 (k := max (pw_c f h) (pw_c f2 h2) + pw_o f h pp / Nat.gcd (pw_o f h pp) (pw_o f2 h2 pp2) * pw_o f2 h2 pp2) (by omega) (fun n _ _ => Or.inl ho0) (fun n _ _ => Or.inl c_4)) (va_cwS 3 hts (gd_S mb_227 mb_228 mb_22 mb_229) rfl rfl rfl (by decide +kernel) ⟨Nat.le_of_ble_eq_true rfl, Nat.le_of_ble_eq_true rfl⟩) (pw_R_S (hPa.app hPb) hK) rfl rfl hl.1 rfl (lv_room (Nat.le_of_ble_eq_true rfl)) d_P_leastWait_69 ⟨Nat.le_of_ble_eq_true rfl, Nat.le_of_ble_eq_true rfl⟩) (fun r_69 hr_69 => ?_)
      subst hr_69
      exact W.iret (v := (nI (pw_md f f2 (max (pw_c f h) (pw_c f2 h2) + pw_o f h pp / Nat.gcd (pw_o f h pp) (pw_o f2 h2 pp2) * pw_o f2 h2 pp2)))) hx hb hr (fun t_ ht_ hW_ => ⟨_, rfl, by (try dsimp only); refine ⟨fun z1 z2 => ?_, fun z1 z2 => ?_, fun z1 z2 => ?_, fun z1 z2 => ?_⟩ <;> first | rfl | (exfalso; omega), ht_⟩) (fun q h => absurd h List.not_mem_nil) d_P_leastWait_72
    · have hlt : pw_o f h pp * pp2 < pw_o f2 h2 pp2 * pp := by
        rcases Nat.lt_or_ge (pw_o f h pp * pp2) (pw_o f2 h2 pp2 * pp) with z | z
        · exact z
        · exfalso; apply c_37; rw [hr_34, if_neg (by omega)]; split <;> decide
      refine lv_iconst (v := (-1)) hx hb d_P_leastWait_40 (by decide) ?_
      exact W.iret (v := (-1)) hx hb hr (fun t_ ht_ hW_ => ⟨_, rfl, by (try dsimp only); refine ⟨fun z1 z2 => ?_, fun z1 z2 => ?_, fun z1 z2 => ?_, fun z1 z2 => ?_⟩ <;> first | rfl | (exfalso; omega), ht_⟩) (fun q h => absurd h List.not_mem_nil) d_P_leastWait_41
  · refine lv_aload_n hx hb d_P_leastWait_7 rfl (lv_at hl 0 rfl) ?_
    refine lv_aload_n hx hb d_P_leastWait_8 rfl (lv_at hl 1 rfl) ?_
    refine va_get (D := (dC, dI)) (ci := ciW) (v := .int (nI (pw_c f2 h2))) (C := R_W) (T := F_W) (N := 7) hx hb hts (fun w h => List.mem_cons_of_mem _ (in_W w h)) hown hKb hPb 0 rfl rfl 4 (by decide) (hts (.fieldLink R_P 62 "PeriodWords$Word" "headOnes" "I") (List.mem_cons_of_mem _ mb_88)) (fun _ h9 => h9) rfl d_P_leastWait_9 ?_
    refine vp_callSi (W.runV (As := [.int (nI (pw_c f2 h2))]) (rest := []) ⟨hx, hb, hml, hown, hts⟩ (c_W_hasOne l dC dI hw (n := pw_c f2 h2) (by omega)) (cwV 1 hts (gd_V mb_226 mb_146 mb_147 mb_24 mb_148) rfl rfl rfl (by decide +kernel) ⟨Nat.le_of_ble_eq_true rfl, Nat.le_of_ble_eq_true rfl⟩) (pw_R_V (va_recv hKa hPa (ci := ciW) (q0 := 0) rfl rfl) hPa hKa) rfl rfl hl.1 rfl (lv_room (Nat.le_of_ble_eq_true rfl)) d_P_leastWait_12 ⟨Nat.le_of_ble_eq_true rfl, Nat.le_of_ble_eq_true rfl⟩) (fun r_12 hr_12 => ?_)
    subst hr_12
    have hdd := pw_bt (decide (0 < pw_o f h pp ∨ pw_c f2 h2 ≤ pw_c f h))
    rw [decide_eq_true_iff, decide_eq_false_iff_not] at hdd
    refine pq_if_eq (tgt := 30) (a := ((decide (0 < pw_o f h pp ∨ pw_c f2 h2 ≤ pw_c f h)).toNat)) hx hb d_P_leastWait_15 (by decide) (by omega) (fun c_15 => ?_) (fun c_15 => ?_)
    · refine lv_iconst (v := (-1)) hx hb d_P_leastWait_30 (by decide) ?_
      exact W.iret (v := (-1)) hx hb hr (fun t_ ht_ hW_ => ⟨_, rfl, by (try dsimp only); refine ⟨fun z1 z2 => ?_, fun z1 z2 => ?_, fun z1 z2 => ?_, fun z1 z2 => ?_⟩ <;> first | rfl | (exfalso; omega), ht_⟩) (fun q h => absurd h List.not_mem_nil) d_P_leastWait_31
    · refine lv_aload_n hx hb d_P_leastWait_18 rfl (lv_at hl 0 rfl) ?_
      refine lv_aload_n hx hb d_P_leastWait_19 rfl (lv_at hl 1 rfl) ?_
      refine lv_aload_n hx hb d_P_leastWait_20 rfl (lv_at hl 1 rfl) ?_
      refine va_get (D := (dC, dI)) (ci := ciW) (v := .int (nI (pw_c f2 h2))) (C := R_W) (T := F_W) (N := 7) hx hb hts (fun w h => List.mem_cons_of_mem _ (in_W w h)) hown hKb hPb 0 rfl rfl 4 (by decide) (hts (.fieldLink R_P 62 "PeriodWords$Word" "headOnes" "I") (List.mem_cons_of_mem _ mb_88)) (fun _ h9 => h9) rfl d_P_leastWait_21 ?_
      refine vp_callSi (W.runS (As := [.ref a, .ref a2, .int (nI (pw_c f2 h2))]) (rest := []) ⟨hx, hb, hml, hown, hts⟩ (c_P_mostBehind l dC dI hw hw2 hpl hpl2 (k := pw_c f2 h2) (by omega) (fun n _ hn => by omega) (fun n _ hn => Or.inr hn)) (va_cwS 3 hts (gd_S mb_227 mb_228 mb_22 mb_229) rfl rfl rfl (by decide +kernel) ⟨Nat.le_of_ble_eq_true rfl, Nat.le_of_ble_eq_true rfl⟩) (pw_R_S (hPa.app hPb) hK) rfl rfl hl.1 rfl (lv_room (Nat.le_of_ble_eq_true rfl)) d_P_leastWait_24 ⟨Nat.le_of_ble_eq_true rfl, Nat.le_of_ble_eq_true rfl⟩) (fun r_24 hr_24 => ?_)
      subst hr_24
      refine lv_goto (tgt := 31) hx hb d_P_leastWait_27 (by decide) ?_
      exact W.iret (v := (nI (pw_md f f2 (pw_c f2 h2)))) hx hb hr (fun t_ ht_ hW_ => ⟨_, rfl, by (try dsimp only); refine ⟨fun z1 z2 => ?_, fun z1 z2 => ?_, fun z1 z2 => ?_, fun z1 z2 => ?_⟩ <;> first | rfl | (exfalso; omega), ht_⟩) (fun q h => absurd h List.not_mem_nil) d_P_leastWait_31
set_option maxHeartbeats 4000000 in
set_option maxRecDepth 100000 in
theorem c_P_alike (l : Launch) (dC : Nat → ClassId) (dI : Nat → Nat → Nat) {a q h pp : Nat} {cA : ClassId} {f : Nat → Bool} {pl : Nat → Int32} (hw : wd_ok h pp f) {a2 q2 h2 pp2 : Nat} {cA2 : ClassId} {f2 : Nat → Bool} {pl2 : Nat → Int32} (hw2 : wd_ok h2 pp2 f2) : Met l y_P_alike ws_P_alike ({ frames := 0, cells := 0, slots := 0, locals := 0 } : Room) (pw_R [.ref a, .ref a2] dC dI [(cA, .int), (cA2, .int)] (wd a q cA h pp f pl ++ wd a2 q2 cA2 h2 pp2 f2 pl2)) (vp_Si (fun r => r = nI (decide (h = h2 ∧ pw_b f 0 h = pw_b f2 0 h2 ∧ pp = pp2 ∧ pw_b f h pp = pw_b f2 h2 pp2)).toNat)) 0 0 (fun _ => False) := by
  refine Met.ofW (cc := b_P_alike) (maxL := 2) (ret := (some .boolean)) (by decide) rfl ?_
  intro p e s m args below meth c s₁ B hml hv
  obtain ⟨rfl, hP, hK⟩ := hv
  have hx := B.exec
  have hb := B.bytes
  have hr := B.returns
  have hts := atoms_spec (ws := ws_P_alike) B.pre
  have hown : s.vm.findClass R_P = some m.cls := findClass_of_methodNamed B.named
  have hlocks := B.notSynchronized
  have hw0 := hw; obtain ⟨hh, hp0, hp6, hE⟩ := hw0
  have ho := pw_o_le f h pp
  have hc := pw_c_le f h
  have hw20 := hw2; obtain ⟨hh2, hp02, hp62, hE2⟩ := hw20
  have ho2 := pw_o_le f2 h2 pp2
  have hc2 := pw_c_le f2 h2
  have hPa := hP.sub (ws' := wd a q cA h pp f pl) [0, 1] rfl
  have hKa := hK.sub (tys' := [(cA, .int)]) [0] rfl
  have hPb := hP.sub (ws' := wd a2 q2 cA2 h2 pp2 f2 pl2) [2, 3] rfl
  have hKb := hK.sub (tys' := [(cA2, .int)]) [1] rfl
  have b1 := pq_lt60 (pw_b_lt f 0 h) hh
  have b2 := pq_lt60 (pw_b_lt f h pp) hp6
  have b3 := pq_lt60 (pw_b_lt f2 0 h2) hh2
  have b4 := pq_lt60 (pw_b_lt f2 h2 pp2) hp62
  have hl := lv_entry ([.ref a, .ref a2]) (n := 2) (Nat.le_of_ble_eq_true rfl)
  rw [lg_entry_eq]
  generalize (lg_sl ([.ref a, .ref a2]) ++ List.replicate (2 - (lg_sl ([.ref a, .ref a2])).length) Slot.unset).toArray = ls at hl ⊢
  have hl : lv_has ls 2 [(0, .ref a), (1, .ref a2)] := hl
  refine lv_aload_n hx hb d_P_alike_0 rfl (lv_at hl 0 rfl) ?_
  refine lv_ifnull hx hb d_P_alike_1 ?_
  refine lv_aload_n hx hb d_P_alike_4 rfl (lv_at hl 1 rfl) ?_
  refine lv_ifnull hx hb d_P_alike_5 ?_
  refine lv_aload_n hx hb d_P_alike_8 rfl (lv_at hl 0 rfl) ?_
  refine va_get (D := (dC, dI)) (ci := ciW) (v := .int (nI (h))) (C := R_W) (T := F_W) (N := 7) hx hb hts (fun w h => List.mem_cons_of_mem _ (in_W w h)) hown hKa hPa 0 rfl rfl 0 (by decide) (hts (.fieldLink R_P 52 "PeriodWords$Word" "headLength" "I") (List.mem_cons_of_mem _ mb_80)) (fun _ h9 => h9) rfl d_P_alike_9 ?_
  refine lv_aload_n hx hb d_P_alike_12 rfl (lv_at hl 1 rfl) ?_
  refine va_get (D := (dC, dI)) (ci := ciW) (v := .int (nI (h2))) (C := R_W) (T := F_W) (N := 7) hx hb hts (fun w h => List.mem_cons_of_mem _ (in_W w h)) hown hKb hPb 0 rfl rfl 0 (by decide) (hts (.fieldLink R_P 52 "PeriodWords$Word" "headLength" "I") (List.mem_cons_of_mem _ mb_80)) (fun _ h9 => h9) rfl d_P_alike_13 ?_
  refine pq_icmp_ne (tgt := 58) (a := h) (b := h2) hx hb d_P_alike_16 (by decide) (by omega) (by omega) (fun c_16 => ?_) (fun c_16 => ?_)
  · refine lv_iconst (v := nI 0) hx hb d_P_alike_58 (by decide) ?_
    exact W.zret (v := (nI (0))) hx hb hr (by decide) (fun t_ ht_ hW_ => ⟨_, rfl, by (try dsimp only); rw [decide_eq_false (by omega)]; rfl, ht_⟩) (fun q h => absurd h List.not_mem_nil) d_P_alike_59
  · refine lv_aload_n hx hb d_P_alike_19 rfl (lv_at hl 0 rfl) ?_
    refine va_get (D := (dC, dI)) (ci := ciW) (v := .long (lN (pw_b f 0 h))) (C := R_W) (T := F_W) (N := 7) hx hb hts (fun w h => List.mem_cons_of_mem _ (in_W w h)) hown hKa hPa 0 rfl rfl 1 (by decide) (hts (.fieldLink R_P 108 "PeriodWords$Word" "headBits" "J") (List.mem_cons_of_mem _ mb_82)) (fun _ h9 => h9) rfl d_P_alike_20 ?_
    refine lv_aload_n hx hb d_P_alike_23 rfl (lv_at hl 1 rfl) ?_
    refine va_get (D := (dC, dI)) (ci := ciW) (v := .long (lN (pw_b f2 0 h2))) (C := R_W) (T := F_W) (N := 7) hx hb hts (fun w h => List.mem_cons_of_mem _ (in_W w h)) hown hKb hPb 0 rfl rfl 1 (by decide) (hts (.fieldLink R_P 108 "PeriodWords$Word" "headBits" "J") (List.mem_cons_of_mem _ mb_82)) (fun _ h9 => h9) rfl d_P_alike_24 ?_
    refine W.lcmp hx hb d_P_alike_27 ?_
    refine lv_topi (fun x_1 ex_1 => ?_)
    refine lv_if_ne (tgt := 58) hx hb d_P_alike_28 (by decide) (fun c_28 => ?_) (fun c_28 => ?_)
    · have c_28n : pw_b f 0 h ≠ pw_b f2 0 h2 := fun z_ => c_28 (by rw [ex_1]; exact (pq_cmpN (by omega) (by omega)).mpr z_)
      refine lv_iconst (v := nI 0) hx hb d_P_alike_58 (by decide) ?_
      exact W.zret (v := (nI (0))) hx hb hr (by decide) (fun t_ ht_ hW_ => ⟨_, rfl, by (try dsimp only); rw [decide_eq_false (by omega)]; rfl, ht_⟩) (fun q h => absurd h List.not_mem_nil) d_P_alike_59
    · have c_28n : pw_b f 0 h = pw_b f2 0 h2 := (pq_cmpN (by omega) (by omega)).mp (by rw [← ex_1]; exact c_28)
      refine lv_aload_n hx hb d_P_alike_31 rfl (lv_at hl 0 rfl) ?_
      refine va_get (D := (dC, dI)) (ci := ciW) (v := .int (nI (pp))) (C := R_W) (T := F_W) (N := 7) hx hb hts (fun w h => List.mem_cons_of_mem _ (in_W w h)) hown hKa hPa 0 rfl rfl 2 (by decide) (hts (.fieldLink R_P 55 "PeriodWords$Word" "ringLength" "I") (List.mem_cons_of_mem _ mb_84)) (fun _ h9 => h9) rfl d_P_alike_32 ?_
      refine lv_aload_n hx hb d_P_alike_35 rfl (lv_at hl 1 rfl) ?_
      refine va_get (D := (dC, dI)) (ci := ciW) (v := .int (nI (pp2))) (C := R_W) (T := F_W) (N := 7) hx hb hts (fun w h => List.mem_cons_of_mem _ (in_W w h)) hown hKb hPb 0 rfl rfl 2 (by decide) (hts (.fieldLink R_P 55 "PeriodWords$Word" "ringLength" "I") (List.mem_cons_of_mem _ mb_84)) (fun _ h9 => h9) rfl d_P_alike_36 ?_
      refine pq_icmp_ne (tgt := 58) (a := pp) (b := pp2) hx hb d_P_alike_39 (by decide) (by omega) (by omega) (fun c_39 => ?_) (fun c_39 => ?_)
      · refine lv_iconst (v := nI 0) hx hb d_P_alike_58 (by decide) ?_
        exact W.zret (v := (nI (0))) hx hb hr (by decide) (fun t_ ht_ hW_ => ⟨_, rfl, by (try dsimp only); rw [decide_eq_false (by omega)]; rfl, ht_⟩) (fun q h => absurd h List.not_mem_nil) d_P_alike_59
      · refine lv_aload_n hx hb d_P_alike_42 rfl (lv_at hl 0 rfl) ?_
        refine va_get (D := (dC, dI)) (ci := ciW) (v := .long (lN (pw_b f h pp))) (C := R_W) (T := F_W) (N := 7) hx hb hts (fun w h => List.mem_cons_of_mem _ (in_W w h)) hown hKa hPa 0 rfl rfl 3 (by decide) (hts (.fieldLink R_P 112 "PeriodWords$Word" "ringBits" "J") (List.mem_cons_of_mem _ mb_86)) (fun _ h9 => h9) rfl d_P_alike_43 ?_
        refine lv_aload_n hx hb d_P_alike_46 rfl (lv_at hl 1 rfl) ?_
        refine va_get (D := (dC, dI)) (ci := ciW) (v := .long (lN (pw_b f2 h2 pp2))) (C := R_W) (T := F_W) (N := 7) hx hb hts (fun w h => List.mem_cons_of_mem _ (in_W w h)) hown hKb hPb 0 rfl rfl 3 (by decide) (hts (.fieldLink R_P 112 "PeriodWords$Word" "ringBits" "J") (List.mem_cons_of_mem _ mb_86)) (fun _ h9 => h9) rfl d_P_alike_47 ?_
        refine W.lcmp hx hb d_P_alike_50 ?_
        refine lv_topi (fun x_2 ex_2 => ?_)
        refine lv_if_ne (tgt := 58) hx hb d_P_alike_51 (by decide) (fun c_51 => ?_) (fun c_51 => ?_)
        · have c_51n : pw_b f h pp ≠ pw_b f2 h2 pp2 := fun z_ => c_51 (by rw [ex_2]; exact (pq_cmpN (by omega) (by omega)).mpr z_)
          refine lv_iconst (v := nI 0) hx hb d_P_alike_58 (by decide) ?_
          exact W.zret (v := (nI (0))) hx hb hr (by decide) (fun t_ ht_ hW_ => ⟨_, rfl, by (try dsimp only); rw [decide_eq_false (by omega)]; rfl, ht_⟩) (fun q h => absurd h List.not_mem_nil) d_P_alike_59
        · have c_51n : pw_b f h pp = pw_b f2 h2 pp2 := (pq_cmpN (by omega) (by omega)).mp (by rw [← ex_2]; exact c_51)
          refine lv_iconst (v := nI 1) hx hb d_P_alike_54 (by decide) ?_
          refine lv_goto (tgt := 59) hx hb d_P_alike_55 (by decide) ?_
          exact W.zret (v := (nI (1))) hx hb hr (by decide) (fun t_ ht_ hW_ => ⟨_, rfl, by (try dsimp only); rw [decide_eq_true (by omega)]; rfl, ht_⟩) (fun q h => absurd h List.not_mem_nil) d_P_alike_59
set_option maxHeartbeats 4000000 in
set_option maxRecDepth 100000 in
theorem c_P_needsTwo (l : Launch) (dC : Nat → ClassId) (dI : Nat → Nat → Nat) {how : Nat} (hh : how < 8) : Met l y_P_needsTwoWords ws_P_needsTwoWords ({ frames := 0, cells := 0, slots := 0, locals := 0 } : Room) (pw_R [.int (nI (how))] dC dI [] []) (vp_Si (fun r => r = nI (decide (how = 0 ∨ how = 1 ∨ how = 2 ∨ how = 4 ∨ how = 5)).toNat)) 0 0 (fun _ => False) := by
  refine Met.ofW (cc := b_P_needsTwoWords) (maxL := 1) (ret := (some .boolean)) (by decide) rfl ?_
  intro p e s m args below meth c s₁ B hml hv
  obtain ⟨rfl, hP, hK⟩ := hv
  have hx := B.exec
  have hb := B.bytes
  have hr := B.returns
  have hts := atoms_spec (ws := ws_P_needsTwoWords) B.pre
  have hown : s.vm.findClass R_P = some m.cls := findClass_of_methodNamed B.named
  have hlocks := B.notSynchronized
  have hl := lv_entry ([.int (nI (how))]) (n := 1) (Nat.le_of_ble_eq_true rfl)
  rw [lg_entry_eq]
  generalize (lg_sl ([.int (nI (how))]) ++ List.replicate (1 - (lg_sl ([.int (nI (how))])).length) Slot.unset).toArray = ls at hl ⊢
  have hl : lv_has ls 1 [(0, .int (nI (how)))] := hl
  refine lv_iload_n hx hb d_P_needsTwoWords_0 rfl (lv_at hl 0 rfl) ?_
  refine pq_if_eq (tgt := 24) (a := how) hx hb d_P_needsTwoWords_1 (by decide) (by omega) (fun c_1 => ?_) (fun c_1 => ?_)
  · refine lv_iconst (v := nI 1) hx hb d_P_needsTwoWords_24 (by decide) ?_
    refine lv_goto (tgt := 29) hx hb d_P_needsTwoWords_25 (by decide) ?_
    exact W.zret (v := (nI (1))) hx hb hr (by decide) (fun t_ ht_ hW_ => ⟨_, rfl, by (try dsimp only); rw [decide_eq_true (by omega)]; rfl, ht_⟩) (fun q h => absurd h List.not_mem_nil) d_P_needsTwoWords_29
  · refine lv_iload_n hx hb d_P_needsTwoWords_4 rfl (lv_at hl 0 rfl) ?_
    refine lv_iconst (v := nI 1) hx hb d_P_needsTwoWords_5 (by decide) ?_
    refine pq_icmp_eq (tgt := 24) (a := how) (b := 1) hx hb d_P_needsTwoWords_6 (by decide) (by omega) (by omega) (fun c_6 => ?_) (fun c_6 => ?_)
    · refine lv_iconst (v := nI 1) hx hb d_P_needsTwoWords_24 (by decide) ?_
      refine lv_goto (tgt := 29) hx hb d_P_needsTwoWords_25 (by decide) ?_
      exact W.zret (v := (nI (1))) hx hb hr (by decide) (fun t_ ht_ hW_ => ⟨_, rfl, by (try dsimp only); rw [decide_eq_true (by omega)]; rfl, ht_⟩) (fun q h => absurd h List.not_mem_nil) d_P_needsTwoWords_29
    · refine lv_iload_n hx hb d_P_needsTwoWords_9 rfl (lv_at hl 0 rfl) ?_
      refine lv_iconst (v := nI 2) hx hb d_P_needsTwoWords_10 (by decide) ?_
      refine pq_icmp_eq (tgt := 24) (a := how) (b := 2) hx hb d_P_needsTwoWords_11 (by decide) (by omega) (by omega) (fun c_11 => ?_) (fun c_11 => ?_)
      · refine lv_iconst (v := nI 1) hx hb d_P_needsTwoWords_24 (by decide) ?_
        refine lv_goto (tgt := 29) hx hb d_P_needsTwoWords_25 (by decide) ?_
        exact W.zret (v := (nI (1))) hx hb hr (by decide) (fun t_ ht_ hW_ => ⟨_, rfl, by (try dsimp only); rw [decide_eq_true (by omega)]; rfl, ht_⟩) (fun q h => absurd h List.not_mem_nil) d_P_needsTwoWords_29
      · refine lv_iload_n hx hb d_P_needsTwoWords_14 rfl (lv_at hl 0 rfl) ?_
        refine lv_iconst (v := nI 4) hx hb d_P_needsTwoWords_15 (by decide) ?_
        refine pq_icmp_eq (tgt := 24) (a := how) (b := 4) hx hb d_P_needsTwoWords_16 (by decide) (by omega) (by omega) (fun c_16 => ?_) (fun c_16 => ?_)
        · refine lv_iconst (v := nI 1) hx hb d_P_needsTwoWords_24 (by decide) ?_
          refine lv_goto (tgt := 29) hx hb d_P_needsTwoWords_25 (by decide) ?_
          exact W.zret (v := (nI (1))) hx hb hr (by decide) (fun t_ ht_ hW_ => ⟨_, rfl, by (try dsimp only); rw [decide_eq_true (by omega)]; rfl, ht_⟩) (fun q h => absurd h List.not_mem_nil) d_P_needsTwoWords_29
        · refine lv_iload_n hx hb d_P_needsTwoWords_19 rfl (lv_at hl 0 rfl) ?_
          refine lv_iconst (v := nI 5) hx hb d_P_needsTwoWords_20 (by decide) ?_
          refine pq_icmp_ne (tgt := 28) (a := how) (b := 5) hx hb d_P_needsTwoWords_21 (by decide) (by omega) (by omega) (fun c_21 => ?_) (fun c_21 => ?_)
          · refine lv_iconst (v := nI 0) hx hb d_P_needsTwoWords_28 (by decide) ?_
            exact W.zret (v := (nI (0))) hx hb hr (by decide) (fun t_ ht_ hW_ => ⟨_, rfl, by (try dsimp only); rw [decide_eq_false (by omega)]; rfl, ht_⟩) (fun q h => absurd h List.not_mem_nil) d_P_needsTwoWords_29
          · refine lv_iconst (v := nI 1) hx hb d_P_needsTwoWords_24 (by decide) ?_
            refine lv_goto (tgt := 29) hx hb d_P_needsTwoWords_25 (by decide) ?_
            exact W.zret (v := (nI (1))) hx hb hr (by decide) (fun t_ ht_ hW_ => ⟨_, rfl, by (try dsimp only); rw [decide_eq_true (by omega)]; rfl, ht_⟩) (fun q h => absurd h List.not_mem_nil) d_P_needsTwoWords_29
