set_option maxHeartbeats 1000000 in
set_option maxRecDepth 100000 in
theorem c_P_keepN (l : Launch) (dC : Nat → ClassId) (dI : Nat → Nat → Nat) {o q n : Nat} {cW : ClassId} {wa : Nat → Option Nat} : Met l y_P_keep ws_P_keep ({ frames := 0, cells := 0, slots := 0, locals := 0 } : Room) (pw_R [.ref o, .null] dC dI [(cW, .object "PeriodWords$Word")] (pwc o q n cW wa)) (vp_Si (fun r => r = -1)) 0 0 (fun _ => False) := by
  refine Met.ofW (cc := b_P_keep) (maxL := 2) (ret := (some .int)) (by decide) rfl ?_
  intro p e s m args below meth c s₁ B hml hv
  obtain ⟨rfl, hP, hK⟩ := hv
  have hx := B.exec
  have hb := B.bytes
  have hr := B.returns
  have hts := atoms_spec (ws := ws_P_keep) B.pre
  have hown : s.vm.findClass R_P = some m.cls := findClass_of_methodNamed B.named
  have hlocks := B.notSynchronized
  have hl := lv_entry ([.ref o, .null]) (n := 2) (Nat.le_of_ble_eq_true rfl)
  rw [lg_entry_eq]
  generalize (lg_sl ([.ref o, .null]) ++ List.replicate (2 - (lg_sl ([.ref o, .null])).length) Slot.unset).toArray = ls at hl ⊢
  have hl : lv_has ls 2 [(0, .ref o), (1, .null)] := hl
  refine lv_aload_nN hx hb d_P_keep_0 rfl (lv_at hl 1 rfl) ?_
  refine lv_ifnullN (tgt := 23) hx hb d_P_keep_1 (by decide) ?_
  refine lv_iconst (v := (-1)) hx hb d_P_keep_23 (by decide) ?_
  exact W.iret (v := (-1)) hx hb hr (fun t_ ht_ hW_ => ⟨_, rfl, rfl, ht_⟩) (fun q h => absurd h List.not_mem_nil) d_P_keep_24
set_option maxHeartbeats 1000000 in
set_option maxRecDepth 100000 in
theorem c_P_keep (l : Launch) (dC : Nat → ClassId) (dI : Nat → Nat → Nat) {sz : Nat} {o q n : Nat} {cW : ClassId} {wa : Nat → Option Nat} {a h pp qq : Nat} {f : Nat → Bool} (hn : n < 40) : Met l y_P_keep ws_P_keep ({ frames := 0, cells := 0, slots := 0, locals := 0 } : Room) (md_Pre [.ref o, .ref a] dC dI sz [(cW, .object "PeriodWords$Word")] (pwc o q n cW wa ++ wc1 a h pp f qq)) (va_Qi (fun r u => r = nI n ∧ u = (n + 1, va_up wa n (some a))) (kp_B dC dI (va_A (pwc o q n cW wa ++ wc1 a h pp f qq) sz) o q cW a h pp f qq) (va_A (pwc o q n cW wa ++ wc1 a h pp f qq) sz)) 0 0 (va_A (pwc o q n cW wa ++ wc1 a h pp f qq) sz) := by
  refine Met.ofW (cc := b_P_keep) (maxL := 2) (ret := (some .int)) (by decide) rfl ?_
  intro p e s m args below meth c s₁ B hml hv
  obtain ⟨rfl, hsz, hP, hK, hD0⟩ := hv
  have hx := B.exec
  have hb := B.bytes
  have hr := B.returns
  have hts := atoms_spec (ws := ws_P_keep) B.pre
  have hown : s.vm.findClass R_P = some m.cls := findClass_of_methodNamed B.named
  have hlocks := B.notSynchronized
  subst hsz
  have hD := hD0.self (sz := s.heap.size)
  generalize hAe : va_A (pwc o q n cW wa ++ wc1 a h pp f qq) s.heap.size = A at hD ⊢
  have hA : ∀ q : Nat, s.heap.size ≤ q → A q := fun q h => by rw [← hAe]; exact Or.inr h
  have hS : va_S A s.heap s.heap [] := va_S.rf
  have hl := lv_entry ([.ref o, .ref a]) (n := 2) (Nat.le_of_ble_eq_true rfl)
  rw [lg_entry_eq]
  generalize (lg_sl ([.ref o, .ref a]) ++ List.replicate (2 - (lg_sl ([.ref o, .ref a])).length) Slot.unset).toArray = ls at hl ⊢
  have hl : lv_has ls 2 [(0, .ref o), (1, .ref a)] := hl
  refine lv_aload_n hx hb d_P_keep_0 rfl (lv_at hl 1 rfl) ?_
  refine lv_ifnull hx hb d_P_keep_1 ?_
  refine lv_aload_n hx hb d_P_keep_4 rfl (lv_at hl 0 rfl) ?_
  refine va_get (D := (dC, dI)) (ci := ciP) (v := .int (nI (n))) (C := R_P) (T := F_P) (N := 2) hx hb hts (fun w h => List.mem_cons_of_mem _ (in_P w h)) hown hK hP 0 rfl rfl 1 (by decide) (hts (.fieldLink R_P 15 "PeriodWords" "count" "I") (List.mem_cons_of_mem _ mb_46)) (fun _ h9 => h9) rfl d_P_keep_5 ?_
  refine pq_if_lt (tgt := 23) hx hb d_P_keep_8 (by decide) (by omega) ?_
  refine lv_aload_n hx hb d_P_keep_11 rfl (lv_at hl 0 rfl) ?_
  refine va_get (D := (dC, dI)) (ci := ciP) (v := .int (nI (n))) (C := R_P) (T := F_P) (N := 2) hx hb hts (fun w h => List.mem_cons_of_mem _ (in_P w h)) hown hK hP 0 rfl rfl 1 (by decide) (hts (.fieldLink R_P 15 "PeriodWords" "count" "I") (List.mem_cons_of_mem _ mb_46)) (fun _ h9 => h9) rfl d_P_keep_12 ?_
  refine lv_aload_n hx hb d_P_keep_15 rfl (lv_at hl 0 rfl) ?_
  refine va_get (D := (dC, dI)) (ci := ciP) (v := .ref q) (C := R_P) (T := F_P) (N := 2) hx hb hts (fun w h => List.mem_cons_of_mem _ (in_P w h)) hown hK hP 0 rfl rfl 0 (by decide) (hts (.fieldLink R_P 11 "PeriodWords" "words" "[LPeriodWords$Word;") (List.mem_cons_of_mem _ mb_45)) (fun _ h9 => h9) rfl d_P_keep_16 ?_
  refine va_alen hx hb hK hP 1 0 rfl rfl (v := nI (40)) rfl d_P_keep_19 ?_
  refine pq_icmp_lt (tgt := 25) (a := n) (b := 40) hx hb d_P_keep_20 (by decide) (by omega) (by omega) (fun c_20 => ?_) (fun c_20 => absurd c_20 (by omega))
  refine lv_aload_n hx hb d_P_keep_25 rfl (lv_at hl 0 rfl) ?_
  refine va_get (D := (dC, dI)) (ci := ciP) (v := .ref q) (C := R_P) (T := F_P) (N := 2) hx hb hts (fun w h => List.mem_cons_of_mem _ (in_P w h)) hown hK hP 0 rfl rfl 0 (by decide) (hts (.fieldLink R_P 11 "PeriodWords" "words" "[LPeriodWords$Word;") (List.mem_cons_of_mem _ mb_45)) (fun _ h9 => h9) rfl d_P_keep_26 ?_
  refine lv_aload_n hx hb d_P_keep_29 rfl (lv_at hl 0 rfl) ?_
  refine va_get (D := (dC, dI)) (ci := ciP) (v := .int (nI (n))) (C := R_P) (T := F_P) (N := 2) hx hb hts (fun w h => List.mem_cons_of_mem _ (in_P w h)) hown hK hP 0 rfl rfl 1 (by decide) (hts (.fieldLink R_P 15 "PeriodWords" "count" "I") (List.mem_cons_of_mem _ mb_46)) (fun _ h9 => h9) rfl d_P_keep_30 ?_
  refine lv_aload_n hx hb d_P_keep_33 rfl (lv_at hl 1 rfl) ?_
  refine va_astq hx hb hK hP hD hS 1 0 2 1 (r := (R_W, F_W, 7)) rfl rfl rfl rfl (vp_in_nI (n := n) (by omega) (by omega)) d_P_keep_34 (fun H locs hP hD hS => ?_)
  rw [pq_cl (by omega)] at hP hD
  have hP : va_P (dC, dI) vwCl [(o, .inr (ciP, [.ref q, .int (nI (n))])), (q, .inl (cW, 40, .inr (.inr (.inr (.inr (va_up wa n (some a))))))), (a, .inr (ciW, [.int (nI (h)), .long (lN (pw_b f 0 h)), .int (nI (pp)), .long (lN (pw_b f h pp)), .int (nI (pw_c f h)), .int (nI (pw_o f h pp)), .ref qq]))] H := hP
  have hD : va_D A [(o, .inr (ciP, [.ref q, .int (nI (n))])), (q, .inl (cW, 40, .inr (.inr (.inr (.inr (va_up wa n (some a))))))), (a, .inr (ciW, [.int (nI (h)), .long (lN (pw_b f 0 h)), .int (nI (pp)), .long (lN (pw_b f h pp)), .int (nI (pw_c f h)), .int (nI (pw_o f h pp)), .ref qq]))] := hD
  refine lv_aload_n hx hb d_P_keep_35 rfl (lv_at hl 0 rfl) ?_
  refine lv_dup hx hb d_P_keep_36 rfl ?_
  refine va_get (D := (dC, dI)) (ci := ciP) (v := .int (nI (n))) (C := R_P) (T := F_P) (N := 2) hx hb hts (fun w h => List.mem_cons_of_mem _ (in_P w h)) hown hK hP 0 rfl rfl 1 (by decide) (hts (.fieldLink R_P 15 "PeriodWords" "count" "I") (List.mem_cons_of_mem _ mb_46)) (fun _ h9 => h9) rfl d_P_keep_37 ?_
  refine lv_iconst (v := nI 1) hx hb d_P_keep_40 (by decide) ?_
  refine pq_iadd (a := n) (b := 1) hx hb d_P_keep_41 ?_
  refine va_put (D := (dC, dI)) (ci := ciP) (v := .int (nI (n + 1))) (ty := .int) (C := R_P) (T := F_P) (N := 2) hx hb hts (fun w h => List.mem_cons_of_mem _ (in_P w h)) t_P t_P_ok n_P hown hK hP hD hS 0 rfl rfl 1 (by decide) (hts (.fieldLink R_P 15 "PeriodWords" "count" "I") (List.mem_cons_of_mem _ mb_46)) (fun _ h9 => h9) rfl (by decide +kernel) rfl rfl (Nat.le_of_ble_eq_true rfl) d_P_keep_42 (fun H locs hP hD hS => ?_)
  have hP : va_P (dC, dI) vwCl [(o, .inr (ciP, [.ref q, .int (nI (n + 1))])), (q, .inl (cW, 40, .inr (.inr (.inr (.inr (va_up wa n (some a))))))), (a, .inr (ciW, [.int (nI (h)), .long (lN (pw_b f 0 h)), .int (nI (pp)), .long (lN (pw_b f h pp)), .int (nI (pw_c f h)), .int (nI (pw_o f h pp)), .ref qq]))] H := hP
  have hD : va_D A [(o, .inr (ciP, [.ref q, .int (nI (n + 1))])), (q, .inl (cW, 40, .inr (.inr (.inr (.inr (va_up wa n (some a))))))), (a, .inr (ciW, [.int (nI (h)), .long (lN (pw_b f 0 h)), .int (nI (pp)), .long (lN (pw_b f h pp)), .int (nI (pw_c f h)), .int (nI (pw_o f h pp)), .ref qq]))] := hD
  refine lv_aload_n hx hb d_P_keep_45 rfl (lv_at hl 0 rfl) ?_
  refine va_get (D := (dC, dI)) (ci := ciP) (v := .int (nI (n + 1))) (C := R_P) (T := F_P) (N := 2) hx hb hts (fun w h => List.mem_cons_of_mem _ (in_P w h)) hown hK hP 0 rfl rfl 1 (by decide) (hts (.fieldLink R_P 15 "PeriodWords" "count" "I") (List.mem_cons_of_mem _ mb_46)) (fun _ h9 => h9) rfl d_P_keep_46 ?_
  refine lv_iconst (v := nI 1) hx hb d_P_keep_49 (by decide) ?_
  refine pq_isub (a := (n + 1)) (b := 1) hx hb d_P_keep_50 (by omega) ?_
  exact W.iret (v := (nI ((n + 1) - 1))) hx hb hr (fun t_ ht_ hW_ => ⟨⟨_, (n + 1, va_up wa n (some a)), rfl, ⟨rfl, rfl⟩, by rw [ht_]; exact hP, va_K.moved hW_.alike hK, hD⟩, hS.F ht_⟩) hS.2.2 d_P_keep_51
set_option maxHeartbeats 1000000 in
set_option maxRecDepth 100000 in
theorem c_P_clear (l : Launch) (dC : Nat → ClassId) (dI : Nat → Nat → Nat) {sz : Nat} {o q n : Nat} {cW : ClassId} {wa : Nat → Option Nat} (hn : n ≤ 40) : Met l y_P_clear ws_P_clear ({ frames := 0, cells := 0, slots := 0, locals := 0 } : Room) (md_Pre [.ref o] dC dI sz [(cW, .object "PeriodWords$Word")] (pwc o q n cW wa)) (va_Qv (fun u => u.1 = 0) (pc_B dC dI (va_A (pwc o q n cW wa) sz) o q cW) (va_A (pwc o q n cW wa) sz)) 0 0 (va_A (pwc o q n cW wa) sz) := by
  refine Met.ofW (cc := b_P_clear) (maxL := 2) (ret := none) (by decide) rfl ?_
  intro p e s m args below meth c s₁ B hml hv
  obtain ⟨rfl, hsz, hP, hK, hD0⟩ := hv
  have hx := B.exec
  have hb := B.bytes
  have hr := B.returns
  have hts := atoms_spec (ws := ws_P_clear) B.pre
  have hown : s.vm.findClass R_P = some m.cls := findClass_of_methodNamed B.named
  have hlocks := B.notSynchronized
  subst hsz
  have hD := hD0.self (sz := s.heap.size)
  generalize hAe : va_A (pwc o q n cW wa) s.heap.size = A at hD ⊢
  have hA : ∀ q : Nat, s.heap.size ≤ q → A q := fun q h => by rw [← hAe]; exact Or.inr h
  have hS : va_S A s.heap s.heap [] := va_S.rf
  have hl := lv_entry ([.ref o]) (n := 2) (Nat.le_of_ble_eq_true rfl)
  rw [lg_entry_eq]
  generalize (lg_sl ([.ref o]) ++ List.replicate (2 - (lg_sl ([.ref o])).length) Slot.unset).toArray = ls at hl ⊢
  have hl : lv_has ls 2 [(0, .ref o)] := hl
  refine lv_iconst (v := nI 0) hx hb d_P_clear_0 (by decide) ?_
  refine lv_istore_n (lv' := [(1, .int (nI (0))), (0, .ref o)]) hx hb d_P_clear_1 rfl hl (by decide) rfl (fun ls hl => ?_)
  have B_2 : ∀ (k_ : Nat) (k : Nat) (wz : Nat → Option Nat) (H : Heap) (locs : List Loc) (ls : Array Slot), (40 - k) < k_ → (k ≤ 40) → (va_P (dC, dI) vwCl [(o, .inr (ciP, [.ref q, .int (nI (n))])), (q, .inl (cW, 40, .inr (.inr (.inr (.inr wz)))))] H) → (va_D A [(o, .inr (ciP, [.ref q, .int (nI (n))])), (q, .inl (cW, 40, .inr (.inr (.inr (.inr wz)))))]) → (va_S A s.heap H locs) → lv_has ls 2 [(0, .ref o), (1, .int (nI (k)))] → W p l e (headSpec ws_P_clear ({ frames := 0, cells := 0, slots := 0, locals := 0 } : Room)).room s m ([.ref o]).toArray below meth c H locs 0 0 (MQ below (va_Qv (fun u => u.1 = 0) (pc_B dC dI A o q cW) A) ([.ref o]).toArray s 0 0 A) (F0 m 2 ls []) := by
    intro k_
    induction k_ with
    | zero => intro k wz H locs ls h_; omega
    | succ k_ ih_2 =>
      intro k wz H locs ls hm_ hk hP hD hS hl
      refine lv_iload_n hx hb d_P_clear_2 rfl (lv_at hl 1 rfl) ?_
      refine lv_aload_n hx hb d_P_clear_3 rfl (lv_at hl 0 rfl) ?_
      refine va_get (D := (dC, dI)) (ci := ciP) (v := .ref q) (C := R_P) (T := F_P) (N := 2) hx hb hts (fun w h => List.mem_cons_of_mem _ (in_P w h)) hown hK hP 0 rfl rfl 0 (by decide) (hts (.fieldLink R_P 11 "PeriodWords" "words" "[LPeriodWords$Word;") (List.mem_cons_of_mem _ mb_45)) (fun _ h9 => h9) rfl d_P_clear_4 ?_
      refine va_alen hx hb hK hP 1 0 rfl rfl (v := nI (40)) rfl d_P_clear_7 ?_
      refine pq_icmp_ge (tgt := 24) (a := k) (b := 40) hx hb d_P_clear_8 (by decide) (by omega) (by omega) (fun c_8 => ?_) (fun c_8 => ?_)
      · refine lv_aload_n hx hb d_P_clear_24 rfl (lv_at hl 0 rfl) ?_
        refine lv_iconst (v := nI 0) hx hb d_P_clear_25 (by decide) ?_
        refine va_put (D := (dC, dI)) (ci := ciP) (v := .int (nI (0))) (ty := .int) (C := R_P) (T := F_P) (N := 2) hx hb hts (fun w h => List.mem_cons_of_mem _ (in_P w h)) t_P t_P_ok n_P hown hK hP hD hS 0 rfl rfl 1 (by decide) (hts (.fieldLink R_P 15 "PeriodWords" "count" "I") (List.mem_cons_of_mem _ mb_46)) (fun _ h9 => h9) rfl (by decide +kernel) rfl rfl (Nat.le_of_ble_eq_true rfl) d_P_clear_26 (fun H locs hP hD hS => ?_)
        have hP : va_P (dC, dI) vwCl [(o, .inr (ciP, [.ref q, .int (nI (0))])), (q, .inl (cW, 40, .inr (.inr (.inr (.inr wz)))))] H := hP
        have hD : va_D A [(o, .inr (ciP, [.ref q, .int (nI (0))])), (q, .inl (cW, 40, .inr (.inr (.inr (.inr wz)))))] := hD
        exact W.vret hx hb hr (fun t_ ht_ hW_ => ⟨⟨(0, wz), rfl, rfl, by rw [ht_]; exact hP, va_K.moved hW_.alike hK, hD⟩, hS.F ht_⟩) hS.2.2 d_P_clear_29
      · refine lv_aload_n hx hb d_P_clear_11 rfl (lv_at hl 0 rfl) ?_
        refine va_get (D := (dC, dI)) (ci := ciP) (v := .ref q) (C := R_P) (T := F_P) (N := 2) hx hb hts (fun w h => List.mem_cons_of_mem _ (in_P w h)) hown hK hP 0 rfl rfl 0 (by decide) (hts (.fieldLink R_P 11 "PeriodWords" "words" "[LPeriodWords$Word;") (List.mem_cons_of_mem _ mb_45)) (fun _ h9 => h9) rfl d_P_clear_12 ?_
        refine lv_iload_n hx hb d_P_clear_15 rfl (lv_at hl 1 rfl) ?_
        refine lv_null hx hb d_P_clear_16 ?_
        refine va_astqN hx hb hK hP hD hS 1 0 rfl rfl (vp_in_nI (n := k) (by omega) (by omega)) d_P_clear_17 (fun H locs hP hD hS => ?_)
        rw [pq_cl (by omega)] at hP hD
        have hP : va_P (dC, dI) vwCl [(o, .inr (ciP, [.ref q, .int (nI (n))])), (q, .inl (cW, 40, .inr (.inr (.inr (.inr (va_up wz k none))))))] H := hP
        have hD : va_D A [(o, .inr (ciP, [.ref q, .int (nI (n))])), (q, .inl (cW, 40, .inr (.inr (.inr (.inr (va_up wz k none))))))] := hD
        refine lv_iinc (v := nI (k + 1)) (lv' := [(1, .int (nI (k + 1))), (0, .ref o)]) hx hb d_P_clear_18 hl (k := 1) rfl (pq_inc _) (by decide) rfl (fun ls hl => ?_)
        refine lv_goto (tgt := 2) hx hb d_P_clear_21 (by decide) ?_
        exact ih_2 (k + 1) (va_up wz k none) _ _ ls (by omega) (by omega) hP hD hS (lv_sub hl [1, 0] rfl)
  exact B_2 _ (0) (wa) _ _ ls (Nat.lt_succ_self _) (by omega) hP hD hS (lv_sub hl [1, 0] rfl)
