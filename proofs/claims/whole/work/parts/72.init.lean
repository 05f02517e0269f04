set_option maxHeartbeats 1000000 in
set_option maxRecDepth 100000 in
theorem c_M_init (l : Launch) (dC : Nat → ClassId) (dI : Nat → Nat → Nat) {sz : Nat} {o : Nat} : Met l y_M_init ws_M_init ({ frames := 1, cells := 5, slots := 7560, locals := 20 } : Room) (md_Pre [.ref o] dC dI sz [] [(o, .inr (ciM, [.int 0, .int 0, .null, .null, .null, .null, .null, .int 0, .int 0]))]) (va_Qv (fun _ => True) (mi_B dC dI (va_A [(o, .inr (ciM, [.int 0, .int 0, .null, .null, .null, .null, .null, .int 0, .int 0]))] sz) o) (va_A [(o, .inr (ciM, [.int 0, .int 0, .null, .null, .null, .null, .null, .int 0, .int 0]))] sz)) 5 7560 (va_A [(o, .inr (ciM, [.int 0, .int 0, .null, .null, .null, .null, .null, .int 0, .int 0]))] sz) := by
  refine Met.ofW (cc := b_M_init) (maxL := 1) (ret := none) (by decide) rfl ?_
  intro p e s m args below meth c s₁ B hml hv
  obtain ⟨rfl, hsz, hP, hK, hD0⟩ := hv
  have hx := B.exec
  have hb := B.bytes
  have hr := B.returns
  have hts := atoms_spec (ws := ws_M_init) B.pre
  have hown : s.vm.findClass R_M = some m.cls := findClass_of_methodNamed B.named
  have hlocks := B.notSynchronized
  subst hsz
  have hD := hD0.self (sz := s.heap.size)
  generalize hAe : va_A [(o, .inr (ciM, [.int 0, .int 0, .null, .null, .null, .null, .null, .int 0, .int 0]))] s.heap.size = A at hD ⊢
  have hA : ∀ q : Nat, s.heap.size ≤ q → A q := fun q h => by rw [← hAe]; exact Or.inr h
  have hS : va_S A s.heap s.heap [] := va_S.rf
  have hin : meth.name = "<init>" := (name_of_methodNamed B.named B.method).1
  have hl := lv_entry ([.ref o]) (n := 1) (Nat.le_of_ble_eq_true rfl)
  rw [lg_entry_eq]
  generalize (lg_sl ([.ref o]) ++ List.replicate (1 - (lg_sl ([.ref o])).length) Slot.unset).toArray = ls at hl ⊢
  have hl : lv_has ls 1 [(0, .ref o)] := hl
  refine lv_aload_n hx hb d_M_init_0 rfl (lv_at hl 0 rfl) ?_
  refine W.objInit hx hb hown (hts (.methodLink R_M 1 objectInit) (List.mem_cons_of_mem _ mb_382)) (hts (.instanceMethod objectInit) (List.mem_cons_of_mem _ mb_41)) (hts (.code objectInit ⟨#[0xb1]⟩ 1 none) (List.mem_cons_of_mem _ mb_42)) rfl (by rw [hml]; exact hl.1) rfl d_M_init_1 (Nat.le_of_ble_eq_true rfl) (Nat.le_of_ble_eq_true rfl) ?_
  refine W.eq (g2 := F0 m 4 ls []) rfl ?_
  refine lv_aload_n hx hb d_M_init_4 rfl (lv_at hl 0 rfl) ?_
  refine lv_bipush (v := nI 40) hx hb d_M_init_5 (by decide) ?_
  refine va_newa (atype := .int) (ty := .int) (n := nI 40) (N' := 40) (a0 := (40, .inl (fun _ => 0))) hx hb (hts (.arrayClass .int) (List.mem_cons_of_mem _ mb_107)) rfl hK hP hD hS hA (fun _ => rfl) (nI_pos (by omega)) (pq_cl (by omega)) (pq_nb .int (by decide) (by omega)) (Nat.le_of_ble_eq_true rfl) (Nat.le_of_ble_eq_true rfl) d_M_init_7 (fun q_7 cA_7 H hK hP hD hS => ?_)
  have hK : va_K (dC, dI) vwCl [(cA_7, .int)] s := hK
  have hP : va_P (dC, dI) vwCl [(o, .inr (ciM, [.int (0), .int (0), .null, .null, .null, .null, .null, .int (0), .int (0)])), (q_7, .inl (cA_7, 40, .inl (fun _ => 0)))] H := hP
  have hD : va_D A [(o, .inr (ciM, [.int (0), .int (0), .null, .null, .null, .null, .null, .int (0), .int (0)])), (q_7, .inl (cA_7, 40, .inl (fun _ => 0)))] := hD
  refine W.widen (k := 1) (n := 40) (by omega) (by omega) ?_
  refine va_putF (D := (dC, dI)) (ci := ciM) (v := .ref q_7) (ty := .array (.int)) (C := R_M) (T := F_M) (N := 9) hx hb hts (fun w h => List.mem_cons_of_mem _ (in_M w h)) t_M t_M_ok n_M hown hK hP hD hS 0 rfl rfl 2 (by decide) (hts (.fieldLink R_M 7 "PeriodWordsModel" "head" "[I") (List.mem_cons_of_mem _ mb_385)) (fun _ h9 => h9) rfl hin rfl (by decide +kernel) rfl rfl (Nat.le_of_ble_eq_true rfl) d_M_init_9 (fun H locs hP hD hS => ?_)
  have hP : va_P (dC, dI) vwCl [(o, .inr (ciM, [.int (0), .int (0), .ref q_7, .null, .null, .null, .null, .int (0), .int (0)])), (q_7, .inl (cA_7, 40, .inl (fun _ => 0)))] H := hP
  have hD : va_D A [(o, .inr (ciM, [.int (0), .int (0), .ref q_7, .null, .null, .null, .null, .int (0), .int (0)])), (q_7, .inl (cA_7, 40, .inl (fun _ => 0)))] := hD
  refine lv_aload_n hx hb d_M_init_12 rfl (lv_at hl 0 rfl) ?_
  refine lv_bipush (v := nI 40) hx hb d_M_init_13 (by decide) ?_
  refine va_newa (atype := .int) (ty := .int) (n := nI 40) (N' := 40) (a0 := (40, .inl (fun _ => 0))) hx hb (hts (.arrayClass .int) (List.mem_cons_of_mem _ mb_107)) rfl hK hP hD hS hA (fun _ => rfl) (nI_pos (by omega)) (pq_cl (by omega)) (pq_nb .int (by decide) (by omega)) (Nat.le_of_ble_eq_true rfl) (Nat.le_of_ble_eq_true rfl) d_M_init_15 (fun q_15 cA_15 H hK hP hD hS => ?_)
  have hK : va_K (dC, dI) vwCl [(cA_7, .int), (cA_15, .int)] s := hK
  have hP : va_P (dC, dI) vwCl [(o, .inr (ciM, [.int (0), .int (0), .ref q_7, .null, .null, .null, .null, .int (0), .int (0)])), (q_7, .inl (cA_7, 40, .inl (fun _ => 0))), (q_15, .inl (cA_15, 40, .inl (fun _ => 0)))] H := hP
  have hD : va_D A [(o, .inr (ciM, [.int (0), .int (0), .ref q_7, .null, .null, .null, .null, .int (0), .int (0)])), (q_7, .inl (cA_7, 40, .inl (fun _ => 0))), (q_15, .inl (cA_15, 40, .inl (fun _ => 0)))] := hD
  refine W.widen (k := 2) (n := 80) (by omega) (by omega) ?_
  refine va_putF (D := (dC, dI)) (ci := ciM) (v := .ref q_15) (ty := .array (.int)) (C := R_M) (T := F_M) (N := 9) hx hb hts (fun w h => List.mem_cons_of_mem _ (in_M w h)) t_M t_M_ok n_M hown hK hP hD hS 0 rfl rfl 3 (by decide) (hts (.fieldLink R_M 13 "PeriodWordsModel" "ring" "[I") (List.mem_cons_of_mem _ mb_386)) (fun _ h9 => h9) rfl hin rfl (by decide +kernel) rfl rfl (Nat.le_of_ble_eq_true rfl) d_M_init_17 (fun H locs hP hD hS => ?_)
  have hP : va_P (dC, dI) vwCl [(o, .inr (ciM, [.int (0), .int (0), .ref q_7, .ref q_15, .null, .null, .null, .int (0), .int (0)])), (q_7, .inl (cA_7, 40, .inl (fun _ => 0))), (q_15, .inl (cA_15, 40, .inl (fun _ => 0)))] H := hP
  have hD : va_D A [(o, .inr (ciM, [.int (0), .int (0), .ref q_7, .ref q_15, .null, .null, .null, .int (0), .int (0)])), (q_7, .inl (cA_7, 40, .inl (fun _ => 0))), (q_15, .inl (cA_15, 40, .inl (fun _ => 0)))] := hD
  refine lv_aload_n hx hb d_M_init_20 rfl (lv_at hl 0 rfl) ?_
  refine lv_bipush (v := nI 40) hx hb d_M_init_21 (by decide) ?_
  refine va_newa (atype := .long) (ty := .long) (n := nI 40) (N' := 40) (a0 := (40, .inr (.inl (fun _ => 0)))) hx hb (hts (.arrayClass .long) (List.mem_cons_of_mem _ mb_411)) rfl hK hP hD hS hA (fun _ => rfl) (nI_pos (by omega)) (pq_cl (by omega)) (pq_nb .long (by decide) (by omega)) (Nat.le_of_ble_eq_true rfl) (Nat.le_of_ble_eq_true rfl) d_M_init_23 (fun q_23 cA_23 H hK hP hD hS => ?_)
  have hK : va_K (dC, dI) vwCl [(cA_7, .int), (cA_15, .int), (cA_23, .long)] s := hK
  have hP : va_P (dC, dI) vwCl [(o, .inr (ciM, [.int (0), .int (0), .ref q_7, .ref q_15, .null, .null, .null, .int (0), .int (0)])), (q_7, .inl (cA_7, 40, .inl (fun _ => 0))), (q_15, .inl (cA_15, 40, .inl (fun _ => 0))), (q_23, .inl (cA_23, 40, .inr (.inl (fun _ => 0))))] H := hP
  have hD : va_D A [(o, .inr (ciM, [.int (0), .int (0), .ref q_7, .ref q_15, .null, .null, .null, .int (0), .int (0)])), (q_7, .inl (cA_7, 40, .inl (fun _ => 0))), (q_15, .inl (cA_15, 40, .inl (fun _ => 0))), (q_23, .inl (cA_23, 40, .inr (.inl (fun _ => 0))))] := hD
  refine W.widen (k := 3) (n := 120) (by omega) (by omega) ?_
  refine va_putF (D := (dC, dI)) (ci := ciM) (v := .ref q_23) (ty := .array (.long)) (C := R_M) (T := F_M) (N := 9) hx hb hts (fun w h => List.mem_cons_of_mem _ (in_M w h)) t_M t_M_ok n_M hown hK hP hD hS 0 rfl rfl 4 (by decide) (hts (.fieldLink R_M 16 "PeriodWordsModel" "headBits" "[J") (List.mem_cons_of_mem _ mb_387)) (fun _ h9 => h9) rfl hin rfl (by decide +kernel) rfl rfl (Nat.le_of_ble_eq_true rfl) d_M_init_25 (fun H locs hP hD hS => ?_)
  have hP : va_P (dC, dI) vwCl [(o, .inr (ciM, [.int (0), .int (0), .ref q_7, .ref q_15, .ref q_23, .null, .null, .int (0), .int (0)])), (q_7, .inl (cA_7, 40, .inl (fun _ => 0))), (q_15, .inl (cA_15, 40, .inl (fun _ => 0))), (q_23, .inl (cA_23, 40, .inr (.inl (fun _ => 0))))] H := hP
  have hD : va_D A [(o, .inr (ciM, [.int (0), .int (0), .ref q_7, .ref q_15, .ref q_23, .null, .null, .int (0), .int (0)])), (q_7, .inl (cA_7, 40, .inl (fun _ => 0))), (q_15, .inl (cA_15, 40, .inl (fun _ => 0))), (q_23, .inl (cA_23, 40, .inr (.inl (fun _ => 0))))] := hD
  refine lv_aload_n hx hb d_M_init_28 rfl (lv_at hl 0 rfl) ?_
  refine lv_bipush (v := nI 40) hx hb d_M_init_29 (by decide) ?_
  refine va_newa (atype := .long) (ty := .long) (n := nI 40) (N' := 40) (a0 := (40, .inr (.inl (fun _ => 0)))) hx hb (hts (.arrayClass .long) (List.mem_cons_of_mem _ mb_411)) rfl hK hP hD hS hA (fun _ => rfl) (nI_pos (by omega)) (pq_cl (by omega)) (pq_nb .long (by decide) (by omega)) (Nat.le_of_ble_eq_true rfl) (Nat.le_of_ble_eq_true rfl) d_M_init_31 (fun q_31 cA_31 H hK hP hD hS => ?_)
  have hK : va_K (dC, dI) vwCl [(cA_7, .int), (cA_15, .int), (cA_23, .long), (cA_31, .long)] s := hK
  have hP : va_P (dC, dI) vwCl [(o, .inr (ciM, [.int (0), .int (0), .ref q_7, .ref q_15, .ref q_23, .null, .null, .int (0), .int (0)])), (q_7, .inl (cA_7, 40, .inl (fun _ => 0))), (q_15, .inl (cA_15, 40, .inl (fun _ => 0))), (q_23, .inl (cA_23, 40, .inr (.inl (fun _ => 0)))), (q_31, .inl (cA_31, 40, .inr (.inl (fun _ => 0))))] H := hP
  have hD : va_D A [(o, .inr (ciM, [.int (0), .int (0), .ref q_7, .ref q_15, .ref q_23, .null, .null, .int (0), .int (0)])), (q_7, .inl (cA_7, 40, .inl (fun _ => 0))), (q_15, .inl (cA_15, 40, .inl (fun _ => 0))), (q_23, .inl (cA_23, 40, .inr (.inl (fun _ => 0)))), (q_31, .inl (cA_31, 40, .inr (.inl (fun _ => 0))))] := hD
  refine W.widen (k := 4) (n := 160) (by omega) (by omega) ?_
  refine va_putF (D := (dC, dI)) (ci := ciM) (v := .ref q_31) (ty := .array (.long)) (C := R_M) (T := F_M) (N := 9) hx hb hts (fun w h => List.mem_cons_of_mem _ (in_M w h)) t_M t_M_ok n_M hown hK hP hD hS 0 rfl rfl 5 (by decide) (hts (.fieldLink R_M 20 "PeriodWordsModel" "ringBits" "[J") (List.mem_cons_of_mem _ mb_388)) (fun _ h9 => h9) rfl hin rfl (by decide +kernel) rfl rfl (Nat.le_of_ble_eq_true rfl) d_M_init_33 (fun H locs hP hD hS => ?_)
  have hP : va_P (dC, dI) vwCl [(o, .inr (ciM, [.int (0), .int (0), .ref q_7, .ref q_15, .ref q_23, .ref q_31, .null, .int (0), .int (0)])), (q_7, .inl (cA_7, 40, .inl (fun _ => 0))), (q_15, .inl (cA_15, 40, .inl (fun _ => 0))), (q_23, .inl (cA_23, 40, .inr (.inl (fun _ => 0)))), (q_31, .inl (cA_31, 40, .inr (.inl (fun _ => 0))))] H := hP
  have hD : va_D A [(o, .inr (ciM, [.int (0), .int (0), .ref q_7, .ref q_15, .ref q_23, .ref q_31, .null, .int (0), .int (0)])), (q_7, .inl (cA_7, 40, .inl (fun _ => 0))), (q_15, .inl (cA_15, 40, .inl (fun _ => 0))), (q_23, .inl (cA_23, 40, .inr (.inl (fun _ => 0)))), (q_31, .inl (cA_31, 40, .inr (.inl (fun _ => 0))))] := hD
  refine lv_aload_n hx hb d_M_init_36 rfl (lv_at hl 0 rfl) ?_
  refine lv_sipush (v := nI 7400) hx hb d_M_init_37 (by decide) ?_
  refine va_newa (atype := .boolean) (ty := .boolean) (n := nI 7400) (N' := 7400) (a0 := (7400, .inl (fun _ => 0))) hx hb (hts (.arrayClass .boolean) (List.mem_cons_of_mem _ mb_412)) rfl hK hP hD hS hA (fun _ => rfl) (nI_pos (by omega)) (pq_cl (by omega)) (pq_nb .boolean (by decide) (by omega)) (Nat.le_of_ble_eq_true rfl) (Nat.le_of_ble_eq_true rfl) d_M_init_40 (fun q_40 cA_40 H hK hP hD hS => ?_)
  have hK : va_K (dC, dI) vwCl [(cA_7, .int), (cA_15, .int), (cA_23, .long), (cA_31, .long), (cA_40, .boolean)] s := hK
  have hP : va_P (dC, dI) vwCl [(o, .inr (ciM, [.int (0), .int (0), .ref q_7, .ref q_15, .ref q_23, .ref q_31, .null, .int (0), .int (0)])), (q_7, .inl (cA_7, 40, .inl (fun _ => 0))), (q_15, .inl (cA_15, 40, .inl (fun _ => 0))), (q_23, .inl (cA_23, 40, .inr (.inl (fun _ => 0)))), (q_31, .inl (cA_31, 40, .inr (.inl (fun _ => 0)))), (q_40, .inl (cA_40, 7400, .inl (fun _ => 0)))] H := hP
  have hD : va_D A [(o, .inr (ciM, [.int (0), .int (0), .ref q_7, .ref q_15, .ref q_23, .ref q_31, .null, .int (0), .int (0)])), (q_7, .inl (cA_7, 40, .inl (fun _ => 0))), (q_15, .inl (cA_15, 40, .inl (fun _ => 0))), (q_23, .inl (cA_23, 40, .inr (.inl (fun _ => 0)))), (q_31, .inl (cA_31, 40, .inr (.inl (fun _ => 0)))), (q_40, .inl (cA_40, 7400, .inl (fun _ => 0)))] := hD
  refine W.widen (k := 5) (n := 7560) (by omega) (by omega) ?_
  refine va_putF (D := (dC, dI)) (ci := ciM) (v := .ref q_40) (ty := .array (.boolean)) (C := R_M) (T := F_M) (N := 9) hx hb hts (fun w h => List.mem_cons_of_mem _ (in_M w h)) t_M t_M_ok n_M hown hK hP hD hS 0 rfl rfl 6 (by decide) (hts (.fieldLink R_M 23 "PeriodWordsModel" "bits" "[Z") (List.mem_cons_of_mem _ mb_389)) (fun _ h9 => h9) rfl hin rfl (by decide +kernel) rfl rfl (Nat.le_of_ble_eq_true rfl) d_M_init_42 (fun H locs hP hD hS => ?_)
  have hP : va_P (dC, dI) vwCl [(o, .inr (ciM, [.int (0), .int (0), .ref q_7, .ref q_15, .ref q_23, .ref q_31, .ref q_40, .int (0), .int (0)])), (q_7, .inl (cA_7, 40, .inl (fun _ => 0))), (q_15, .inl (cA_15, 40, .inl (fun _ => 0))), (q_23, .inl (cA_23, 40, .inr (.inl (fun _ => 0)))), (q_31, .inl (cA_31, 40, .inr (.inl (fun _ => 0)))), (q_40, .inl (cA_40, 7400, .inl (fun _ => 0)))] H := hP
  have hD : va_D A [(o, .inr (ciM, [.int (0), .int (0), .ref q_7, .ref q_15, .ref q_23, .ref q_31, .ref q_40, .int (0), .int (0)])), (q_7, .inl (cA_7, 40, .inl (fun _ => 0))), (q_15, .inl (cA_15, 40, .inl (fun _ => 0))), (q_23, .inl (cA_23, 40, .inr (.inl (fun _ => 0)))), (q_31, .inl (cA_31, 40, .inr (.inl (fun _ => 0)))), (q_40, .inl (cA_40, 7400, .inl (fun _ => 0)))] := hD
  exact W.vret hx hb hr (fun t_ ht_ hW_ => ⟨⟨((q_7, q_15, q_23, q_31, q_40), (cA_7, cA_15, cA_23, cA_31, cA_40)), rfl, trivial, by rw [ht_]; exact hP, va_K.moved hW_.alike hK, hD⟩, hS.F ht_⟩) hS.2.2 d_M_init_45
set_option maxHeartbeats 1000000 in
set_option maxRecDepth 100000 in
theorem c_P_init (l : Launch) (dC : Nat → ClassId) (dI : Nat → Nat → Nat) {sz : Nat} {o : Nat} : Met l y_P_init ws_P_init ({ frames := 1, cells := 1, slots := 40, locals := 20 } : Room) (pi_Pre [.ref o] dC dI sz [] [(o, .inr (ciP, [.null, .int 0]))]) (va_Qv (fun _ => True) (pi_B dC dI (va_A [(o, .inr (ciP, [.null, .int 0]))] sz) o) (va_A [(o, .inr (ciP, [.null, .int 0]))] sz)) 1 40 (va_A [(o, .inr (ciP, [.null, .int 0]))] sz) := by
  refine Met.ofW (cc := b_P_init) (maxL := 1) (ret := none) (by decide) rfl ?_
  intro p e s m args below meth c s₁ B hml hv
  obtain ⟨⟨rfl, hsz, hP, hK, hD0⟩, hover⟩ := hv
  have hx := B.exec
  have hb := B.bytes
  have hr := B.returns
  have hts := atoms_spec (ws := ws_P_init) B.pre
  have hown : s.vm.findClass R_P = some m.cls := findClass_of_methodNamed B.named
  have hlocks := B.notSynchronized
  subst hsz
  have hD := hD0.self (sz := s.heap.size)
  generalize hAe : va_A [(o, .inr (ciP, [.null, .int 0]))] s.heap.size = A at hD ⊢
  have hA : ∀ q : Nat, s.heap.size ≤ q → A q := fun q h => by rw [← hAe]; exact Or.inr h
  have hS : va_S A s.heap s.heap [] := va_S.rf
  have hin : meth.name = "<init>" := (name_of_methodNamed B.named B.method).1
  have hl := lv_entry ([.ref o]) (n := 1) (Nat.le_of_ble_eq_true rfl)
  rw [lg_entry_eq]
  generalize (lg_sl ([.ref o]) ++ List.replicate (1 - (lg_sl ([.ref o])).length) Slot.unset).toArray = ls at hl ⊢
  have hl : lv_has ls 1 [(0, .ref o)] := hl
  refine lv_aload_n hx hb d_P_init_0 rfl (lv_at hl 0 rfl) ?_
  refine W.objInit hx hb hown (hts (.methodLink R_P 1 objectInit) (List.mem_cons_of_mem _ mb_40)) (hts (.instanceMethod objectInit) (List.mem_cons_of_mem _ mb_41)) (hts (.code objectInit ⟨#[0xb1]⟩ 1 none) (List.mem_cons_of_mem _ mb_42)) rfl (by rw [hml]; exact hl.1) rfl d_P_init_1 (Nat.le_of_ble_eq_true rfl) (Nat.le_of_ble_eq_true rfl) ?_
  refine W.eq (g2 := F0 m 4 ls []) rfl ?_
  refine lv_aload_n hx hb d_P_init_4 rfl (lv_at hl 0 rfl) ?_
  refine lv_bipush (v := nI 40) hx hb d_P_init_5 (by decide) ?_
  refine va_newq (own := R_P) (C := "PeriodWords$Word") (n := nI 40) (N' := 40) hx hb hown (hts (.classLink R_P 9 R_W) (List.mem_cons_of_mem _ mb_43)) hover hK hP hD hS hA (nI_pos (by omega)) (pq_cl (by omega)) (by decide) (Nat.le_of_ble_eq_true rfl) (Nat.le_of_ble_eq_true rfl) d_P_init_7 (fun q_7 cA_7 H hK hP hD hS => ?_)
  have hK : va_K (dC, dI) vwCl [(cA_7, .object "PeriodWords$Word")] s := hK
  have hP : va_P (dC, dI) vwCl [(o, .inr (ciP, [.null, .int (0)])), (q_7, .inl (cA_7, 40, .inr (.inr (.inr (.inr (fun _ => none))))))] H := hP
  have hD : va_D A [(o, .inr (ciP, [.null, .int (0)])), (q_7, .inl (cA_7, 40, .inr (.inr (.inr (.inr (fun _ => none))))))] := hD
  refine W.widen (k := 1) (n := 40) (by omega) (by omega) ?_
  refine va_putF (D := (dC, dI)) (ci := ciP) (v := .ref q_7) (ty := .array (.object "PeriodWords$Word")) (C := R_P) (T := F_P) (N := 2) hx hb hts (fun w h => List.mem_cons_of_mem _ (in_P w h)) t_P t_P_ok n_P hown hK hP hD hS 0 rfl rfl 0 (by decide) (hts (.fieldLink R_P 11 "PeriodWords" "words" "[LPeriodWords$Word;") (List.mem_cons_of_mem _ mb_45)) (fun _ h9 => h9) rfl hin rfl (by decide +kernel) rfl rfl (Nat.le_of_ble_eq_true rfl) d_P_init_10 (fun H locs hP hD hS => ?_)
  have hP : va_P (dC, dI) vwCl [(o, .inr (ciP, [.ref q_7, .int (0)])), (q_7, .inl (cA_7, 40, .inr (.inr (.inr (.inr (fun _ => none))))))] H := hP
  have hD : va_D A [(o, .inr (ciP, [.ref q_7, .int (0)])), (q_7, .inl (cA_7, 40, .inr (.inr (.inr (.inr (fun _ => none))))))] := hD
  refine lv_aload_n hx hb d_P_init_13 rfl (lv_at hl 0 rfl) ?_
  refine lv_iconst (v := nI 0) hx hb d_P_init_14 (by decide) ?_
  refine va_put (D := (dC, dI)) (ci := ciP) (v := .int (nI (0))) (ty := .int) (C := R_P) (T := F_P) (N := 2) hx hb hts (fun w h => List.mem_cons_of_mem _ (in_P w h)) t_P t_P_ok n_P hown hK hP hD hS 0 rfl rfl 1 (by decide) (hts (.fieldLink R_P 15 "PeriodWords" "count" "I") (List.mem_cons_of_mem _ mb_46)) (fun _ h9 => h9) rfl (by decide +kernel) rfl rfl (Nat.le_of_ble_eq_true rfl) d_P_init_15 (fun H locs hP hD hS => ?_)
  have hP : va_P (dC, dI) vwCl [(o, .inr (ciP, [.ref q_7, .int (nI (0))])), (q_7, .inl (cA_7, 40, .inr (.inr (.inr (.inr (fun _ => none))))))] H := hP
  have hD : va_D A [(o, .inr (ciP, [.ref q_7, .int (nI (0))])), (q_7, .inl (cA_7, 40, .inr (.inr (.inr (.inr (fun _ => none))))))] := hD
  exact W.vret hx hb hr (fun t_ ht_ hW_ => ⟨⟨(q_7, cA_7), rfl, trivial, by rw [ht_]; exact hP, va_K.moved hW_.alike hK, hD⟩, hS.F ht_⟩) hS.2.2 d_P_init_18
