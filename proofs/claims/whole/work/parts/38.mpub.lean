set_option maxHeartbeats 4000000 in
set_option maxRecDepth 100000 in
theorem c_M_waiting (l : Launch) (dC : Nat → ClassId) (dI : Nat → Nat → Nat) {o a1 a2 a3 a4 a5 : Nat} {c1 c2 c3 c4 c5 : ClassId} {th mo le : Int32} {n : Nat} {xh yr : Nat → Int32} {xb yb : Nat → Int64} {bs : Nat → Int32} {i h pp : Nat} {f : Nat → Bool} (hmd : md_at xh yr xb yb i h pp f) {i2 h2 pp2 : Nat} {f2 : Nat → Bool} (hmd2 : md_at xh yr xb yb i2 h2 pp2 f2) : Met l y_M_waiting ws_M_waiting ({ frames := 3, cells := 0, slots := 0, locals := 72 } : Room) (pw_R [.ref o, .int (nI (i)), .int (nI (i2))] dC dI (mdT c1 c2 c3 c4 c5) (md o a1 a2 a3 a4 a5 c1 c2 c3 c4 c5 th n mo le xh yr xb yb bs)) (vp_Si (fun r => pw_wt ((h, pp, f) : pw_V) ((h2, pp2, f2) : pw_V) r)) 0 0 (fun _ => False) := by
  refine Met.ofW (cc := b_M_waiting) (maxL := 8) (ret := (some .int)) (by decide) rfl ?_
  intro p e s m args below meth c s₁ B hml hv
  obtain ⟨rfl, hP, hK⟩ := hv
  have hx := B.exec
  have hb := B.bytes
  have hr := B.returns
  have hts := atoms_spec (ws := ws_M_waiting) B.pre
  have hown : s.vm.findClass R_M = some m.cls := findClass_of_methodNamed B.named
  have hlocks := B.notSynchronized
  have hmd_ := hmd; obtain ⟨hi, e1, e2, e3, e4, hok⟩ := hmd_; have hok_ := hok; obtain ⟨hh, hp0, hp6, hE⟩ := hok_
  have ho := pw_o_le f h pp
  have hc := pw_c_le f h
  have hb0 := pq_lt60 (pw_b_lt f 0 h) hh
  have hb1 := pq_lt60 (pw_b_lt f h pp) hp6
  have hmd2_ := hmd2; obtain ⟨hi2, e12, e22, e32, e42, hok2⟩ := hmd2_; have hok2_ := hok2; obtain ⟨hh2, hp02, hp62, hE2⟩ := hok2_
  have ho2 := pw_o_le f2 h2 pp2
  have hc2 := pw_c_le f2 h2
  have hb02 := pq_lt60 (pw_b_lt f2 0 h2) hh2
  have hb12 := pq_lt60 (pw_b_lt f2 h2 pp2) hp62
  have m1 : pw_o f h pp * pp2 ≤ 60 * 60 := Nat.mul_le_mul (by omega) (by omega)
  have m2 : pw_o f2 h2 pp2 * pp ≤ 60 * 60 := Nat.mul_le_mul (by omega) (by omega)
  have hl := lv_entry ([.ref o, .int (nI (i)), .int (nI (i2))]) (n := 8) (Nat.le_of_ble_eq_true rfl)
  rw [lg_entry_eq]
  generalize (lg_sl ([.ref o, .int (nI (i)), .int (nI (i2))]) ++ List.replicate (8 - (lg_sl ([.ref o, .int (nI (i)), .int (nI (i2))])).length) Slot.unset).toArray = ls at hl ⊢
  have hl : lv_has ls 8 [(0, .ref o), (1, .int (nI (i))), (2, .int (nI (i2)))] := hl
  refine lv_aload_n hx hb d_M_waiting_0 rfl (lv_at hl 0 rfl) ?_
  refine lv_iload_n hx hb d_M_waiting_1 rfl (lv_at hl 1 rfl) ?_
  refine lv_iload_n hx hb d_M_waiting_2 rfl (lv_at hl 2 rfl) ?_
  refine vp_callSi (W.runV (As := [.int (nI (i)), .int (nI (i2))]) (rest := []) ⟨hx, hb, hml, hown, hts⟩ (c_M_rates l dC dI hmd hmd2) (cwV 2 hts (gd_V mb_519 mb_521 mb_17 mb_23 mb_522) rfl rfl rfl (by decide +kernel) ⟨Nat.le_of_ble_eq_true rfl, Nat.le_of_ble_eq_true rfl⟩) (pw_R_V (va_recv hK hP (ci := ciM) (q0 := 0) rfl rfl) hP hK) rfl rfl hl.1 rfl (lv_room (Nat.le_of_ble_eq_true rfl)) d_M_waiting_3 ⟨Nat.le_of_ble_eq_true rfl, Nat.le_of_ble_eq_true rfl⟩) (fun r_3 hr_3 => ?_)
  subst hr_3
  refine lv_if_ge (tgt := 11) hx hb d_M_waiting_6 (by decide) (fun c_6 => ?_) (fun c_6 => ?_)
  · have hrt := (pq_rt (by omega) (by omega)).mp c_6
    have hoo : 0 < pw_o f2 h2 pp2 → 0 < pw_o f h pp := fun z => pw_oa hp0 z hrt
    refine lv_iconst (v := nI 0) hx hb d_M_waiting_11 (by decide) ?_
    refine lv_istore_n (lv' := [(3, .int (nI (0))), (0, .ref o), (1, .int (nI (i))), (2, .int (nI (i2)))]) hx hb d_M_waiting_12 rfl hl (by decide) rfl (fun ls hl => ?_)
    refine lv_bipush (v := nI 61) hx hb d_M_waiting_13 (by decide) ?_
    refine lv_aload_n hx hb d_M_waiting_15 rfl (lv_at hl 1 rfl) ?_
    refine lv_iload_n hx hb d_M_waiting_16 rfl (lv_at hl 3 rfl) ?_
    refine vp_callSi (W.runV (As := [.int (nI (i2))]) (rest := [.int (nI (61))]) ⟨hx, hb, hml, hown, hts⟩ (c_M_inRing l dC dI hmd2) (cwV 1 hts (gd_V mb_440 mb_442 mb_6 mb_23 mb_443) rfl rfl rfl (by decide +kernel) ⟨Nat.le_of_ble_eq_true rfl, Nat.le_of_ble_eq_true rfl⟩) (pw_R_V (va_recv hK hP (ci := ciM) (q0 := 0) rfl rfl) hP hK) rfl rfl hl.1 rfl (lv_room (Nat.le_of_ble_eq_true rfl)) d_M_waiting_17 ⟨Nat.le_of_ble_eq_true rfl, Nat.le_of_ble_eq_true rfl⟩) (fun r_17 hr_17 => ?_)
    subst hr_17
    refine lv_aload_n hx hb d_M_waiting_20 rfl (lv_at hl 1 rfl) ?_
    refine va_get (D := (dC, dI)) (ci := ciM) (v := .ref a2) (C := R_M) (T := F_M) (N := 9) hx hb hts (fun w h => List.mem_cons_of_mem _ (in_M w h)) hown hK hP 0 rfl rfl 3 (by decide) (hts (.fieldLink R_M 13 "PeriodWordsModel" "ring" "[I") (List.mem_cons_of_mem _ mb_386)) (fun _ h9 => h9) rfl d_M_waiting_21 ?_
    refine lv_iload_n hx hb d_M_waiting_24 rfl (lv_at hl 2 rfl) ?_
    refine va_iald hx hb hK hP 2 1 rfl rfl (vp_in_nI (n := i) (by omega) (by omega)) d_M_waiting_25 ?_
    refine pq_top (y := .int (yr i)) (by rw [pq_cl (by omega)]) ?_
    refine pq_top (y := .int (nI (pp))) (by rw [e2]) ?_
    refine pq_imul (a := (pw_o f2 h2 pp2)) (b := pp) hx hb d_M_waiting_26 ?_
    refine pq_iadd (a := 61) (b := ((pw_o f2 h2 pp2) * pp)) hx hb d_M_waiting_27 ?_
    refine lv_istore (lv' := [(4, .int (nI (61 + ((pw_o f2 h2 pp2) * pp)))), (3, .int (nI (0))), (0, .ref o), (1, .int (nI (i))), (2, .int (nI (i2)))]) hx hb d_M_waiting_28 hl (by decide) rfl (fun ls hl => ?_)
    refine lv_iconst (v := nI 1) hx hb d_M_waiting_30 (by decide) ?_
    refine lv_istore (lv' := [(5, .int (nI (1))), (4, .int (nI (61 + ((pw_o f2 h2 pp2) * pp)))), (3, .int (nI (0))), (0, .ref o), (1, .int (nI (i))), (2, .int (nI (i2)))]) hx hb d_M_waiting_31 hl (by decide) rfl (fun ls hl => ?_)
    have B_33 : ∀ (k_ : Nat) (dd : Nat) (k : Nat) (ls : Array Slot), (61 + pw_o f2 h2 pp2 * pp + 1 - k) < k_ → (0 < k) → (k ≤ 61 + pw_o f2 h2 pp2 * pp + 1) → (dd = pw_md f f2 (k - 1)) → (dd < 1000000) → (0 < pw_o f h pp ∨ k - 1 ≤ pw_c f h) → (0 < pw_o f2 h2 pp2 ∨ k - 1 ≤ pw_c f2 h2) → lv_has ls 8 [(0, .ref o), (1, .int (nI (i))), (2, .int (nI (i2))), (3, .int (nI (dd))), (4, .int (nI (61 + pw_o f2 h2 pp2 * pp))), (5, .int (nI (k)))] → W p l e (headSpec ws_M_waiting ({ frames := 3, cells := 0, slots := 0, locals := 72 } : Room)).room s m ([.ref o, .int (nI (i)), .int (nI (i2))]).toArray below meth c s.heap [] 0 0 (MQ below (vp_Si (fun r => pw_wt ((h, pp, f) : pw_V) ((h2, pp2, f2) : pw_V) r)) ([.ref o, .int (nI (i)), .int (nI (i2))]).toArray s 0 0 (fun _ => False)) (F0 m 33 ls []) := by
      intro k_
      induction k_ with
      | zero => intro dd k ls h_; omega
      | succ k_ ih_33 =>
        intro dd k ls hm_ hk0 hk1 hdd hd2 hfa hfb hl
        refine lv_iload hx hb d_M_waiting_33 (lv_at hl 5 rfl) ?_
        refine lv_iload hx hb d_M_waiting_35 (lv_at hl 4 rfl) ?_
        refine pq_icmp_gt (tgt := 90) (a := k) (b := (61 + pw_o f2 h2 pp2 * pp)) hx hb d_M_waiting_37 (by decide) (by omega) (by omega) (fun c_37 => ?_) (fun c_37 => ?_)
        · refine lv_iload_n hx hb d_M_waiting_90 rfl (lv_at hl 3 rfl) ?_
          exact W.iret (v := (nI (dd))) hx hb hr (fun t_ ht_ hW_ => ⟨_, rfl, ⟨fun z1 z2 => (by exfalso; dsimp only at z1 z2; omega), fun z1 z2 => (by exfalso; dsimp only at z1 z2; omega), fun z1 z2 => (by exfalso; dsimp only at z1 z2; omega), fun z1 z2 => (by dsimp only at z1 z2 ⊢; rw [hdd, show k - 1 = 61 + pw_o f2 h2 pp2 * pp by omega, pw_md_many hE hE2 hh hh2 hp0 hp02 z1 z2])⟩, ht_⟩) (fun q h => absurd h List.not_mem_nil) d_M_waiting_91
        · refine lv_aload_n hx hb d_M_waiting_40 rfl (lv_at hl 0 rfl) ?_
          refine lv_iload_n hx hb d_M_waiting_41 rfl (lv_at hl 2 rfl) ?_
          refine lv_iload hx hb d_M_waiting_42 (lv_at hl 5 rfl) ?_
          refine vp_callSi (W.runV (As := [.int (nI (i2)), .int (nI (k))]) (rest := []) ⟨hx, hb, hml, hown, hts⟩ (c_M_place l dC dI hmd2 (k := k) hk0 (by omega)) (cwV 2 hts (gd_V mb_507 mb_509 mb_16 mb_23 mb_510) rfl rfl rfl (by decide +kernel) ⟨Nat.le_of_ble_eq_true rfl, Nat.le_of_ble_eq_true rfl⟩) (pw_R_V (va_recv hK hP (ci := ciM) (q0 := 0) rfl rfl) hP hK) rfl rfl hl.1 rfl (lv_room (Nat.le_of_ble_eq_true rfl)) d_M_waiting_44 ⟨Nat.le_of_ble_eq_true rfl, Nat.le_of_ble_eq_true rfl⟩) (fun r_44 hr_44 => ?_)
          rcases Classical.em (0 < pw_o f2 h2 pp2 ∨ k ≤ pw_c f2 h2) with hex2 | hex2
          · have hre := hr_44.1 hex2
            subst hre
            have htb2 := pw_tk_le hE2 hp02 hk0 hex2
            have htc2 : k * pp2 ≤ 10000 * 60 := Nat.mul_le_mul (by omega) hp62
            refine lv_istore (lv' := [(6, .int (nI (pw_tk f2 k))), (0, .ref o), (1, .int (nI (i))), (2, .int (nI (i2))), (3, .int (nI (dd))), (4, .int (nI (61 + pw_o f2 h2 pp2 * pp))), (5, .int (nI (k)))]) hx hb d_M_waiting_47 hl (by decide) rfl (fun ls hl => ?_)
            refine lv_iload hx hb d_M_waiting_49 (lv_at hl 0 rfl) ?_
            refine lv_iconst (v := (-1)) hx hb d_M_waiting_51 (by decide) ?_
            refine lv_icmp_ne (tgt := 57) hx hb d_M_waiting_52 (by decide) (fun c_52 => ?_) (fun c_52 => absurd c_52 (pq_nm1 (by omega)))
            refine lv_aload_n hx hb d_M_waiting_57 rfl (lv_at hl 1 rfl) ?_
            refine lv_iload_n hx hb d_M_waiting_58 rfl (lv_at hl 2 rfl) ?_
            refine lv_iload hx hb d_M_waiting_59 (lv_at hl 6 rfl) ?_
            refine vp_callSi (W.runV (As := [.int (nI (i)), .int (nI (k))]) (rest := []) ⟨hx, hb, hml, hown, hts⟩ (c_M_place l dC dI hmd (k := k) hk0 (by omega)) (cwV 2 hts (gd_V mb_507 mb_509 mb_16 mb_23 mb_510) rfl rfl rfl (by decide +kernel) ⟨Nat.le_of_ble_eq_true rfl, Nat.le_of_ble_eq_true rfl⟩) (pw_R_V (va_recv hK hP (ci := ciM) (q0 := 0) rfl rfl) hP hK) rfl rfl hl.1 rfl (lv_room (Nat.le_of_ble_eq_true rfl)) d_M_waiting_61 ⟨Nat.le_of_ble_eq_true rfl, Nat.le_of_ble_eq_true rfl⟩) (fun r_61 hr_61 => ?_)
            rcases Classical.em (0 < pw_o f h pp ∨ k ≤ pw_c f h) with hex | hex
            · have hre := hr_61.1 hex
              subst hre
              have htb := pw_tk_le hE hp0 hk0 hex
              have htc : k * pp ≤ 10000 * 60 := Nat.mul_le_mul (by omega) hp6
              refine lv_istore (lv' := [(7, .int (nI (pw_tk f k))), (6, .int (nI (pw_tk f2 k))), (0, .ref o), (1, .int (nI (i))), (2, .int (nI (i2))), (3, .int (nI (dd))), (4, .int (nI (61 + pw_o f2 h2 pp2 * pp))), (5, .int (nI (k)))]) hx hb d_M_waiting_64 hl (by decide) rfl (fun ls hl => ?_)
              refine lv_iload hx hb d_M_waiting_66 (lv_at hl 0 rfl) ?_
              refine lv_iconst (v := (-1)) hx hb d_M_waiting_68 (by decide) ?_
              refine lv_icmp_ne (tgt := 74) hx hb d_M_waiting_69 (by decide) (fun c_69 => ?_) (fun c_69 => absurd c_69 (pq_nm1 (by omega)))
              refine lv_iload_n hx hb d_M_waiting_74 rfl (lv_at hl 5 rfl) ?_
              refine lv_iload hx hb d_M_waiting_75 (lv_at hl 0 rfl) ?_
              refine lv_iload hx hb d_M_waiting_77 (lv_at hl 1 rfl) ?_
              refine lv_isub hx hb d_M_waiting_79 ?_
              refine lv_topi (fun x_1 ex_1 => ?_)
              refine pq_top (y := .int (nI (pw_tk f k) - nI (pw_tk f2 k))) (by rw [ex_1]) ?_
              refine vp_callSi (W.runS (As := [.int (nI (dd)), .int (nI (pw_tk f k) - nI (pw_tk f2 k))]) (rest := []) ⟨hx, hb, hml, hown, hts⟩ (c_M_greaterS l dC dI (x := dd) (a := pw_tk f k) (b := pw_tk f2 k) (by omega) (by omega) (by omega)) (va_cwS 2 hts (gd_S mb_467 mb_468 mb_23 mb_469) rfl rfl rfl (by decide +kernel) ⟨Nat.le_of_ble_eq_true rfl, Nat.le_of_ble_eq_true rfl⟩) (pw_R_S pw_P0 (hK.sub [] rfl)) rfl rfl hl.1 rfl (lv_room (Nat.le_of_ble_eq_true rfl)) d_M_waiting_80 ⟨Nat.le_of_ble_eq_true rfl, Nat.le_of_ble_eq_true rfl⟩) (fun r_80 hr_80 => ?_)
              subst hr_80
              refine lv_istore_n (lv' := [(3, .int (nI (max dd (pw_tk f k - pw_tk f2 k)))), (7, .int (nI (pw_tk f k))), (6, .int (nI (pw_tk f2 k))), (0, .ref o), (1, .int (nI (i))), (2, .int (nI (i2))), (4, .int (nI (61 + pw_o f2 h2 pp2 * pp))), (5, .int (nI (k)))]) hx hb d_M_waiting_83 rfl hl (by decide) rfl (fun ls hl => ?_)
              refine lv_iinc (v := nI (k + 1)) (lv' := [(5, .int (nI (k + 1))), (3, .int (nI (max dd (pw_tk f k - pw_tk f2 k)))), (7, .int (nI (pw_tk f k))), (6, .int (nI (pw_tk f2 k))), (0, .ref o), (1, .int (nI (i))), (2, .int (nI (i2))), (4, .int (nI (61 + pw_o f2 h2 pp2 * pp)))]) hx hb d_M_waiting_84 hl (k := 7) rfl (pq_inc _) (by decide) rfl (fun ls hl => ?_)
              refine lv_goto (tgt := 33) hx hb d_M_waiting_87 (by decide) ?_
              exact ih_33 (max dd (pw_tk f k - pw_tk f2 k)) (k + 1) ls (by omega) (by omega) (by omega) (by rw [hdd, show k + 1 - 1 = (k - 1) + 1 by omega, pw_md_s, show k - 1 + 1 = k by omega]) (by omega) (by omega) (by omega) (lv_sub hl [4, 5, 6, 1, 7, 0] rfl)
            · have hre := hr_61.2 hex
              subst hre
              refine lv_istore (lv' := [(7, .int (-1)), (6, .int (nI (pw_tk f2 k))), (0, .ref o), (1, .int (nI (i))), (2, .int (nI (i2))), (3, .int (nI (dd))), (4, .int (nI (61 + pw_o f2 h2 pp2 * pp))), (5, .int (nI (k)))]) hx hb d_M_waiting_64 hl (by decide) rfl (fun ls hl => ?_)
              refine lv_iload hx hb d_M_waiting_66 (lv_at hl 0 rfl) ?_
              refine lv_iconst (v := (-1)) hx hb d_M_waiting_68 (by decide) ?_
              refine lv_icmp_ne (tgt := 74) hx hb d_M_waiting_69 (by decide) (fun c_69 => absurd c_69 (fun z => z rfl)) (fun c_69 => ?_)
              refine lv_iconst (v := (-1)) hx hb d_M_waiting_72 (by decide) ?_
              exact W.iret (v := (-1)) hx hb hr (fun t_ ht_ hW_ => ⟨_, rfl, ⟨fun z1 z2 => (by exfalso; have := hoo; dsimp only at z1 z2; omega), fun z1 z2 => rfl, fun z1 z2 => rfl, fun z1 z2 => (by exfalso; have := hoo z1; omega)⟩, ht_⟩) (fun q h => absurd h List.not_mem_nil) d_M_waiting_73
          · have hre := hr_44.2 hex2
            subst hre
            refine lv_istore (lv' := [(6, .int (-1)), (0, .ref o), (1, .int (nI (i))), (2, .int (nI (i2))), (3, .int (nI (dd))), (4, .int (nI (61 + pw_o f2 h2 pp2 * pp))), (5, .int (nI (k)))]) hx hb d_M_waiting_47 hl (by decide) rfl (fun ls hl => ?_)
            refine lv_iload hx hb d_M_waiting_49 (lv_at hl 0 rfl) ?_
            refine lv_iconst (v := (-1)) hx hb d_M_waiting_51 (by decide) ?_
            refine lv_icmp_ne (tgt := 57) hx hb d_M_waiting_52 (by decide) (fun c_52 => absurd c_52 (fun z => z rfl)) (fun c_52 => ?_)
            refine lv_iload_n hx hb d_M_waiting_55 rfl (lv_at hl 4 rfl) ?_
            exact W.iret (v := (nI (dd))) hx hb hr (fun t_ ht_ hW_ => ⟨_, rfl, ⟨fun z1 z2 => (by dsimp only; rw [hdd, show k - 1 = pw_c f2 h2 by dsimp only at z1; omega]), fun z1 z2 => (by exfalso; dsimp only at z1 z2; omega), fun z1 z2 => (by exfalso; dsimp only at z1 z2; omega), fun z1 z2 => (by exfalso; dsimp only at z1 z2; omega)⟩, ht_⟩) (fun q h => absurd h List.not_mem_nil) d_M_waiting_56
    exact B_33 _ (0) (1) ls (Nat.lt_succ_self _) (by omega) (by omega) rfl (by omega) (by omega) (by omega) (lv_sub hl [3, 4, 5, 2, 1, 0] rfl)
  · have hlt : pw_o f h pp * pp2 < pw_o f2 h2 pp2 * pp := by
      rcases Nat.lt_or_ge (pw_o f h pp * pp2) (pw_o f2 h2 pp2 * pp) with z | z
      · exact z
      · exact absurd ((pq_rt (by omega) (by omega)).mpr z) c_6
    refine lv_iconst (v := (-1)) hx hb d_M_waiting_9 (by decide) ?_
    exact W.iret (v := (-1)) hx hb hr (fun t_ ht_ hW_ => ⟨_, rfl, ⟨fun z1 z2 => (by exfalso; dsimp only at z1 z2; rw [z1, Nat.zero_mul] at hlt; omega), fun z1 z2 => rfl, fun z1 z2 => rfl, fun z1 z2 => (by exfalso; dsimp only at z1 z2; omega)⟩, ht_⟩) (fun q h => absurd h List.not_mem_nil) d_M_waiting_10
set_option maxHeartbeats 4000000 in
set_option maxRecDepth 100000 in
theorem c_M_bit (l : Launch) (dC : Nat → ClassId) (dI : Nat → Nat → Nat) {sz : Nat} {o a1 a2 a3 a4 a5 : Nat} {c1 c2 c3 c4 c5 : ClassId} {th mo le : Int32} {n : Nat} {xh yr : Nat → Int32} {xb yb : Nat → Int64} {bs : Nat → Int32} {Wd : Nat → pw_V} (hn : n ≤ 40) (hall : mdAll xh yr xb yb n Wd) {x y : Int32} : Met l y_M_bit ws_M_bit ({ frames := 2, cells := 0, slots := 0, locals := 43 } : Room) (md_Pre [.ref o, .int (x), .int (y)] dC dI sz (mdT c1 c2 c3 c4 c5) (md o a1 a2 a3 a4 a5 c1 c2 c3 c4 c5 th n mo le xh yr xb yb bs)) (va_Qi (fun r u => sp_1 n x (fun i r => sp_far y (fun j => nI ((Wd i).2.2 j).toNat) r) (fun r => r = -1) r ∧ u = (nI 0, n, mo, le, xh, yr, xb, yb, bs)) (md_B dC dI (va_A (md o a1 a2 a3 a4 a5 c1 c2 c3 c4 c5 th n mo le xh yr xb yb bs) sz) o a1 a2 a3 a4 a5 c1 c2 c3 c4 c5) (va_A (md o a1 a2 a3 a4 a5 c1 c2 c3 c4 c5 th n mo le xh yr xb yb bs) sz)) 0 0 (va_A (md o a1 a2 a3 a4 a5 c1 c2 c3 c4 c5 th n mo le xh yr xb yb bs) sz) := by
  refine Met.ofW (cc := b_M_bit) (maxL := 3) (ret := (some .int)) (by decide) rfl ?_
  intro p e s m args below meth c s₁ B hml hv
  obtain ⟨rfl, hsz, hP, hK, hD0⟩ := hv
  have hx := B.exec
  have hb := B.bytes
  have hr := B.returns
  have hts := atoms_spec (ws := ws_M_bit) B.pre
  have hown : s.vm.findClass R_M = some m.cls := findClass_of_methodNamed B.named
  have hlocks := B.notSynchronized
  subst hsz
  have hD := hD0.self (sz := s.heap.size)
  generalize hAe : va_A (md o a1 a2 a3 a4 a5 c1 c2 c3 c4 c5 th n mo le xh yr xb yb bs) s.heap.size = A at hD ⊢
  have hA : ∀ q : Nat, s.heap.size ≤ q → A q := fun q h => by rw [← hAe]; exact Or.inr h
  have hS : va_S A s.heap s.heap [] := va_S.rf
  have hl := lv_entry ([.ref o, .int (x), .int (y)]) (n := 3) (Nat.le_of_ble_eq_true rfl)
  rw [lg_entry_eq]
  generalize (lg_sl ([.ref o, .int (x), .int (y)]) ++ List.replicate (3 - (lg_sl ([.ref o, .int (x), .int (y)])).length) Slot.unset).toArray = ls at hl ⊢
  have hl : lv_has ls 3 [(0, .ref o), (1, .int (x)), (2, .int (y))] := hl
  refine lv_aload_n hx hb d_M_bit_0 rfl (lv_at hl 0 rfl) ?_
  refine lv_iconst (v := nI 0) hx hb d_M_bit_1 (by decide) ?_
  refine va_put (D := (dC, dI)) (ci := ciM) (v := .int (nI (0))) (ty := .int) (C := R_M) (T := F_M) (N := 9) hx hb hts (fun w h => List.mem_cons_of_mem _ (in_M w h)) t_M t_M_ok n_M hown hK hP hD hS 0 rfl rfl 0 (by decide) (hts (.fieldLink R_M 27 "PeriodWordsModel" "thrown" "I") (List.mem_cons_of_mem _ mb_383)) (fun _ h9 => h9) rfl (by decide +kernel) rfl rfl (Nat.le_of_ble_eq_true rfl) d_M_bit_2 (fun H locs hP hD hS => ?_)
  have hP : va_P (dC, dI) vwCl [(o, .inr (ciM, [.int (nI (0)), .int (nI (n)), .ref a1, .ref a2, .ref a3, .ref a4, .ref a5, .int (mo), .int (le)])), (a1, .inl (c1, 40, .inl xh)), (a2, .inl (c2, 40, .inl yr)), (a3, .inl (c3, 40, .inr (.inl xb))), (a4, .inl (c4, 40, .inr (.inl yb))), (a5, .inl (c5, 7400, .inl bs))] H := hP
  have hD : va_D A [(o, .inr (ciM, [.int (nI (0)), .int (nI (n)), .ref a1, .ref a2, .ref a3, .ref a4, .ref a5, .int (mo), .int (le)])), (a1, .inl (c1, 40, .inl xh)), (a2, .inl (c2, 40, .inl yr)), (a3, .inl (c3, 40, .inr (.inl xb))), (a4, .inl (c4, 40, .inr (.inl yb))), (a5, .inl (c5, 7400, .inl bs))] := hD
  refine lv_aload_n hx hb d_M_bit_5 rfl (lv_at hl 0 rfl) ?_
  refine lv_iload_n hx hb d_M_bit_6 rfl (lv_at hl 1 rfl) ?_
  refine vp_callSi (W.runV (As := [.int (x)]) (rest := []) ⟨hx, hb, hml, hown, hts⟩ (c_M_isWord l dC dI hn (x := x)) (cwV 1 hts (gd_V mb_436 mb_438 mb_5 mb_23 mb_439) rfl rfl rfl (by decide +kernel) ⟨Nat.le_of_ble_eq_true rfl, Nat.le_of_ble_eq_true rfl⟩) (pw_R_V (va_recv hK hP (ci := ciM) (q0 := 0) rfl rfl) hP hK) rfl rfl hl.1 rfl (lv_room (Nat.le_of_ble_eq_true rfl)) d_M_bit_7 ⟨Nat.le_of_ble_eq_true rfl, Nat.le_of_ble_eq_true rfl⟩) (fun r_7 hr_7 => ?_)
  rcases hr_7 with ⟨hre, i1, hi1, hx1⟩ | ⟨hre, hno1⟩
  · subst hre
    rw [hx1] at hl
    have hmd1 := hall i1 hi1
    have hmd1_ := hmd1; obtain ⟨hj1, e11, e21, e31, e41, hok1⟩ := hmd1_; have hok1_ := hok1; obtain ⟨hh1, hp01, hp61, hE1⟩ := hok1_
    have ho1 := pw_o_le (Wd i1).2.2 (Wd i1).1 (Wd i1).2.1
    have hc1 := pw_c_le (Wd i1).2.2 (Wd i1).1
    have hb01 := pq_lt60 (pw_b_lt (Wd i1).2.2 0 (Wd i1).1) hh1
    have hb11 := pq_lt60 (pw_b_lt (Wd i1).2.2 (Wd i1).1 (Wd i1).2.1) hp61
    refine pq_if_eq (tgt := 40) (a := 1) hx hb d_M_bit_10 (by decide) (by omega) (fun c_10 => absurd c_10 (by omega)) (fun c_10 => ?_)
    refine lv_iload_n hx hb d_M_bit_13 rfl (lv_at hl 2 rfl) ?_
    refine lv_iconst (v := nI 0) hx hb d_M_bit_14 (by decide) ?_
    refine lv_ldc (v := nI 1000000000) hx hb hown (hts (.constant R_M 90 (nI 1000000000)) (List.mem_cons_of_mem _ mb_493)) d_M_bit_15 ?_
    refine vp_callSi (W.runS (As := [.int (y), .int (nI (0)), .int (nI (1000000000))]) (rest := []) ⟨hx, hb, hml, hown, hts⟩ (c_M_in l dC dI (x := y) (lo := nI 0) (hi := nI 1000000000)) (va_cwS 3 hts (gd_S mb_421 mb_422 mb_23 mb_423) rfl rfl rfl (by decide +kernel) ⟨Nat.le_of_ble_eq_true rfl, Nat.le_of_ble_eq_true rfl⟩) (pw_R_S pw_P0 (hK.sub [] rfl)) rfl rfl hl.1 rfl (lv_room (Nat.le_of_ble_eq_true rfl)) d_M_bit_17 ⟨Nat.le_of_ble_eq_true rfl, Nat.le_of_ble_eq_true rfl⟩) (fun r_17 hr_17 => ?_)
    rcases hr_17 with ⟨hre, hlo, hhi⟩ | ⟨hre, hnin⟩
    · subst hre
      obtain ⟨j, hj, hyj⟩ := pq_far hlo (pq_not_lt hhi)
      rw [hyj] at hl
      refine pq_if_eq (tgt := 40) (a := 1) hx hb d_M_bit_20 (by decide) (by omega) (fun c_20 => absurd c_20 (by omega)) (fun c_20 => ?_)
      refine lv_aload_n hx hb d_M_bit_23 rfl (lv_at hl 0 rfl) ?_
      refine lv_iload_n hx hb d_M_bit_24 rfl (lv_at hl 1 rfl) ?_
      refine lv_iload_n hx hb d_M_bit_25 rfl (lv_at hl 2 rfl) ?_
      refine vp_callSi (W.runV (As := [.int (nI (i1)), .int (nI (j))]) (rest := []) ⟨hx, hb, hml, hown, hts⟩ (c_M_has l dC dI hmd1 (t := j) (by omega)) (cwV 2 hts (gd_V mb_455 mb_457 mb_9 mb_23 mb_458) rfl rfl rfl (by decide +kernel) ⟨Nat.le_of_ble_eq_true rfl, Nat.le_of_ble_eq_true rfl⟩) (pw_R_V (va_recv hK hP (ci := ciM) (q0 := 0) rfl rfl) hP hK) rfl rfl hl.1 rfl (lv_room (Nat.le_of_ble_eq_true rfl)) d_M_bit_26 ⟨Nat.le_of_ble_eq_true rfl, Nat.le_of_ble_eq_true rfl⟩) (fun r_26 hr_26 => ?_)
      subst hr_26
      refine pq_if_eq (tgt := 36) (a := (((Wd i1).2.2 j).toNat)) hx hb d_M_bit_29 (by decide) (by have := pw_lt2 ((Wd i1).2.2 j); omega) (fun c_29 => ?_) (fun c_29 => ?_)
      · refine lv_iconst (v := nI 0) hx hb d_M_bit_36 (by decide) ?_
        refine lv_goto (tgt := 41) hx hb d_M_bit_37 (by decide) ?_
        exact W.iret (v := (nI (0))) hx hb hr (fun t_ ht_ hW_ => ⟨⟨_, (nI (0), n, mo, le, xh, yr, xb, yb, bs), rfl, ⟨Or.inl ⟨i1, hi1, hx1, Or.inl ⟨j, hj, hyj, by congr 1; have := pw_lt2 ((Wd i1).2.2 j); omega⟩⟩, rfl⟩, by rw [ht_]; exact hP, va_K.moved hW_.alike hK, hD⟩, hS.F ht_⟩) hS.2.2 d_M_bit_41
      · refine lv_iconst (v := nI 1) hx hb d_M_bit_32 (by decide) ?_
        refine lv_goto (tgt := 41) hx hb d_M_bit_33 (by decide) ?_
        exact W.iret (v := (nI (1))) hx hb hr (fun t_ ht_ hW_ => ⟨⟨_, (nI (0), n, mo, le, xh, yr, xb, yb, bs), rfl, ⟨Or.inl ⟨i1, hi1, hx1, Or.inl ⟨j, hj, hyj, by congr 1; have := pw_lt2 ((Wd i1).2.2 j); omega⟩⟩, rfl⟩, by rw [ht_]; exact hP, va_K.moved hW_.alike hK, hD⟩, hS.F ht_⟩) hS.2.2 d_M_bit_41
    · subst hre
      refine pq_if_eq (tgt := 40) (a := 0) hx hb d_M_bit_20 (by decide) (by omega) (fun c_20 => ?_) (fun c_20 => absurd c_20 (by omega))
      refine lv_iconst (v := (-1)) hx hb d_M_bit_40 (by decide) ?_
      exact W.iret (v := (-1)) hx hb hr (fun t_ ht_ hW_ => ⟨⟨_, (nI (0), n, mo, le, xh, yr, xb, yb, bs), rfl, ⟨Or.inl ⟨i1, hi1, hx1, Or.inr ⟨fun ⟨j, hj, e⟩ => hnin (by rw [e]; exact ⟨nI_pos (by omega), nI_nlt hj (by decide)⟩), rfl⟩⟩, rfl⟩, by rw [ht_]; exact hP, va_K.moved hW_.alike hK, hD⟩, hS.F ht_⟩) hS.2.2 d_M_bit_41
  · subst hre
    refine pq_if_eq (tgt := 40) (a := 0) hx hb d_M_bit_10 (by decide) (by omega) (fun c_10 => ?_) (fun c_10 => absurd c_10 (by omega))
    refine lv_iconst (v := (-1)) hx hb d_M_bit_40 (by decide) ?_
    exact W.iret (v := (-1)) hx hb hr (fun t_ ht_ hW_ => ⟨⟨_, (nI (0), n, mo, le, xh, yr, xb, yb, bs), rfl, ⟨Or.inr ⟨hno1, rfl⟩, rfl⟩, by rw [ht_]; exact hP, va_K.moved hW_.alike hK, hD⟩, hS.F ht_⟩) hS.2.2 d_M_bit_41
set_option maxHeartbeats 4000000 in
set_option maxRecDepth 100000 in
theorem c_M_ones (l : Launch) (dC : Nat → ClassId) (dI : Nat → Nat → Nat) {sz : Nat} {o a1 a2 a3 a4 a5 : Nat} {c1 c2 c3 c4 c5 : ClassId} {th mo le : Int32} {n : Nat} {xh yr : Nat → Int32} {xb yb : Nat → Int64} {bs : Nat → Int32} {Wd : Nat → pw_V} (hn : n ≤ 40) (hall : mdAll xh yr xb yb n Wd) {x y : Int32} : Met l y_M_ones ws_M_ones ({ frames := 3, cells := 0, slots := 0, locals := 68 } : Room) (md_Pre [.ref o, .int (x), .int (y)] dC dI sz (mdT c1 c2 c3 c4 c5) (md o a1 a2 a3 a4 a5 c1 c2 c3 c4 c5 th n mo le xh yr xb yb bs)) (va_Qi (fun r u => sp_1 n x (fun i r => sp_far y (fun j => nI (pw_c (Wd i).2.2 j)) r) (fun r => r = -1) r ∧ u = (nI 0, n, mo, le, xh, yr, xb, yb, bs)) (md_B dC dI (va_A (md o a1 a2 a3 a4 a5 c1 c2 c3 c4 c5 th n mo le xh yr xb yb bs) sz) o a1 a2 a3 a4 a5 c1 c2 c3 c4 c5) (va_A (md o a1 a2 a3 a4 a5 c1 c2 c3 c4 c5 th n mo le xh yr xb yb bs) sz)) 0 0 (va_A (md o a1 a2 a3 a4 a5 c1 c2 c3 c4 c5 th n mo le xh yr xb yb bs) sz) := by
  refine Met.ofW (cc := b_M_ones) (maxL := 3) (ret := (some .int)) (by decide) rfl ?_
  intro p e s m args below meth c s₁ B hml hv
  obtain ⟨rfl, hsz, hP, hK, hD0⟩ := hv
  have hx := B.exec
  have hb := B.bytes
  have hr := B.returns
  have hts := atoms_spec (ws := ws_M_ones) B.pre
  have hown : s.vm.findClass R_M = some m.cls := findClass_of_methodNamed B.named
  have hlocks := B.notSynchronized
  subst hsz
  have hD := hD0.self (sz := s.heap.size)
  generalize hAe : va_A (md o a1 a2 a3 a4 a5 c1 c2 c3 c4 c5 th n mo le xh yr xb yb bs) s.heap.size = A at hD ⊢
  have hA : ∀ q : Nat, s.heap.size ≤ q → A q := fun q h => by rw [← hAe]; exact Or.inr h
  have hS : va_S A s.heap s.heap [] := va_S.rf
  have hl := lv_entry ([.ref o, .int (x), .int (y)]) (n := 3) (Nat.le_of_ble_eq_true rfl)
  rw [lg_entry_eq]
  generalize (lg_sl ([.ref o, .int (x), .int (y)]) ++ List.replicate (3 - (lg_sl ([.ref o, .int (x), .int (y)])).length) Slot.unset).toArray = ls at hl ⊢
  have hl : lv_has ls 3 [(0, .ref o), (1, .int (x)), (2, .int (y))] := hl
  refine lv_aload_n hx hb d_M_ones_0 rfl (lv_at hl 0 rfl) ?_
  refine lv_iconst (v := nI 0) hx hb d_M_ones_1 (by decide) ?_
  refine va_put (D := (dC, dI)) (ci := ciM) (v := .int (nI (0))) (ty := .int) (C := R_M) (T := F_M) (N := 9) hx hb hts (fun w h => List.mem_cons_of_mem _ (in_M w h)) t_M t_M_ok n_M hown hK hP hD hS 0 rfl rfl 0 (by decide) (hts (.fieldLink R_M 27 "PeriodWordsModel" "thrown" "I") (List.mem_cons_of_mem _ mb_383)) (fun _ h9 => h9) rfl (by decide +kernel) rfl rfl (Nat.le_of_ble_eq_true rfl) d_M_ones_2 (fun H locs hP hD hS => ?_)
  have hP : va_P (dC, dI) vwCl [(o, .inr (ciM, [.int (nI (0)), .int (nI (n)), .ref a1, .ref a2, .ref a3, .ref a4, .ref a5, .int (mo), .int (le)])), (a1, .inl (c1, 40, .inl xh)), (a2, .inl (c2, 40, .inl yr)), (a3, .inl (c3, 40, .inr (.inl xb))), (a4, .inl (c4, 40, .inr (.inl yb))), (a5, .inl (c5, 7400, .inl bs))] H := hP
  have hD : va_D A [(o, .inr (ciM, [.int (nI (0)), .int (nI (n)), .ref a1, .ref a2, .ref a3, .ref a4, .ref a5, .int (mo), .int (le)])), (a1, .inl (c1, 40, .inl xh)), (a2, .inl (c2, 40, .inl yr)), (a3, .inl (c3, 40, .inr (.inl xb))), (a4, .inl (c4, 40, .inr (.inl yb))), (a5, .inl (c5, 7400, .inl bs))] := hD
  refine lv_aload_n hx hb d_M_ones_5 rfl (lv_at hl 0 rfl) ?_
  refine lv_iload_n hx hb d_M_ones_6 rfl (lv_at hl 1 rfl) ?_
  refine vp_callSi (W.runV (As := [.int (x)]) (rest := []) ⟨hx, hb, hml, hown, hts⟩ (c_M_isWord l dC dI hn (x := x)) (cwV 1 hts (gd_V mb_436 mb_438 mb_5 mb_23 mb_439) rfl rfl rfl (by decide +kernel) ⟨Nat.le_of_ble_eq_true rfl, Nat.le_of_ble_eq_true rfl⟩) (pw_R_V (va_recv hK hP (ci := ciM) (q0 := 0) rfl rfl) hP hK) rfl rfl hl.1 rfl (lv_room (Nat.le_of_ble_eq_true rfl)) d_M_ones_7 ⟨Nat.le_of_ble_eq_true rfl, Nat.le_of_ble_eq_true rfl⟩) (fun r_7 hr_7 => ?_)
  rcases hr_7 with ⟨hre, i1, hi1, hx1⟩ | ⟨hre, hno1⟩
  · subst hre
    rw [hx1] at hl
    have hmd1 := hall i1 hi1
    have hmd1_ := hmd1; obtain ⟨hj1, e11, e21, e31, e41, hok1⟩ := hmd1_; have hok1_ := hok1; obtain ⟨hh1, hp01, hp61, hE1⟩ := hok1_
    have ho1 := pw_o_le (Wd i1).2.2 (Wd i1).1 (Wd i1).2.1
    have hc1 := pw_c_le (Wd i1).2.2 (Wd i1).1
    have hb01 := pq_lt60 (pw_b_lt (Wd i1).2.2 0 (Wd i1).1) hh1
    have hb11 := pq_lt60 (pw_b_lt (Wd i1).2.2 (Wd i1).1 (Wd i1).2.1) hp61
    refine pq_if_eq (tgt := 32) (a := 1) hx hb d_M_ones_10 (by decide) (by omega) (fun c_10 => absurd c_10 (by omega)) (fun c_10 => ?_)
    refine lv_iload_n hx hb d_M_ones_13 rfl (lv_at hl 2 rfl) ?_
    refine lv_iconst (v := nI 0) hx hb d_M_ones_14 (by decide) ?_
    refine lv_ldc (v := nI 1000000000) hx hb hown (hts (.constant R_M 90 (nI 1000000000)) (List.mem_cons_of_mem _ mb_493)) d_M_ones_15 ?_
    refine vp_callSi (W.runS (As := [.int (y), .int (nI (0)), .int (nI (1000000000))]) (rest := []) ⟨hx, hb, hml, hown, hts⟩ (c_M_in l dC dI (x := y) (lo := nI 0) (hi := nI 1000000000)) (va_cwS 3 hts (gd_S mb_421 mb_422 mb_23 mb_423) rfl rfl rfl (by decide +kernel) ⟨Nat.le_of_ble_eq_true rfl, Nat.le_of_ble_eq_true rfl⟩) (pw_R_S pw_P0 (hK.sub [] rfl)) rfl rfl hl.1 rfl (lv_room (Nat.le_of_ble_eq_true rfl)) d_M_ones_17 ⟨Nat.le_of_ble_eq_true rfl, Nat.le_of_ble_eq_true rfl⟩) (fun r_17 hr_17 => ?_)
    rcases hr_17 with ⟨hre, hlo, hhi⟩ | ⟨hre, hnin⟩
    · subst hre
      obtain ⟨j, hj, hyj⟩ := pq_far hlo (pq_not_lt hhi)
      rw [hyj] at hl
      refine pq_if_eq (tgt := 32) (a := 1) hx hb d_M_ones_20 (by decide) (by omega) (fun c_20 => absurd c_20 (by omega)) (fun c_20 => ?_)
      refine lv_aload_n hx hb d_M_ones_23 rfl (lv_at hl 0 rfl) ?_
      refine lv_iload_n hx hb d_M_ones_24 rfl (lv_at hl 1 rfl) ?_
      refine lv_iload_n hx hb d_M_ones_25 rfl (lv_at hl 2 rfl) ?_
      refine vp_callSi (W.runV (As := [.int (nI (i1)), .int (nI (j))]) (rest := []) ⟨hx, hb, hml, hown, hts⟩ (c_M_onesAhead l dC dI hmd1 (t := j) (by omega)) (cwV 2 hts (gd_V mb_498 mb_500 mb_15 mb_23 mb_501) rfl rfl rfl (by decide +kernel) ⟨Nat.le_of_ble_eq_true rfl, Nat.le_of_ble_eq_true rfl⟩) (pw_R_V (va_recv hK hP (ci := ciM) (q0 := 0) rfl rfl) hP hK) rfl rfl hl.1 rfl (lv_room (Nat.le_of_ble_eq_true rfl)) d_M_ones_26 ⟨Nat.le_of_ble_eq_true rfl, Nat.le_of_ble_eq_true rfl⟩) (fun r_26 hr_26 => ?_)
      subst hr_26
      refine lv_goto (tgt := 33) hx hb d_M_ones_29 (by decide) ?_
      exact W.iret (v := (nI (pw_c (Wd i1).2.2 j))) hx hb hr (fun t_ ht_ hW_ => ⟨⟨_, (nI (0), n, mo, le, xh, yr, xb, yb, bs), rfl, ⟨Or.inl ⟨i1, hi1, hx1, Or.inl ⟨j, hj, hyj, rfl⟩⟩, rfl⟩, by rw [ht_]; exact hP, va_K.moved hW_.alike hK, hD⟩, hS.F ht_⟩) hS.2.2 d_M_ones_33
    · subst hre
      refine pq_if_eq (tgt := 32) (a := 0) hx hb d_M_ones_20 (by decide) (by omega) (fun c_20 => ?_) (fun c_20 => absurd c_20 (by omega))
      refine lv_iconst (v := (-1)) hx hb d_M_ones_32 (by decide) ?_
      exact W.iret (v := (-1)) hx hb hr (fun t_ ht_ hW_ => ⟨⟨_, (nI (0), n, mo, le, xh, yr, xb, yb, bs), rfl, ⟨Or.inl ⟨i1, hi1, hx1, Or.inr ⟨fun ⟨j, hj, e⟩ => hnin (by rw [e]; exact ⟨nI_pos (by omega), nI_nlt hj (by decide)⟩), rfl⟩⟩, rfl⟩, by rw [ht_]; exact hP, va_K.moved hW_.alike hK, hD⟩, hS.F ht_⟩) hS.2.2 d_M_ones_33
  · subst hre
    refine pq_if_eq (tgt := 32) (a := 0) hx hb d_M_ones_10 (by decide) (by omega) (fun c_10 => ?_) (fun c_10 => absurd c_10 (by omega))
    refine lv_iconst (v := (-1)) hx hb d_M_ones_32 (by decide) ?_
    exact W.iret (v := (-1)) hx hb hr (fun t_ ht_ hW_ => ⟨⟨_, (nI (0), n, mo, le, xh, yr, xb, yb, bs), rfl, ⟨Or.inr ⟨hno1, rfl⟩, rfl⟩, by rw [ht_]; exact hP, va_K.moved hW_.alike hK, hD⟩, hS.F ht_⟩) hS.2.2 d_M_ones_33
set_option maxHeartbeats 4000000 in
set_option maxRecDepth 100000 in
theorem c_M_total (l : Launch) (dC : Nat → ClassId) (dI : Nat → Nat → Nat) {sz : Nat} {o a1 a2 a3 a4 a5 : Nat} {c1 c2 c3 c4 c5 : ClassId} {th mo le : Int32} {n : Nat} {xh yr : Nat → Int32} {xb yb : Nat → Int64} {bs : Nat → Int32} : Met l y_M_total ws_M_total ({ frames := 0, cells := 0, slots := 0, locals := 0 } : Room) (md_Pre [.ref o] dC dI sz (mdT c1 c2 c3 c4 c5) (md o a1 a2 a3 a4 a5 c1 c2 c3 c4 c5 th n mo le xh yr xb yb bs)) (va_Qi (fun r u => r = nI n ∧ u = (nI 0, n, mo, le, xh, yr, xb, yb, bs)) (md_B dC dI (va_A (md o a1 a2 a3 a4 a5 c1 c2 c3 c4 c5 th n mo le xh yr xb yb bs) sz) o a1 a2 a3 a4 a5 c1 c2 c3 c4 c5) (va_A (md o a1 a2 a3 a4 a5 c1 c2 c3 c4 c5 th n mo le xh yr xb yb bs) sz)) 0 0 (va_A (md o a1 a2 a3 a4 a5 c1 c2 c3 c4 c5 th n mo le xh yr xb yb bs) sz) := by
  refine Met.ofW (cc := b_M_total) (maxL := 1) (ret := (some .int)) (by decide) rfl ?_
  intro p e s m args below meth c s₁ B hml hv
  obtain ⟨rfl, hsz, hP, hK, hD0⟩ := hv
  have hx := B.exec
  have hb := B.bytes
  have hr := B.returns
  have hts := atoms_spec (ws := ws_M_total) B.pre
  have hown : s.vm.findClass R_M = some m.cls := findClass_of_methodNamed B.named
  have hlocks := B.notSynchronized
  subst hsz
  have hD := hD0.self (sz := s.heap.size)
  generalize hAe : va_A (md o a1 a2 a3 a4 a5 c1 c2 c3 c4 c5 th n mo le xh yr xb yb bs) s.heap.size = A at hD ⊢
  have hA : ∀ q : Nat, s.heap.size ≤ q → A q := fun q h => by rw [← hAe]; exact Or.inr h
  have hS : va_S A s.heap s.heap [] := va_S.rf
  have hl := lv_entry ([.ref o]) (n := 1) (Nat.le_of_ble_eq_true rfl)
  rw [lg_entry_eq]
  generalize (lg_sl ([.ref o]) ++ List.replicate (1 - (lg_sl ([.ref o])).length) Slot.unset).toArray = ls at hl ⊢
  have hl : lv_has ls 1 [(0, .ref o)] := hl
  refine lv_aload_n hx hb d_M_total_0 rfl (lv_at hl 0 rfl) ?_
  refine lv_iconst (v := nI 0) hx hb d_M_total_1 (by decide) ?_
  refine va_put (D := (dC, dI)) (ci := ciM) (v := .int (nI (0))) (ty := .int) (C := R_M) (T := F_M) (N := 9) hx hb hts (fun w h => List.mem_cons_of_mem _ (in_M w h)) t_M t_M_ok n_M hown hK hP hD hS 0 rfl rfl 0 (by decide) (hts (.fieldLink R_M 27 "PeriodWordsModel" "thrown" "I") (List.mem_cons_of_mem _ mb_383)) (fun _ h9 => h9) rfl (by decide +kernel) rfl rfl (Nat.le_of_ble_eq_true rfl) d_M_total_2 (fun H locs hP hD hS => ?_)
  have hP : va_P (dC, dI) vwCl [(o, .inr (ciM, [.int (nI (0)), .int (nI (n)), .ref a1, .ref a2, .ref a3, .ref a4, .ref a5, .int (mo), .int (le)])), (a1, .inl (c1, 40, .inl xh)), (a2, .inl (c2, 40, .inl yr)), (a3, .inl (c3, 40, .inr (.inl xb))), (a4, .inl (c4, 40, .inr (.inl yb))), (a5, .inl (c5, 7400, .inl bs))] H := hP
  have hD : va_D A [(o, .inr (ciM, [.int (nI (0)), .int (nI (n)), .ref a1, .ref a2, .ref a3, .ref a4, .ref a5, .int (mo), .int (le)])), (a1, .inl (c1, 40, .inl xh)), (a2, .inl (c2, 40, .inl yr)), (a3, .inl (c3, 40, .inr (.inl xb))), (a4, .inl (c4, 40, .inr (.inl yb))), (a5, .inl (c5, 7400, .inl bs))] := hD
  refine lv_aload_n hx hb d_M_total_5 rfl (lv_at hl 0 rfl) ?_
  refine va_get (D := (dC, dI)) (ci := ciM) (v := .int (nI (n))) (C := R_M) (T := F_M) (N := 9) hx hb hts (fun w h => List.mem_cons_of_mem _ (in_M w h)) hown hK hP 0 rfl rfl 1 (by decide) (hts (.fieldLink R_M 31 "PeriodWordsModel" "words" "I") (List.mem_cons_of_mem _ mb_384)) (fun _ h9 => h9) rfl d_M_total_6 ?_
  exact W.iret (v := (nI (n))) hx hb hr (fun t_ ht_ hW_ => ⟨⟨_, (nI (0), n, mo, le, xh, yr, xb, yb, bs), rfl, ⟨rfl, rfl⟩, by rw [ht_]; exact hP, va_K.moved hW_.alike hK, hD⟩, hS.F ht_⟩) hS.2.2 d_M_total_9
set_option maxHeartbeats 4000000 in
set_option maxRecDepth 100000 in
theorem c_M_clear (l : Launch) (dC : Nat → ClassId) (dI : Nat → Nat → Nat) {sz : Nat} {o a1 a2 a3 a4 a5 : Nat} {c1 c2 c3 c4 c5 : ClassId} {th mo le : Int32} {n : Nat} {xh yr : Nat → Int32} {xb yb : Nat → Int64} {bs : Nat → Int32} : Met l y_M_clear ws_M_clear ({ frames := 0, cells := 0, slots := 0, locals := 0 } : Room) (md_Pre [.ref o] dC dI sz (mdT c1 c2 c3 c4 c5) (md o a1 a2 a3 a4 a5 c1 c2 c3 c4 c5 th n mo le xh yr xb yb bs)) (va_Qv (fun u => u = (nI 0, 0, mo, le, xh, yr, xb, yb, bs)) (md_B dC dI (va_A (md o a1 a2 a3 a4 a5 c1 c2 c3 c4 c5 th n mo le xh yr xb yb bs) sz) o a1 a2 a3 a4 a5 c1 c2 c3 c4 c5) (va_A (md o a1 a2 a3 a4 a5 c1 c2 c3 c4 c5 th n mo le xh yr xb yb bs) sz)) 0 0 (va_A (md o a1 a2 a3 a4 a5 c1 c2 c3 c4 c5 th n mo le xh yr xb yb bs) sz) := by
  refine Met.ofW (cc := b_M_clear) (maxL := 1) (ret := none) (by decide) rfl ?_
  intro p e s m args below meth c s₁ B hml hv
  obtain ⟨rfl, hsz, hP, hK, hD0⟩ := hv
  have hx := B.exec
  have hb := B.bytes
  have hr := B.returns
  have hts := atoms_spec (ws := ws_M_clear) B.pre
  have hown : s.vm.findClass R_M = some m.cls := findClass_of_methodNamed B.named
  have hlocks := B.notSynchronized
  subst hsz
  have hD := hD0.self (sz := s.heap.size)
  generalize hAe : va_A (md o a1 a2 a3 a4 a5 c1 c2 c3 c4 c5 th n mo le xh yr xb yb bs) s.heap.size = A at hD ⊢
  have hA : ∀ q : Nat, s.heap.size ≤ q → A q := fun q h => by rw [← hAe]; exact Or.inr h
  have hS : va_S A s.heap s.heap [] := va_S.rf
  have hl := lv_entry ([.ref o]) (n := 1) (Nat.le_of_ble_eq_true rfl)
  rw [lg_entry_eq]
  generalize (lg_sl ([.ref o]) ++ List.replicate (1 - (lg_sl ([.ref o])).length) Slot.unset).toArray = ls at hl ⊢
  have hl : lv_has ls 1 [(0, .ref o)] := hl
  refine lv_aload_n hx hb d_M_clear_0 rfl (lv_at hl 0 rfl) ?_
  refine lv_iconst (v := nI 0) hx hb d_M_clear_1 (by decide) ?_
  refine va_put (D := (dC, dI)) (ci := ciM) (v := .int (nI (0))) (ty := .int) (C := R_M) (T := F_M) (N := 9) hx hb hts (fun w h => List.mem_cons_of_mem _ (in_M w h)) t_M t_M_ok n_M hown hK hP hD hS 0 rfl rfl 0 (by decide) (hts (.fieldLink R_M 27 "PeriodWordsModel" "thrown" "I") (List.mem_cons_of_mem _ mb_383)) (fun _ h9 => h9) rfl (by decide +kernel) rfl rfl (Nat.le_of_ble_eq_true rfl) d_M_clear_2 (fun H locs hP hD hS => ?_)
  have hP : va_P (dC, dI) vwCl [(o, .inr (ciM, [.int (nI (0)), .int (nI (n)), .ref a1, .ref a2, .ref a3, .ref a4, .ref a5, .int (mo), .int (le)])), (a1, .inl (c1, 40, .inl xh)), (a2, .inl (c2, 40, .inl yr)), (a3, .inl (c3, 40, .inr (.inl xb))), (a4, .inl (c4, 40, .inr (.inl yb))), (a5, .inl (c5, 7400, .inl bs))] H := hP
  have hD : va_D A [(o, .inr (ciM, [.int (nI (0)), .int (nI (n)), .ref a1, .ref a2, .ref a3, .ref a4, .ref a5, .int (mo), .int (le)])), (a1, .inl (c1, 40, .inl xh)), (a2, .inl (c2, 40, .inl yr)), (a3, .inl (c3, 40, .inr (.inl xb))), (a4, .inl (c4, 40, .inr (.inl yb))), (a5, .inl (c5, 7400, .inl bs))] := hD
  refine lv_aload_n hx hb d_M_clear_5 rfl (lv_at hl 0 rfl) ?_
  refine lv_iconst (v := nI 0) hx hb d_M_clear_6 (by decide) ?_
  refine va_put (D := (dC, dI)) (ci := ciM) (v := .int (nI (0))) (ty := .int) (C := R_M) (T := F_M) (N := 9) hx hb hts (fun w h => List.mem_cons_of_mem _ (in_M w h)) t_M t_M_ok n_M hown hK hP hD hS 0 rfl rfl 1 (by decide) (hts (.fieldLink R_M 31 "PeriodWordsModel" "words" "I") (List.mem_cons_of_mem _ mb_384)) (fun _ h9 => h9) rfl (by decide +kernel) rfl rfl (Nat.le_of_ble_eq_true rfl) d_M_clear_7 (fun H locs hP hD hS => ?_)
  have hP : va_P (dC, dI) vwCl [(o, .inr (ciM, [.int (nI (0)), .int (nI (0)), .ref a1, .ref a2, .ref a3, .ref a4, .ref a5, .int (mo), .int (le)])), (a1, .inl (c1, 40, .inl xh)), (a2, .inl (c2, 40, .inl yr)), (a3, .inl (c3, 40, .inr (.inl xb))), (a4, .inl (c4, 40, .inr (.inl yb))), (a5, .inl (c5, 7400, .inl bs))] H := hP
  have hD : va_D A [(o, .inr (ciM, [.int (nI (0)), .int (nI (0)), .ref a1, .ref a2, .ref a3, .ref a4, .ref a5, .int (mo), .int (le)])), (a1, .inl (c1, 40, .inl xh)), (a2, .inl (c2, 40, .inl yr)), (a3, .inl (c3, 40, .inr (.inl xb))), (a4, .inl (c4, 40, .inr (.inl yb))), (a5, .inl (c5, 7400, .inl bs))] := hD
  exact W.vret hx hb hr (fun t_ ht_ hW_ => ⟨⟨(nI (0), 0, mo, le, xh, yr, xb, yb, bs), rfl, rfl, by rw [ht_]; exact hP, va_K.moved hW_.alike hK, hD⟩, hS.F ht_⟩) hS.2.2 d_M_clear_10
set_option maxHeartbeats 4000000 in
set_option maxRecDepth 100000 in
theorem c_M_raise (l : Launch) (dC : Nat → ClassId) (dI : Nat → Nat → Nat) {sz : Nat} {o a1 a2 a3 a4 a5 : Nat} {c1 c2 c3 c4 c5 : ClassId} {th mo le : Int32} {n : Nat} {xh yr : Nat → Int32} {xb yb : Nat → Int64} {bs : Nat → Int32} : Met l y_M_raise ws_M_raise ({ frames := 0, cells := 0, slots := 0, locals := 0 } : Room) (md_Pre [.ref o] dC dI sz (mdT c1 c2 c3 c4 c5) (md o a1 a2 a3 a4 a5 c1 c2 c3 c4 c5 th n mo le xh yr xb yb bs)) (va_Qi (fun r u => r = nI 0 ∧ u = (nI 1, n, mo, le, xh, yr, xb, yb, bs)) (md_B dC dI (va_A (md o a1 a2 a3 a4 a5 c1 c2 c3 c4 c5 th n mo le xh yr xb yb bs) sz) o a1 a2 a3 a4 a5 c1 c2 c3 c4 c5) (va_A (md o a1 a2 a3 a4 a5 c1 c2 c3 c4 c5 th n mo le xh yr xb yb bs) sz)) 0 0 (va_A (md o a1 a2 a3 a4 a5 c1 c2 c3 c4 c5 th n mo le xh yr xb yb bs) sz) := by
  refine Met.ofW (cc := b_M_raise) (maxL := 1) (ret := (some .int)) (by decide) rfl ?_
  intro p e s m args below meth c s₁ B hml hv
  obtain ⟨rfl, hsz, hP, hK, hD0⟩ := hv
  have hx := B.exec
  have hb := B.bytes
  have hr := B.returns
  have hts := atoms_spec (ws := ws_M_raise) B.pre
  have hown : s.vm.findClass R_M = some m.cls := findClass_of_methodNamed B.named
  have hlocks := B.notSynchronized
  subst hsz
  have hD := hD0.self (sz := s.heap.size)
  generalize hAe : va_A (md o a1 a2 a3 a4 a5 c1 c2 c3 c4 c5 th n mo le xh yr xb yb bs) s.heap.size = A at hD ⊢
  have hA : ∀ q : Nat, s.heap.size ≤ q → A q := fun q h => by rw [← hAe]; exact Or.inr h
  have hS : va_S A s.heap s.heap [] := va_S.rf
  have hl := lv_entry ([.ref o]) (n := 1) (Nat.le_of_ble_eq_true rfl)
  rw [lg_entry_eq]
  generalize (lg_sl ([.ref o]) ++ List.replicate (1 - (lg_sl ([.ref o])).length) Slot.unset).toArray = ls at hl ⊢
  have hl : lv_has ls 1 [(0, .ref o)] := hl
  refine lv_aload_n hx hb d_M_raise_0 rfl (lv_at hl 0 rfl) ?_
  refine lv_iconst (v := nI 1) hx hb d_M_raise_1 (by decide) ?_
  refine va_put (D := (dC, dI)) (ci := ciM) (v := .int (nI (1))) (ty := .int) (C := R_M) (T := F_M) (N := 9) hx hb hts (fun w h => List.mem_cons_of_mem _ (in_M w h)) t_M t_M_ok n_M hown hK hP hD hS 0 rfl rfl 0 (by decide) (hts (.fieldLink R_M 27 "PeriodWordsModel" "thrown" "I") (List.mem_cons_of_mem _ mb_383)) (fun _ h9 => h9) rfl (by decide +kernel) rfl rfl (Nat.le_of_ble_eq_true rfl) d_M_raise_2 (fun H locs hP hD hS => ?_)
  have hP : va_P (dC, dI) vwCl [(o, .inr (ciM, [.int (nI (1)), .int (nI (n)), .ref a1, .ref a2, .ref a3, .ref a4, .ref a5, .int (mo), .int (le)])), (a1, .inl (c1, 40, .inl xh)), (a2, .inl (c2, 40, .inl yr)), (a3, .inl (c3, 40, .inr (.inl xb))), (a4, .inl (c4, 40, .inr (.inl yb))), (a5, .inl (c5, 7400, .inl bs))] H := hP
  have hD : va_D A [(o, .inr (ciM, [.int (nI (1)), .int (nI (n)), .ref a1, .ref a2, .ref a3, .ref a4, .ref a5, .int (mo), .int (le)])), (a1, .inl (c1, 40, .inl xh)), (a2, .inl (c2, 40, .inl yr)), (a3, .inl (c3, 40, .inr (.inl xb))), (a4, .inl (c4, 40, .inr (.inl yb))), (a5, .inl (c5, 7400, .inl bs))] := hD
  refine lv_iconst (v := nI 0) hx hb d_M_raise_5 (by decide) ?_
  exact W.iret (v := (nI (0))) hx hb hr (fun t_ ht_ hW_ => ⟨⟨_, (nI (1), n, mo, le, xh, yr, xb, yb, bs), rfl, ⟨rfl, rfl⟩, by rw [ht_]; exact hP, va_K.moved hW_.alike hK, hD⟩, hS.F ht_⟩) hS.2.2 d_M_raise_6
set_option maxHeartbeats 4000000 in
set_option maxRecDepth 100000 in
theorem c_M_form (l : Launch) (dC : Nat → ClassId) (dI : Nat → Nat → Nat) {sz : Nat} {o a1 a2 a3 a4 a5 : Nat} {c1 c2 c3 c4 c5 : ClassId} {th mo le : Int32} {n : Nat} {xh yr : Nat → Int32} {xb yb : Nat → Int64} {bs : Nat → Int32} {Wd : Nat → pw_V} (hn : n ≤ 40) (hall : mdAll xh yr xb yb n Wd) {x y : Int32} : Met l y_M_form ws_M_form ({ frames := 2, cells := 0, slots := 0, locals := 45 } : Room) (md_Pre [.ref o, .int (x), .int (y)] dC dI sz (mdT c1 c2 c3 c4 c5) (md o a1 a2 a3 a4 a5 c1 c2 c3 c4 c5 th n mo le xh yr xb yb bs)) (va_Qi (fun r u => sp_1 n x (fun i r => sp_form (Wd i) y r) (fun r => r = -1) r ∧ u = (nI 0, n, mo, le, xh, yr, xb, yb, bs)) (md_B dC dI (va_A (md o a1 a2 a3 a4 a5 c1 c2 c3 c4 c5 th n mo le xh yr xb yb bs) sz) o a1 a2 a3 a4 a5 c1 c2 c3 c4 c5) (va_A (md o a1 a2 a3 a4 a5 c1 c2 c3 c4 c5 th n mo le xh yr xb yb bs) sz)) 0 0 (va_A (md o a1 a2 a3 a4 a5 c1 c2 c3 c4 c5 th n mo le xh yr xb yb bs) sz) := by
  refine Met.ofW (cc := b_M_form) (maxL := 5) (ret := (some .int)) (by decide) rfl ?_
  intro p e s m args below meth c s₁ B hml hv
  obtain ⟨rfl, hsz, hP, hK, hD0⟩ := hv
  have hx := B.exec
  have hb := B.bytes
  have hr := B.returns
  have hts := atoms_spec (ws := ws_M_form) B.pre
  have hown : s.vm.findClass R_M = some m.cls := findClass_of_methodNamed B.named
  have hlocks := B.notSynchronized
  subst hsz
  have hD := hD0.self (sz := s.heap.size)
  generalize hAe : va_A (md o a1 a2 a3 a4 a5 c1 c2 c3 c4 c5 th n mo le xh yr xb yb bs) s.heap.size = A at hD ⊢
  have hA : ∀ q : Nat, s.heap.size ≤ q → A q := fun q h => by rw [← hAe]; exact Or.inr h
  have hS : va_S A s.heap s.heap [] := va_S.rf
  have hl := lv_entry ([.ref o, .int (x), .int (y)]) (n := 5) (Nat.le_of_ble_eq_true rfl)
  rw [lg_entry_eq]
  generalize (lg_sl ([.ref o, .int (x), .int (y)]) ++ List.replicate (5 - (lg_sl ([.ref o, .int (x), .int (y)])).length) Slot.unset).toArray = ls at hl ⊢
  have hl : lv_has ls 5 [(0, .ref o), (1, .int (x)), (2, .int (y))] := hl
  refine lv_aload_n hx hb d_M_form_0 rfl (lv_at hl 0 rfl) ?_
  refine lv_iconst (v := nI 0) hx hb d_M_form_1 (by decide) ?_
  refine va_put (D := (dC, dI)) (ci := ciM) (v := .int (nI (0))) (ty := .int) (C := R_M) (T := F_M) (N := 9) hx hb hts (fun w h => List.mem_cons_of_mem _ (in_M w h)) t_M t_M_ok n_M hown hK hP hD hS 0 rfl rfl 0 (by decide) (hts (.fieldLink R_M 27 "PeriodWordsModel" "thrown" "I") (List.mem_cons_of_mem _ mb_383)) (fun _ h9 => h9) rfl (by decide +kernel) rfl rfl (Nat.le_of_ble_eq_true rfl) d_M_form_2 (fun H locs hP hD hS => ?_)
  have hP : va_P (dC, dI) vwCl [(o, .inr (ciM, [.int (nI (0)), .int (nI (n)), .ref a1, .ref a2, .ref a3, .ref a4, .ref a5, .int (mo), .int (le)])), (a1, .inl (c1, 40, .inl xh)), (a2, .inl (c2, 40, .inl yr)), (a3, .inl (c3, 40, .inr (.inl xb))), (a4, .inl (c4, 40, .inr (.inl yb))), (a5, .inl (c5, 7400, .inl bs))] H := hP
  have hD : va_D A [(o, .inr (ciM, [.int (nI (0)), .int (nI (n)), .ref a1, .ref a2, .ref a3, .ref a4, .ref a5, .int (mo), .int (le)])), (a1, .inl (c1, 40, .inl xh)), (a2, .inl (c2, 40, .inl yr)), (a3, .inl (c3, 40, .inr (.inl xb))), (a4, .inl (c4, 40, .inr (.inl yb))), (a5, .inl (c5, 7400, .inl bs))] := hD
  refine lv_aload_n hx hb d_M_form_5 rfl (lv_at hl 0 rfl) ?_
  refine lv_iload_n hx hb d_M_form_6 rfl (lv_at hl 1 rfl) ?_
  refine vp_callSi (W.runV (As := [.int (x)]) (rest := []) ⟨hx, hb, hml, hown, hts⟩ (c_M_isWord l dC dI hn (x := x)) (cwV 1 hts (gd_V mb_436 mb_438 mb_5 mb_23 mb_439) rfl rfl rfl (by decide +kernel) ⟨Nat.le_of_ble_eq_true rfl, Nat.le_of_ble_eq_true rfl⟩) (pw_R_V (va_recv hK hP (ci := ciM) (q0 := 0) rfl rfl) hP hK) rfl rfl hl.1 rfl (lv_room (Nat.le_of_ble_eq_true rfl)) d_M_form_7 ⟨Nat.le_of_ble_eq_true rfl, Nat.le_of_ble_eq_true rfl⟩) (fun r_7 hr_7 => ?_)
  rcases hr_7 with ⟨hre, i1, hi1, hx1⟩ | ⟨hre, hno1⟩
  · subst hre
    rw [hx1] at hl
    have hmd1 := hall i1 hi1
    have hmd1_ := hmd1; obtain ⟨hj1, e11, e21, e31, e41, hok1⟩ := hmd1_; have hok1_ := hok1; obtain ⟨hh1, hp01, hp61, hE1⟩ := hok1_
    have ho1 := pw_o_le (Wd i1).2.2 (Wd i1).1 (Wd i1).2.1
    have hc1 := pw_c_le (Wd i1).2.2 (Wd i1).1
    have hb01 := pq_lt60 (pw_b_lt (Wd i1).2.2 0 (Wd i1).1) hh1
    have hb11 := pq_lt60 (pw_b_lt (Wd i1).2.2 (Wd i1).1 (Wd i1).2.1) hp61
    refine pq_if_ne (tgt := 15) (a := 1) hx hb d_M_form_10 (by decide) (by omega) (fun c_10 => ?_) (fun c_10 => absurd c_10 (by omega))
    refine lv_aload_n hx hb d_M_form_15 rfl (lv_at hl 0 rfl) ?_
    refine lv_iload_n hx hb d_M_form_16 rfl (lv_at hl 1 rfl) ?_
    refine vp_callSi (W.runV (As := [.int (nI (i1))]) (rest := []) ⟨hx, hb, hml, hown, hts⟩ (c_M_inRing l dC dI hmd1) (cwV 1 hts (gd_V mb_440 mb_442 mb_6 mb_23 mb_443) rfl rfl rfl (by decide +kernel) ⟨Nat.le_of_ble_eq_true rfl, Nat.le_of_ble_eq_true rfl⟩) (pw_R_V (va_recv hK hP (ci := ciM) (q0 := 0) rfl rfl) hP hK) rfl rfl hl.1 rfl (lv_room (Nat.le_of_ble_eq_true rfl)) d_M_form_17 ⟨Nat.le_of_ble_eq_true rfl, Nat.le_of_ble_eq_true rfl⟩) (fun r_17 hr_17 => ?_)
    subst hr_17
    refine lv_istore_n (lv' := [(3, .int (nI (pw_o (Wd i1).2.2 (Wd i1).1 (Wd i1).2.1))), (0, .ref o), (1, .int (nI (i1))), (2, .int (y))]) hx hb d_M_form_20 rfl hl (by decide) rfl (fun ls hl => ?_)
    refine lv_iload_n hx hb d_M_form_21 rfl (lv_at hl 0 rfl) ?_
    refine lv_aload_n hx hb d_M_form_22 rfl (lv_at hl 1 rfl) ?_
    refine va_get (D := (dC, dI)) (ci := ciM) (v := .ref a2) (C := R_M) (T := F_M) (N := 9) hx hb hts (fun w h => List.mem_cons_of_mem _ (in_M w h)) hown hK hP 0 rfl rfl 3 (by decide) (hts (.fieldLink R_M 13 "PeriodWordsModel" "ring" "[I") (List.mem_cons_of_mem _ mb_386)) (fun _ h9 => h9) rfl d_M_form_23 ?_
    refine lv_iload_n hx hb d_M_form_26 rfl (lv_at hl 2 rfl) ?_
    refine va_iald hx hb hK hP 2 1 rfl rfl (vp_in_nI (n := i1) (by omega) (by omega)) d_M_form_27 ?_
    refine pq_top (y := .int (yr i1)) (by rw [pq_cl (by omega)]) ?_
    refine pq_top (y := .int (nI ((Wd i1).2.1))) (by rw [e21]) ?_
    refine vp_callSi (W.runS (As := [.int (nI (pw_o (Wd i1).2.2 (Wd i1).1 (Wd i1).2.1)), .int (nI ((Wd i1).2.1))]) (rest := []) ⟨hx, hb, hml, hown, hts⟩ (c_M_divisor l dC dI (x := pw_o (Wd i1).2.2 (Wd i1).1 (Wd i1).2.1) (y := (Wd i1).2.1) (by omega) (by omega)) (va_cwS 2 hts (gd_S mb_486 mb_487 mb_23 mb_488) rfl rfl rfl (by decide +kernel) ⟨Nat.le_of_ble_eq_true rfl, Nat.le_of_ble_eq_true rfl⟩) (pw_R_S pw_P0 (hK.sub [] rfl)) rfl rfl hl.1 rfl (lv_room (Nat.le_of_ble_eq_true rfl)) d_M_form_28 ⟨Nat.le_of_ble_eq_true rfl, Nat.le_of_ble_eq_true rfl⟩) (fun r_28 hr_28 => ?_)
    subst hr_28
    have hg0 := Nat.gcd_pos_of_pos_right (pw_o (Wd i1).2.2 (Wd i1).1 (Wd i1).2.1) hp01
    have hg1 := Nat.gcd_le_right (pw_o (Wd i1).2.2 (Wd i1).1 (Wd i1).2.1) hp01
    refine lv_istore (lv' := [(4, .int (nI (Nat.gcd (pw_o (Wd i1).2.2 (Wd i1).1 (Wd i1).2.1) (Wd i1).2.1))), (3, .int (nI (pw_o (Wd i1).2.2 (Wd i1).1 (Wd i1).2.1))), (0, .ref o), (1, .int (nI (i1))), (2, .int (y))]) hx hb d_M_form_31 hl (by decide) rfl (fun ls hl => ?_)
    refine lv_iload_n hx hb d_M_form_33 rfl (lv_at hl 4 rfl) ?_
    rcases pq_sw5 y with hy_ | hy_ | hy_ | hy_ | hy_ | ⟨hout, n0, n1, n2, n3, n4⟩
    · rw [hy_] at hl
      refine pq_top (y := .int (nI 0)) (by rw [hy_]) ?_
      refine lv_tableIn (tgt := 68) hx hb d_M_form_34 (by decide) (by decide) rfl (by decide) ?_
      refine lv_aload_n hx hb d_M_form_68 rfl (lv_at hl 2 rfl) ?_
      refine va_get (D := (dC, dI)) (ci := ciM) (v := .ref a1) (C := R_M) (T := F_M) (N := 9) hx hb hts (fun w h => List.mem_cons_of_mem _ (in_M w h)) hown hK hP 0 rfl rfl 2 (by decide) (hts (.fieldLink R_M 7 "PeriodWordsModel" "head" "[I") (List.mem_cons_of_mem _ mb_385)) (fun _ h9 => h9) rfl d_M_form_69 ?_
      refine lv_iload_n hx hb d_M_form_72 rfl (lv_at hl 3 rfl) ?_
      refine va_iald hx hb hK hP 1 0 rfl rfl (vp_in_nI (n := i1) (by omega) (by omega)) d_M_form_73 ?_
      refine pq_top (y := .int (xh i1)) (by rw [pq_cl (by omega)]) ?_
      refine pq_top (y := .int (nI ((Wd i1).1))) (by rw [e11]) ?_
      exact W.iret (v := (nI ((Wd i1).1))) hx hb hr (fun t_ ht_ hW_ => ⟨⟨_, (nI (0), n, mo, le, xh, yr, xb, yb, bs), rfl, ⟨Or.inl ⟨i1, hi1, hx1, by rw [hy_]; rfl⟩, rfl⟩, by rw [ht_]; exact hP, va_K.moved hW_.alike hK, hD⟩, hS.F ht_⟩) hS.2.2 d_M_form_74
    · rw [hy_] at hl
      refine pq_top (y := .int (nI 1)) (by rw [hy_]) ?_
      refine lv_tableIn (tgt := 75) hx hb d_M_form_34 (by decide) (by decide) rfl (by decide) ?_
      refine lv_aload_n hx hb d_M_form_75 rfl (lv_at hl 2 rfl) ?_
      refine va_get (D := (dC, dI)) (ci := ciM) (v := .ref a2) (C := R_M) (T := F_M) (N := 9) hx hb hts (fun w h => List.mem_cons_of_mem _ (in_M w h)) hown hK hP 0 rfl rfl 3 (by decide) (hts (.fieldLink R_M 13 "PeriodWordsModel" "ring" "[I") (List.mem_cons_of_mem _ mb_386)) (fun _ h9 => h9) rfl d_M_form_76 ?_
      refine lv_iload_n hx hb d_M_form_79 rfl (lv_at hl 3 rfl) ?_
      refine va_iald hx hb hK hP 2 1 rfl rfl (vp_in_nI (n := i1) (by omega) (by omega)) d_M_form_80 ?_
      refine pq_top (y := .int (yr i1)) (by rw [pq_cl (by omega)]) ?_
      refine pq_top (y := .int (nI ((Wd i1).2.1))) (by rw [e21]) ?_
      exact W.iret (v := (nI ((Wd i1).2.1))) hx hb hr (fun t_ ht_ hW_ => ⟨⟨_, (nI (0), n, mo, le, xh, yr, xb, yb, bs), rfl, ⟨Or.inl ⟨i1, hi1, hx1, by rw [hy_]; rfl⟩, rfl⟩, by rw [ht_]; exact hP, va_K.moved hW_.alike hK, hD⟩, hS.F ht_⟩) hS.2.2 d_M_form_81
    · rw [hy_] at hl
      refine pq_top (y := .int (nI 2)) (by rw [hy_]) ?_
      refine lv_tableIn (tgt := 82) hx hb d_M_form_34 (by decide) (by decide) rfl (by decide) ?_
      refine lv_iload_n hx hb d_M_form_82 rfl (lv_at hl 1 rfl) ?_
      refine lv_iload hx hb d_M_form_83 (lv_at hl 0 rfl) ?_
      refine pq_idiv (a := (pw_o (Wd i1).2.2 (Wd i1).1 (Wd i1).2.1)) (b := (Nat.gcd (pw_o (Wd i1).2.2 (Wd i1).1 (Wd i1).2.1) (Wd i1).2.1)) hx hb d_M_form_85 (by omega) (by omega) (by omega) ?_
      exact W.iret (v := (nI ((pw_o (Wd i1).2.2 (Wd i1).1 (Wd i1).2.1) / (Nat.gcd (pw_o (Wd i1).2.2 (Wd i1).1 (Wd i1).2.1) (Wd i1).2.1)))) hx hb hr (fun t_ ht_ hW_ => ⟨⟨_, (nI (0), n, mo, le, xh, yr, xb, yb, bs), rfl, ⟨Or.inl ⟨i1, hi1, hx1, by rw [hy_]; rfl⟩, rfl⟩, by rw [ht_]; exact hP, va_K.moved hW_.alike hK, hD⟩, hS.F ht_⟩) hS.2.2 d_M_form_86
    · rw [hy_] at hl
      refine pq_top (y := .int (nI 3)) (by rw [hy_]) ?_
      refine lv_tableIn (tgt := 87) hx hb d_M_form_34 (by decide) (by decide) rfl (by decide) ?_
      refine lv_aload_n hx hb d_M_form_87 rfl (lv_at hl 2 rfl) ?_
      refine va_get (D := (dC, dI)) (ci := ciM) (v := .ref a2) (C := R_M) (T := F_M) (N := 9) hx hb hts (fun w h => List.mem_cons_of_mem _ (in_M w h)) hown hK hP 0 rfl rfl 3 (by decide) (hts (.fieldLink R_M 13 "PeriodWordsModel" "ring" "[I") (List.mem_cons_of_mem _ mb_386)) (fun _ h9 => h9) rfl d_M_form_88 ?_
      refine lv_iload_n hx hb d_M_form_91 rfl (lv_at hl 3 rfl) ?_
      refine va_iald hx hb hK hP 2 1 rfl rfl (vp_in_nI (n := i1) (by omega) (by omega)) d_M_form_92 ?_
      refine pq_top (y := .int (yr i1)) (by rw [pq_cl (by omega)]) ?_
      refine pq_top (y := .int (nI ((Wd i1).2.1))) (by rw [e21]) ?_
      refine lv_iload hx hb d_M_form_93 (lv_at hl 0 rfl) ?_
      refine pq_idiv (a := ((Wd i1).2.1)) (b := (Nat.gcd (pw_o (Wd i1).2.2 (Wd i1).1 (Wd i1).2.1) (Wd i1).2.1)) hx hb d_M_form_95 (by omega) (by omega) (by omega) ?_
      exact W.iret (v := (nI (((Wd i1).2.1) / (Nat.gcd (pw_o (Wd i1).2.2 (Wd i1).1 (Wd i1).2.1) (Wd i1).2.1)))) hx hb hr (fun t_ ht_ hW_ => ⟨⟨_, (nI (0), n, mo, le, xh, yr, xb, yb, bs), rfl, ⟨Or.inl ⟨i1, hi1, hx1, by rw [hy_]; rfl⟩, rfl⟩, by rw [ht_]; exact hP, va_K.moved hW_.alike hK, hD⟩, hS.F ht_⟩) hS.2.2 d_M_form_96
    · rw [hy_] at hl
      refine pq_top (y := .int (nI 4)) (by rw [hy_]) ?_
      refine lv_tableIn (tgt := 97) hx hb d_M_form_34 (by decide) (by decide) rfl (by decide) ?_
      refine lv_aload_n hx hb d_M_form_97 rfl (lv_at hl 2 rfl) ?_
      refine va_get (D := (dC, dI)) (ci := ciM) (v := .ref a3) (C := R_M) (T := F_M) (N := 9) hx hb hts (fun w h => List.mem_cons_of_mem _ (in_M w h)) hown hK hP 0 rfl rfl 4 (by decide) (hts (.fieldLink R_M 16 "PeriodWordsModel" "headBits" "[J") (List.mem_cons_of_mem _ mb_387)) (fun _ h9 => h9) rfl d_M_form_98 ?_
      refine lv_iload_n hx hb d_M_form_101 rfl (lv_at hl 3 rfl) ?_
      refine va_lald hx hb hK hP 3 2 rfl rfl (vp_in_nI (n := i1) (by omega) (by omega)) d_M_form_102 ?_
      refine pq_top (y := .long (xb i1)) (by rw [pq_cl (by omega)]) ?_
      refine pq_top (y := .long (lN (pw_b (Wd i1).2.2 0 (Wd i1).1))) (by rw [e31]) ?_
      refine lv_aload_n hx hb d_M_form_103 rfl (lv_at hl 2 rfl) ?_
      refine va_get (D := (dC, dI)) (ci := ciM) (v := .ref a1) (C := R_M) (T := F_M) (N := 9) hx hb hts (fun w h => List.mem_cons_of_mem _ (in_M w h)) hown hK hP 0 rfl rfl 2 (by decide) (hts (.fieldLink R_M 7 "PeriodWordsModel" "head" "[I") (List.mem_cons_of_mem _ mb_385)) (fun _ h9 => h9) rfl d_M_form_104 ?_
      refine lv_iload_n hx hb d_M_form_107 rfl (lv_at hl 3 rfl) ?_
      refine va_iald hx hb hK hP 1 0 rfl rfl (vp_in_nI (n := i1) (by omega) (by omega)) d_M_form_108 ?_
      refine pq_top (y := .int (xh i1)) (by rw [pq_cl (by omega)]) ?_
      refine pq_top (y := .int (nI ((Wd i1).1))) (by rw [e11]) ?_
      refine vp_callSi (W.runS (As := [.long (lN (pw_b (Wd i1).2.2 0 (Wd i1).1)), .int (nI ((Wd i1).1))]) (rest := []) ⟨hx, hb, hml, hown, hts⟩ (c_M_onesOf l dC dI (x := pw_b (Wd i1).2.2 0 (Wd i1).1) (k := (Wd i1).1) hb01 (by omega)) (va_cwS 2 hts (gd_S mb_444 mb_445 mb_23 mb_446) rfl rfl rfl (by decide +kernel) ⟨Nat.le_of_ble_eq_true rfl, Nat.le_of_ble_eq_true rfl⟩) (pw_R_S pw_P0 (hK.sub [] rfl)) rfl rfl hl.1 rfl (lv_room (Nat.le_of_ble_eq_true rfl)) d_M_form_109 ⟨Nat.le_of_ble_eq_true rfl, Nat.le_of_ble_eq_true rfl⟩) (fun r_109 hr_109 => ?_)
      subst hr_109
      refine pq_top (y := .int (nI (pw_c (Wd i1).2.2 (Wd i1).1))) (by rw [pw_p_c _ _ _ (Nat.le_refl _)]) ?_
      exact W.iret (v := (nI (pw_c (Wd i1).2.2 (Wd i1).1))) hx hb hr (fun t_ ht_ hW_ => ⟨⟨_, (nI (0), n, mo, le, xh, yr, xb, yb, bs), rfl, ⟨Or.inl ⟨i1, hi1, hx1, by rw [hy_]; rfl⟩, rfl⟩, by rw [ht_]; exact hP, va_K.moved hW_.alike hK, hD⟩, hS.F ht_⟩) hS.2.2 d_M_form_112
    · refine lv_tableOut (tgt := 113) hx hb d_M_form_34 hout (by decide) ?_
      refine lv_iconst (v := (-1)) hx hb d_M_form_113 (by decide) ?_
      exact W.iret (v := (-1)) hx hb hr (fun t_ ht_ hW_ => ⟨⟨_, (nI (0), n, mo, le, xh, yr, xb, yb, bs), rfl, ⟨Or.inl ⟨i1, hi1, hx1, sp_form_no n0 n1 n2 n3 n4⟩, rfl⟩, by rw [ht_]; exact hP, va_K.moved hW_.alike hK, hD⟩, hS.F ht_⟩) hS.2.2 d_M_form_114
  · subst hre
    refine pq_if_ne (tgt := 15) (a := 0) hx hb d_M_form_10 (by decide) (by omega) (fun c_10 => absurd c_10 (by omega)) (fun c_10 => ?_)
    refine lv_iconst (v := (-1)) hx hb d_M_form_13 (by decide) ?_
    exact W.iret (v := (-1)) hx hb hr (fun t_ ht_ hW_ => ⟨⟨_, (nI (0), n, mo, le, xh, yr, xb, yb, bs), rfl, ⟨Or.inr ⟨hno1, rfl⟩, rfl⟩, by rw [ht_]; exact hP, va_K.moved hW_.alike hK, hD⟩, hS.F ht_⟩) hS.2.2 d_M_form_14
set_option maxHeartbeats 4000000 in
set_option maxRecDepth 100000 in
theorem c_M_same (l : Launch) (dC : Nat → ClassId) (dI : Nat → Nat → Nat) {sz : Nat} {o a1 a2 a3 a4 a5 : Nat} {c1 c2 c3 c4 c5 : ClassId} {th mo le : Int32} {n : Nat} {xh yr : Nat → Int32} {xb yb : Nat → Int64} {bs : Nat → Int32} {Wd : Nat → pw_V} (hn : n ≤ 40) (hall : mdAll xh yr xb yb n Wd) {x : Int32} : Met l y_M_same ws_M_same ({ frames := 2, cells := 0, slots := 0, locals := 43 } : Room) (md_Pre [.ref o, .int (x)] dC dI sz (mdT c1 c2 c3 c4 c5) (md o a1 a2 a3 a4 a5 c1 c2 c3 c4 c5 th n mo le xh yr xb yb bs)) (va_Qi (fun r u => sp_1 n x (fun i r => sp_same Wd i r) (fun r => r = -1) r ∧ u = (nI 0, n, mo, le, xh, yr, xb, yb, bs)) (md_B dC dI (va_A (md o a1 a2 a3 a4 a5 c1 c2 c3 c4 c5 th n mo le xh yr xb yb bs) sz) o a1 a2 a3 a4 a5 c1 c2 c3 c4 c5) (va_A (md o a1 a2 a3 a4 a5 c1 c2 c3 c4 c5 th n mo le xh yr xb yb bs) sz)) 0 0 (va_A (md o a1 a2 a3 a4 a5 c1 c2 c3 c4 c5 th n mo le xh yr xb yb bs) sz) := by
  refine Met.ofW (cc := b_M_same) (maxL := 3) (ret := (some .int)) (by decide) rfl ?_
  intro p e s m args below meth c s₁ B hml hv
  obtain ⟨rfl, hsz, hP, hK, hD0⟩ := hv
  have hx := B.exec
  have hb := B.bytes
  have hr := B.returns
  have hts := atoms_spec (ws := ws_M_same) B.pre
  have hown : s.vm.findClass R_M = some m.cls := findClass_of_methodNamed B.named
  have hlocks := B.notSynchronized
  subst hsz
  have hD := hD0.self (sz := s.heap.size)
  generalize hAe : va_A (md o a1 a2 a3 a4 a5 c1 c2 c3 c4 c5 th n mo le xh yr xb yb bs) s.heap.size = A at hD ⊢
  have hA : ∀ q : Nat, s.heap.size ≤ q → A q := fun q h => by rw [← hAe]; exact Or.inr h
  have hS : va_S A s.heap s.heap [] := va_S.rf
  have hl := lv_entry ([.ref o, .int (x)]) (n := 3) (Nat.le_of_ble_eq_true rfl)
  rw [lg_entry_eq]
  generalize (lg_sl ([.ref o, .int (x)]) ++ List.replicate (3 - (lg_sl ([.ref o, .int (x)])).length) Slot.unset).toArray = ls at hl ⊢
  have hl : lv_has ls 3 [(0, .ref o), (1, .int (x))] := hl
  refine lv_aload_n hx hb d_M_same_0 rfl (lv_at hl 0 rfl) ?_
  refine lv_iconst (v := nI 0) hx hb d_M_same_1 (by decide) ?_
  refine va_put (D := (dC, dI)) (ci := ciM) (v := .int (nI (0))) (ty := .int) (C := R_M) (T := F_M) (N := 9) hx hb hts (fun w h => List.mem_cons_of_mem _ (in_M w h)) t_M t_M_ok n_M hown hK hP hD hS 0 rfl rfl 0 (by decide) (hts (.fieldLink R_M 27 "PeriodWordsModel" "thrown" "I") (List.mem_cons_of_mem _ mb_383)) (fun _ h9 => h9) rfl (by decide +kernel) rfl rfl (Nat.le_of_ble_eq_true rfl) d_M_same_2 (fun H locs hP hD hS => ?_)
  have hP : va_P (dC, dI) vwCl [(o, .inr (ciM, [.int (nI (0)), .int (nI (n)), .ref a1, .ref a2, .ref a3, .ref a4, .ref a5, .int (mo), .int (le)])), (a1, .inl (c1, 40, .inl xh)), (a2, .inl (c2, 40, .inl yr)), (a3, .inl (c3, 40, .inr (.inl xb))), (a4, .inl (c4, 40, .inr (.inl yb))), (a5, .inl (c5, 7400, .inl bs))] H := hP
  have hD : va_D A [(o, .inr (ciM, [.int (nI (0)), .int (nI (n)), .ref a1, .ref a2, .ref a3, .ref a4, .ref a5, .int (mo), .int (le)])), (a1, .inl (c1, 40, .inl xh)), (a2, .inl (c2, 40, .inl yr)), (a3, .inl (c3, 40, .inr (.inl xb))), (a4, .inl (c4, 40, .inr (.inl yb))), (a5, .inl (c5, 7400, .inl bs))] := hD
  refine lv_aload_n hx hb d_M_same_5 rfl (lv_at hl 0 rfl) ?_
  refine lv_iload_n hx hb d_M_same_6 rfl (lv_at hl 1 rfl) ?_
  refine vp_callSi (W.runV (As := [.int (x)]) (rest := []) ⟨hx, hb, hml, hown, hts⟩ (c_M_isWord l dC dI hn (x := x)) (cwV 1 hts (gd_V mb_436 mb_438 mb_5 mb_23 mb_439) rfl rfl rfl (by decide +kernel) ⟨Nat.le_of_ble_eq_true rfl, Nat.le_of_ble_eq_true rfl⟩) (pw_R_V (va_recv hK hP (ci := ciM) (q0 := 0) rfl rfl) hP hK) rfl rfl hl.1 rfl (lv_room (Nat.le_of_ble_eq_true rfl)) d_M_same_7 ⟨Nat.le_of_ble_eq_true rfl, Nat.le_of_ble_eq_true rfl⟩) (fun r_7 hr_7 => ?_)
  rcases hr_7 with ⟨hre, i1, hi1, hx1⟩ | ⟨hre, hno1⟩
  · subst hre
    rw [hx1] at hl
    have hmd1 := hall i1 hi1
    have hmd1_ := hmd1; obtain ⟨hj1, e11, e21, e31, e41, hok1⟩ := hmd1_; have hok1_ := hok1; obtain ⟨hh1, hp01, hp61, hE1⟩ := hok1_
    have ho1 := pw_o_le (Wd i1).2.2 (Wd i1).1 (Wd i1).2.1
    have hc1 := pw_c_le (Wd i1).2.2 (Wd i1).1
    have hb01 := pq_lt60 (pw_b_lt (Wd i1).2.2 0 (Wd i1).1) hh1
    have hb11 := pq_lt60 (pw_b_lt (Wd i1).2.2 (Wd i1).1 (Wd i1).2.1) hp61
    refine pq_if_ne (tgt := 15) (a := 1) hx hb d_M_same_10 (by decide) (by omega) (fun c_10 => ?_) (fun c_10 => absurd c_10 (by omega))
    refine lv_iconst (v := nI 0) hx hb d_M_same_15 (by decide) ?_
    refine lv_istore_n (lv' := [(2, .int (nI (0))), (0, .ref o), (1, .int (nI (i1)))]) hx hb d_M_same_16 rfl hl (by decide) rfl (fun ls hl => ?_)
    have B_17 : ∀ (k_ : Nat) (k : Nat) (H : Heap) (locs : List Loc) (ls : Array Slot), (i1 + 1 - k) < k_ → (k ≤ i1) → (∀ j, j < k → ¬ sp_q (Wd j) (Wd i1)) → (va_P (dC, dI) vwCl [(o, .inr (ciM, [.int (nI (0)), .int (nI (n)), .ref a1, .ref a2, .ref a3, .ref a4, .ref a5, .int (mo), .int (le)])), (a1, .inl (c1, 40, .inl xh)), (a2, .inl (c2, 40, .inl yr)), (a3, .inl (c3, 40, .inr (.inl xb))), (a4, .inl (c4, 40, .inr (.inl yb))), (a5, .inl (c5, 7400, .inl bs))] H) → (va_D A [(o, .inr (ciM, [.int (nI (0)), .int (nI (n)), .ref a1, .ref a2, .ref a3, .ref a4, .ref a5, .int (mo), .int (le)])), (a1, .inl (c1, 40, .inl xh)), (a2, .inl (c2, 40, .inl yr)), (a3, .inl (c3, 40, .inr (.inl xb))), (a4, .inl (c4, 40, .inr (.inl yb))), (a5, .inl (c5, 7400, .inl bs))]) → (va_S A s.heap H locs) → lv_has ls 3 [(0, .ref o), (1, .int (nI (i1))), (2, .int (nI (k)))] → W p l e (headSpec ws_M_same ({ frames := 2, cells := 0, slots := 0, locals := 43 } : Room)).room s m ([.ref o, .int (x)]).toArray below meth c H locs 0 0 (MQ below (va_Qi (fun r u => sp_1 n x (fun i r => sp_same Wd i r) (fun r => r = -1) r ∧ u = (nI 0, n, mo, le, xh, yr, xb, yb, bs)) (md_B dC dI A o a1 a2 a3 a4 a5 c1 c2 c3 c4 c5) A) ([.ref o, .int (x)]).toArray s 0 0 A) (F0 m 17 ls []) := by
      intro k_
      induction k_ with
      | zero => intro k H locs ls h_; omega
      | succ k_ ih_17 =>
        intro k H locs ls hm_ hk hne hP hD hS hl
        refine lv_aload_n hx hb d_M_same_17 rfl (lv_at hl 0 rfl) ?_
        have hmdk := hall k (by omega)
        obtain ⟨hjk, e1k, e2k, e3k, e4k, hokk⟩ := hmdk; obtain ⟨hhk, hp0k, hp6k, hEk⟩ := hokk
        have hb0k := pq_lt60 (pw_b_lt (Wd k).2.2 0 (Wd k).1) hhk
        have hb1k := pq_lt60 (pw_b_lt (Wd k).2.2 (Wd k).1 (Wd k).2.1) hp6k
        refine va_get (D := (dC, dI)) (ci := ciM) (v := .ref a1) (C := R_M) (T := F_M) (N := 9) hx hb hts (fun w h => List.mem_cons_of_mem _ (in_M w h)) hown hK hP 0 rfl rfl 2 (by decide) (hts (.fieldLink R_M 7 "PeriodWordsModel" "head" "[I") (List.mem_cons_of_mem _ mb_385)) (fun _ h9 => h9) rfl d_M_same_18 ?_
        refine lv_iload_n hx hb d_M_same_21 rfl (lv_at hl 2 rfl) ?_
        refine va_iald hx hb hK hP 1 0 rfl rfl (vp_in_nI (n := k) (by omega) (by omega)) d_M_same_22 ?_
        refine pq_top (y := .int (xh k)) (by rw [pq_cl (by omega)]) ?_
        refine pq_top (y := .int (nI ((Wd k).1))) (by rw [e1k]) ?_
        refine lv_aload_n hx hb d_M_same_23 rfl (lv_at hl 0 rfl) ?_
        refine va_get (D := (dC, dI)) (ci := ciM) (v := .ref a1) (C := R_M) (T := F_M) (N := 9) hx hb hts (fun w h => List.mem_cons_of_mem _ (in_M w h)) hown hK hP 0 rfl rfl 2 (by decide) (hts (.fieldLink R_M 7 "PeriodWordsModel" "head" "[I") (List.mem_cons_of_mem _ mb_385)) (fun _ h9 => h9) rfl d_M_same_24 ?_
        refine lv_iload_n hx hb d_M_same_27 rfl (lv_at hl 1 rfl) ?_
        refine va_iald hx hb hK hP 1 0 rfl rfl (vp_in_nI (n := i1) (by omega) (by omega)) d_M_same_28 ?_
        refine pq_top (y := .int (xh i1)) (by rw [pq_cl (by omega)]) ?_
        refine pq_top (y := .int (nI ((Wd i1).1))) (by rw [e11]) ?_
        refine pq_icmp_ne (tgt := 79) (a := ((Wd k).1)) (b := ((Wd i1).1)) hx hb d_M_same_29 (by decide) (by omega) (by omega) (fun c_29 => ?_) (fun c_29 => ?_)
        · have hnq : ¬ sp_q (Wd k) (Wd i1) := by
            rintro ⟨z1, z2, z3, z4⟩
            first | exact c_29 z1 | exact c_44 z3 | exact c_60n z2 | exact c_76n z4
          have hki : k + 1 ≤ i1 := by
            rcases Nat.lt_or_ge k i1 with z | z
            · exact z
            · exfalso; apply hnq; rw [show k = i1 by omega]; exact ⟨rfl, rfl, rfl, rfl⟩
          refine lv_iinc (v := nI (k + 1)) (lv' := [(2, .int (nI (k + 1))), (0, .ref o), (1, .int (nI (i1)))]) hx hb d_M_same_79 hl (k := 2) rfl (pq_inc _) (by decide) rfl (fun ls hl => ?_)
          refine lv_goto (tgt := 17) hx hb d_M_same_82 (by decide) ?_
          exact ih_17 (k + 1) _ _ ls (by omega) hki (lt_s hne hnq) hP hD hS (lv_sub hl [1, 2, 0] rfl)
        · refine lv_aload_n hx hb d_M_same_32 rfl (lv_at hl 0 rfl) ?_
          refine va_get (D := (dC, dI)) (ci := ciM) (v := .ref a2) (C := R_M) (T := F_M) (N := 9) hx hb hts (fun w h => List.mem_cons_of_mem _ (in_M w h)) hown hK hP 0 rfl rfl 3 (by decide) (hts (.fieldLink R_M 13 "PeriodWordsModel" "ring" "[I") (List.mem_cons_of_mem _ mb_386)) (fun _ h9 => h9) rfl d_M_same_33 ?_
          refine lv_iload_n hx hb d_M_same_36 rfl (lv_at hl 2 rfl) ?_
          refine va_iald hx hb hK hP 2 1 rfl rfl (vp_in_nI (n := k) (by omega) (by omega)) d_M_same_37 ?_
          refine pq_top (y := .int (yr k)) (by rw [pq_cl (by omega)]) ?_
          refine pq_top (y := .int (nI ((Wd k).2.1))) (by rw [e2k]) ?_
          refine lv_aload_n hx hb d_M_same_38 rfl (lv_at hl 0 rfl) ?_
          refine va_get (D := (dC, dI)) (ci := ciM) (v := .ref a2) (C := R_M) (T := F_M) (N := 9) hx hb hts (fun w h => List.mem_cons_of_mem _ (in_M w h)) hown hK hP 0 rfl rfl 3 (by decide) (hts (.fieldLink R_M 13 "PeriodWordsModel" "ring" "[I") (List.mem_cons_of_mem _ mb_386)) (fun _ h9 => h9) rfl d_M_same_39 ?_
          refine lv_iload_n hx hb d_M_same_42 rfl (lv_at hl 1 rfl) ?_
          refine va_iald hx hb hK hP 2 1 rfl rfl (vp_in_nI (n := i1) (by omega) (by omega)) d_M_same_43 ?_
          refine pq_top (y := .int (yr i1)) (by rw [pq_cl (by omega)]) ?_
          refine pq_top (y := .int (nI ((Wd i1).2.1))) (by rw [e21]) ?_
          refine pq_icmp_ne (tgt := 79) (a := ((Wd k).2.1)) (b := ((Wd i1).2.1)) hx hb d_M_same_44 (by decide) (by omega) (by omega) (fun c_44 => ?_) (fun c_44 => ?_)
          · have hnq : ¬ sp_q (Wd k) (Wd i1) := by
              rintro ⟨z1, z2, z3, z4⟩
              first | exact c_29 z1 | exact c_44 z3 | exact c_60n z2 | exact c_76n z4
            have hki : k + 1 ≤ i1 := by
              rcases Nat.lt_or_ge k i1 with z | z
              · exact z
              · exfalso; apply hnq; rw [show k = i1 by omega]; exact ⟨rfl, rfl, rfl, rfl⟩
            refine lv_iinc (v := nI (k + 1)) (lv' := [(2, .int (nI (k + 1))), (0, .ref o), (1, .int (nI (i1)))]) hx hb d_M_same_79 hl (k := 2) rfl (pq_inc _) (by decide) rfl (fun ls hl => ?_)
            refine lv_goto (tgt := 17) hx hb d_M_same_82 (by decide) ?_
            exact ih_17 (k + 1) _ _ ls (by omega) hki (lt_s hne hnq) hP hD hS (lv_sub hl [1, 2, 0] rfl)
          · refine lv_aload_n hx hb d_M_same_47 rfl (lv_at hl 0 rfl) ?_
            refine va_get (D := (dC, dI)) (ci := ciM) (v := .ref a3) (C := R_M) (T := F_M) (N := 9) hx hb hts (fun w h => List.mem_cons_of_mem _ (in_M w h)) hown hK hP 0 rfl rfl 4 (by decide) (hts (.fieldLink R_M 16 "PeriodWordsModel" "headBits" "[J") (List.mem_cons_of_mem _ mb_387)) (fun _ h9 => h9) rfl d_M_same_48 ?_
            refine lv_iload_n hx hb d_M_same_51 rfl (lv_at hl 2 rfl) ?_
            refine va_lald hx hb hK hP 3 2 rfl rfl (vp_in_nI (n := k) (by omega) (by omega)) d_M_same_52 ?_
            refine pq_top (y := .long (xb k)) (by rw [pq_cl (by omega)]) ?_
            refine pq_top (y := .long (lN (pw_b (Wd k).2.2 0 (Wd k).1))) (by rw [e3k]) ?_
            refine lv_aload_n hx hb d_M_same_53 rfl (lv_at hl 0 rfl) ?_
            refine va_get (D := (dC, dI)) (ci := ciM) (v := .ref a3) (C := R_M) (T := F_M) (N := 9) hx hb hts (fun w h => List.mem_cons_of_mem _ (in_M w h)) hown hK hP 0 rfl rfl 4 (by decide) (hts (.fieldLink R_M 16 "PeriodWordsModel" "headBits" "[J") (List.mem_cons_of_mem _ mb_387)) (fun _ h9 => h9) rfl d_M_same_54 ?_
            refine lv_iload_n hx hb d_M_same_57 rfl (lv_at hl 1 rfl) ?_
            refine va_lald hx hb hK hP 3 2 rfl rfl (vp_in_nI (n := i1) (by omega) (by omega)) d_M_same_58 ?_
            refine pq_top (y := .long (xb i1)) (by rw [pq_cl (by omega)]) ?_
            refine pq_top (y := .long (lN (pw_b (Wd i1).2.2 0 (Wd i1).1))) (by rw [e31]) ?_
            refine W.lcmp hx hb d_M_same_59 ?_
            refine lv_topi (fun x_1 ex_1 => ?_)
            refine lv_if_ne (tgt := 79) hx hb d_M_same_60 (by decide) (fun c_60 => ?_) (fun c_60 => ?_)
            · have c_60n : pw_b (Wd k).2.2 0 (Wd k).1 ≠ pw_b (Wd i1).2.2 0 (Wd i1).1 := fun z_ => c_60 (by rw [ex_1]; exact (pq_cmpN (by omega) (by omega)).mpr z_)
              have hnq : ¬ sp_q (Wd k) (Wd i1) := by
                rintro ⟨z1, z2, z3, z4⟩
                first | exact c_29 z1 | exact c_44 z3 | exact c_60n z2 | exact c_76n z4
              have hki : k + 1 ≤ i1 := by
                rcases Nat.lt_or_ge k i1 with z | z
                · exact z
                · exfalso; apply hnq; rw [show k = i1 by omega]; exact ⟨rfl, rfl, rfl, rfl⟩
              refine lv_iinc (v := nI (k + 1)) (lv' := [(2, .int (nI (k + 1))), (0, .ref o), (1, .int (nI (i1)))]) hx hb d_M_same_79 hl (k := 2) rfl (pq_inc _) (by decide) rfl (fun ls hl => ?_)
              refine lv_goto (tgt := 17) hx hb d_M_same_82 (by decide) ?_
              exact ih_17 (k + 1) _ _ ls (by omega) hki (lt_s hne hnq) hP hD hS (lv_sub hl [1, 2, 0] rfl)
            · have c_60n : pw_b (Wd k).2.2 0 (Wd k).1 = pw_b (Wd i1).2.2 0 (Wd i1).1 := (pq_cmpN (by omega) (by omega)).mp (by rw [← ex_1]; exact c_60)
              refine lv_aload_n hx hb d_M_same_63 rfl (lv_at hl 0 rfl) ?_
              refine va_get (D := (dC, dI)) (ci := ciM) (v := .ref a4) (C := R_M) (T := F_M) (N := 9) hx hb hts (fun w h => List.mem_cons_of_mem _ (in_M w h)) hown hK hP 0 rfl rfl 5 (by decide) (hts (.fieldLink R_M 20 "PeriodWordsModel" "ringBits" "[J") (List.mem_cons_of_mem _ mb_388)) (fun _ h9 => h9) rfl d_M_same_64 ?_
              refine lv_iload_n hx hb d_M_same_67 rfl (lv_at hl 2 rfl) ?_
              refine va_lald hx hb hK hP 4 3 rfl rfl (vp_in_nI (n := k) (by omega) (by omega)) d_M_same_68 ?_
              refine pq_top (y := .long (yb k)) (by rw [pq_cl (by omega)]) ?_
              refine pq_top (y := .long (lN (pw_b (Wd k).2.2 (Wd k).1 (Wd k).2.1))) (by rw [e4k]) ?_
              refine lv_aload_n hx hb d_M_same_69 rfl (lv_at hl 0 rfl) ?_
              refine va_get (D := (dC, dI)) (ci := ciM) (v := .ref a4) (C := R_M) (T := F_M) (N := 9) hx hb hts (fun w h => List.mem_cons_of_mem _ (in_M w h)) hown hK hP 0 rfl rfl 5 (by decide) (hts (.fieldLink R_M 20 "PeriodWordsModel" "ringBits" "[J") (List.mem_cons_of_mem _ mb_388)) (fun _ h9 => h9) rfl d_M_same_70 ?_
              refine lv_iload_n hx hb d_M_same_73 rfl (lv_at hl 1 rfl) ?_
              refine va_lald hx hb hK hP 4 3 rfl rfl (vp_in_nI (n := i1) (by omega) (by omega)) d_M_same_74 ?_
              refine pq_top (y := .long (yb i1)) (by rw [pq_cl (by omega)]) ?_
              refine pq_top (y := .long (lN (pw_b (Wd i1).2.2 (Wd i1).1 (Wd i1).2.1))) (by rw [e41]) ?_
              refine W.lcmp hx hb d_M_same_75 ?_
              refine lv_topi (fun x_2 ex_2 => ?_)
              refine lv_if_eq (tgt := 85) hx hb d_M_same_76 (by decide) (fun c_76 => ?_) (fun c_76 => ?_)
              · have c_76n : pw_b (Wd k).2.2 (Wd k).1 (Wd k).2.1 = pw_b (Wd i1).2.2 (Wd i1).1 (Wd i1).2.1 := (pq_cmpN (by omega) (by omega)).mp (by rw [← ex_2]; exact c_76)
                refine lv_iload_n hx hb d_M_same_85 rfl (lv_at hl 2 rfl) ?_
                exact W.iret (v := (nI (k))) hx hb hr (fun t_ ht_ hW_ => ⟨⟨_, (nI (0), n, mo, le, xh, yr, xb, yb, bs), rfl, ⟨Or.inl ⟨i1, hi1, hx1, k, hk, rfl, ⟨c_29, c_60n, c_44, c_76n⟩, hne⟩, rfl⟩, by rw [ht_]; exact hP, va_K.moved hW_.alike hK, hD⟩, hS.F ht_⟩) hS.2.2 d_M_same_86
              · have c_76n : pw_b (Wd k).2.2 (Wd k).1 (Wd k).2.1 ≠ pw_b (Wd i1).2.2 (Wd i1).1 (Wd i1).2.1 := fun z_ => c_76 (by rw [ex_2]; exact (pq_cmpN (by omega) (by omega)).mpr z_)
                have hnq : ¬ sp_q (Wd k) (Wd i1) := by
                  rintro ⟨z1, z2, z3, z4⟩
                  first | exact c_29 z1 | exact c_44 z3 | exact c_60n z2 | exact c_76n z4
                have hki : k + 1 ≤ i1 := by
                  rcases Nat.lt_or_ge k i1 with z | z
                  · exact z
                  · exfalso; apply hnq; rw [show k = i1 by omega]; exact ⟨rfl, rfl, rfl, rfl⟩
                refine lv_iinc (v := nI (k + 1)) (lv' := [(2, .int (nI (k + 1))), (0, .ref o), (1, .int (nI (i1)))]) hx hb d_M_same_79 hl (k := 2) rfl (pq_inc _) (by decide) rfl (fun ls hl => ?_)
                refine lv_goto (tgt := 17) hx hb d_M_same_82 (by decide) ?_
                exact ih_17 (k + 1) _ _ ls (by omega) hki (lt_s hne hnq) hP hD hS (lv_sub hl [1, 2, 0] rfl)
    exact B_17 _ (0) _ _ ls (Nat.lt_succ_self _) (by omega) (fun j hj => absurd hj (Nat.not_lt_zero j)) hP hD hS (lv_sub hl [1, 2, 0] rfl)
  · subst hre
    refine pq_if_ne (tgt := 15) (a := 0) hx hb d_M_same_10 (by decide) (by omega) (fun c_10 => absurd c_10 (by omega)) (fun c_10 => ?_)
    refine lv_iconst (v := (-1)) hx hb d_M_same_13 (by decide) ?_
    exact W.iret (v := (-1)) hx hb hr (fun t_ ht_ hW_ => ⟨⟨_, (nI (0), n, mo, le, xh, yr, xb, yb, bs), rfl, ⟨Or.inr ⟨hno1, rfl⟩, rfl⟩, by rw [ht_]; exact hP, va_K.moved hW_.alike hK, hD⟩, hS.F ht_⟩) hS.2.2 d_M_same_14
set_option maxHeartbeats 4000000 in
set_option maxRecDepth 100000 in
theorem c_M_at (l : Launch) (dC : Nat → ClassId) (dI : Nat → Nat → Nat) {sz : Nat} {o a1 a2 a3 a4 a5 : Nat} {c1 c2 c3 c4 c5 : ClassId} {th mo le : Int32} {n : Nat} {xh yr : Nat → Int32} {xb yb : Nat → Int64} {bs : Nat → Int32} {Wd : Nat → pw_V} (hn : n ≤ 40) (hall : mdAll xh yr xb yb n Wd) {x y : Int32} : Met l y_M_at ws_M_at ({ frames := 3, cells := 0, slots := 0, locals := 72 } : Room) (md_Pre [.ref o, .int (x), .int (y)] dC dI sz (mdT c1 c2 c3 c4 c5) (md o a1 a2 a3 a4 a5 c1 c2 c3 c4 c5 th n mo le xh yr xb yb bs)) (va_Qi (fun r u => ((∃ i j, sp_atv n Wd x y i j ∧ r = nI (pw_tk (Wd i).2.2 j)) ∧ u = (nI 0, n, mo, le, xh, yr, xb, yb, bs)) ∨ ((¬ ∃ i j, sp_atv n Wd x y i j) ∧ u = (nI 1, n, mo, le, xh, yr, xb, yb, bs))) (md_B dC dI (va_A (md o a1 a2 a3 a4 a5 c1 c2 c3 c4 c5 th n mo le xh yr xb yb bs) sz) o a1 a2 a3 a4 a5 c1 c2 c3 c4 c5) (va_A (md o a1 a2 a3 a4 a5 c1 c2 c3 c4 c5 th n mo le xh yr xb yb bs) sz)) 0 0 (va_A (md o a1 a2 a3 a4 a5 c1 c2 c3 c4 c5 th n mo le xh yr xb yb bs) sz) := by
  refine Met.ofW (cc := b_M_at) (maxL := 4) (ret := (some .int)) (by decide) rfl ?_
  intro p e s m args below meth c s₁ B hml hv
  obtain ⟨rfl, hsz, hP, hK, hD0⟩ := hv
  have hx := B.exec
  have hb := B.bytes
  have hr := B.returns
  have hts := atoms_spec (ws := ws_M_at) B.pre
  have hown : s.vm.findClass R_M = some m.cls := findClass_of_methodNamed B.named
  have hlocks := B.notSynchronized
  subst hsz
  have hD := hD0.self (sz := s.heap.size)
  generalize hAe : va_A (md o a1 a2 a3 a4 a5 c1 c2 c3 c4 c5 th n mo le xh yr xb yb bs) s.heap.size = A at hD ⊢
  have hA : ∀ q : Nat, s.heap.size ≤ q → A q := fun q h => by rw [← hAe]; exact Or.inr h
  have hS : va_S A s.heap s.heap [] := va_S.rf
  have hl := lv_entry ([.ref o, .int (x), .int (y)]) (n := 4) (Nat.le_of_ble_eq_true rfl)
  rw [lg_entry_eq]
  generalize (lg_sl ([.ref o, .int (x), .int (y)]) ++ List.replicate (4 - (lg_sl ([.ref o, .int (x), .int (y)])).length) Slot.unset).toArray = ls at hl ⊢
  have hl : lv_has ls 4 [(0, .ref o), (1, .int (x)), (2, .int (y))] := hl
  refine lv_aload_n hx hb d_M_at_0 rfl (lv_at hl 0 rfl) ?_
  refine lv_iconst (v := nI 0) hx hb d_M_at_1 (by decide) ?_
  refine va_put (D := (dC, dI)) (ci := ciM) (v := .int (nI (0))) (ty := .int) (C := R_M) (T := F_M) (N := 9) hx hb hts (fun w h => List.mem_cons_of_mem _ (in_M w h)) t_M t_M_ok n_M hown hK hP hD hS 0 rfl rfl 0 (by decide) (hts (.fieldLink R_M 27 "PeriodWordsModel" "thrown" "I") (List.mem_cons_of_mem _ mb_383)) (fun _ h9 => h9) rfl (by decide +kernel) rfl rfl (Nat.le_of_ble_eq_true rfl) d_M_at_2 (fun H locs hP hD hS => ?_)
  have hP : va_P (dC, dI) vwCl [(o, .inr (ciM, [.int (nI (0)), .int (nI (n)), .ref a1, .ref a2, .ref a3, .ref a4, .ref a5, .int (mo), .int (le)])), (a1, .inl (c1, 40, .inl xh)), (a2, .inl (c2, 40, .inl yr)), (a3, .inl (c3, 40, .inr (.inl xb))), (a4, .inl (c4, 40, .inr (.inl yb))), (a5, .inl (c5, 7400, .inl bs))] H := hP
  have hD : va_D A [(o, .inr (ciM, [.int (nI (0)), .int (nI (n)), .ref a1, .ref a2, .ref a3, .ref a4, .ref a5, .int (mo), .int (le)])), (a1, .inl (c1, 40, .inl xh)), (a2, .inl (c2, 40, .inl yr)), (a3, .inl (c3, 40, .inr (.inl xb))), (a4, .inl (c4, 40, .inr (.inl yb))), (a5, .inl (c5, 7400, .inl bs))] := hD
  refine lv_aload_n hx hb d_M_at_5 rfl (lv_at hl 0 rfl) ?_
  refine lv_iload_n hx hb d_M_at_6 rfl (lv_at hl 1 rfl) ?_
  refine vp_callSi (W.runV (As := [.int (x)]) (rest := []) ⟨hx, hb, hml, hown, hts⟩ (c_M_isWord l dC dI hn (x := x)) (cwV 1 hts (gd_V mb_436 mb_438 mb_5 mb_23 mb_439) rfl rfl rfl (by decide +kernel) ⟨Nat.le_of_ble_eq_true rfl, Nat.le_of_ble_eq_true rfl⟩) (pw_R_V (va_recv hK hP (ci := ciM) (q0 := 0) rfl rfl) hP hK) rfl rfl hl.1 rfl (lv_room (Nat.le_of_ble_eq_true rfl)) d_M_at_7 ⟨Nat.le_of_ble_eq_true rfl, Nat.le_of_ble_eq_true rfl⟩) (fun r_7 hr_7 => ?_)
  rcases hr_7 with ⟨hre, i1, hi1, hx1⟩ | ⟨hre, hno1⟩
  · subst hre
    rw [hx1] at hl
    have hmd1 := hall i1 hi1
    have hmd1_ := hmd1; obtain ⟨hj1, e11, e21, e31, e41, hok1⟩ := hmd1_; have hok1_ := hok1; obtain ⟨hh1, hp01, hp61, hE1⟩ := hok1_
    have ho1 := pw_o_le (Wd i1).2.2 (Wd i1).1 (Wd i1).2.1
    have hc1 := pw_c_le (Wd i1).2.2 (Wd i1).1
    have hb01 := pq_lt60 (pw_b_lt (Wd i1).2.2 0 (Wd i1).1) hh1
    have hb11 := pq_lt60 (pw_b_lt (Wd i1).2.2 (Wd i1).1 (Wd i1).2.1) hp61
    refine pq_if_eq (tgt := 23) (a := 1) hx hb d_M_at_10 (by decide) (by omega) (fun c_10 => absurd c_10 (by omega)) (fun c_10 => ?_)
    refine lv_iload_n hx hb d_M_at_13 rfl (lv_at hl 2 rfl) ?_
    refine lv_iconst (v := nI 1) hx hb d_M_at_14 (by decide) ?_
    refine lv_ldc (v := nI 1000000) hx hb hown (hts (.constant R_M 94 (nI 1000000)) (List.mem_cons_of_mem _ mb_506)) d_M_at_15 ?_
    refine vp_callSi (W.runS (As := [.int (y), .int (nI (1)), .int (nI (1000000))]) (rest := []) ⟨hx, hb, hml, hown, hts⟩ (c_M_in l dC dI (x := y) (lo := nI 1) (hi := nI 1000000)) (va_cwS 3 hts (gd_S mb_421 mb_422 mb_23 mb_423) rfl rfl rfl (by decide +kernel) ⟨Nat.le_of_ble_eq_true rfl, Nat.le_of_ble_eq_true rfl⟩) (pw_R_S pw_P0 (hK.sub [] rfl)) rfl rfl hl.1 rfl (lv_room (Nat.le_of_ble_eq_true rfl)) d_M_at_17 ⟨Nat.le_of_ble_eq_true rfl, Nat.le_of_ble_eq_true rfl⟩) (fun r_17 hr_17 => ?_)
    rcases hr_17 with ⟨hre, hlo, hhi⟩ | ⟨hre, hnin⟩
    · subst hre
      obtain ⟨j, hj, hyj⟩ := nI_of2 (x := y) (M := nI 1000000) (n := 1000000) (by decide) (fun z => hlo (pq_lt1 z)) (pq_not_lt hhi)
      have hj0 : 0 < j := by
        rcases Nat.eq_zero_or_pos j with z | z
        · exfalso; apply hlo; rw [hyj, z]; decide
        · exact z
      rw [hyj] at hl
      refine pq_if_ne (tgt := 28) (a := 1) hx hb d_M_at_20 (by decide) (by omega) (fun c_20 => ?_) (fun c_20 => absurd c_20 (by omega))
      refine lv_aload_n hx hb d_M_at_28 rfl (lv_at hl 0 rfl) ?_
      refine lv_iload_n hx hb d_M_at_29 rfl (lv_at hl 1 rfl) ?_
      refine lv_iload_n hx hb d_M_at_30 rfl (lv_at hl 2 rfl) ?_
      refine vp_callSi (W.runV (As := [.int (nI (i1)), .int (nI (j))]) (rest := []) ⟨hx, hb, hml, hown, hts⟩ (c_M_place l dC dI hmd1 (k := j) hj0 (by omega)) (cwV 2 hts (gd_V mb_507 mb_509 mb_16 mb_23 mb_510) rfl rfl rfl (by decide +kernel) ⟨Nat.le_of_ble_eq_true rfl, Nat.le_of_ble_eq_true rfl⟩) (pw_R_V (va_recv hK hP (ci := ciM) (q0 := 0) rfl rfl) hP hK) rfl rfl hl.1 rfl (lv_room (Nat.le_of_ble_eq_true rfl)) d_M_at_31 ⟨Nat.le_of_ble_eq_true rfl, Nat.le_of_ble_eq_true rfl⟩) (fun r_31 hr_31 => ?_)
      rcases Classical.em (0 < pw_o (Wd i1).2.2 (Wd i1).1 (Wd i1).2.1 ∨ j ≤ pw_c (Wd i1).2.2 (Wd i1).1) with hex | hex
      · have hre := hr_31.1 hex
        subst hre
        have htb := pw_tk_le hE1 hp01 hj0 hex
        have htc : j * (Wd i1).2.1 ≤ 1000000 * 60 := Nat.mul_le_mul hj hp61
        refine lv_istore_n (lv' := [(3, .int (nI (pw_tk (Wd i1).2.2 j))), (0, .ref o), (1, .int (nI (i1))), (2, .int (nI (j)))]) hx hb d_M_at_34 rfl hl (by decide) rfl (fun ls hl => ?_)
        refine lv_iload_n hx hb d_M_at_35 rfl (lv_at hl 0 rfl) ?_
        refine lv_iconst (v := (-1)) hx hb d_M_at_36 (by decide) ?_
        refine lv_icmp_ne (tgt := 47) hx hb d_M_at_37 (by decide) (fun c_37 => ?_) (fun c_37 => absurd c_37 (pq_nm1 (by omega)))
        refine lv_iload_n hx hb d_M_at_47 rfl (lv_at hl 0 rfl) ?_
        exact W.iret (v := (nI (pw_tk (Wd i1).2.2 j))) hx hb hr (fun t_ ht_ hW_ => ⟨⟨_, (nI (0), n, mo, le, xh, yr, xb, yb, bs), rfl, Or.inl ⟨⟨i1, j, ⟨hi1, hx1, hj0, hj, hyj, hex⟩, rfl⟩, rfl⟩, by rw [ht_]; exact hP, va_K.moved hW_.alike hK, hD⟩, hS.F ht_⟩) hS.2.2 d_M_at_48
      · have hre := hr_31.2 hex
        subst hre
        refine lv_istore_n (lv' := [(3, .int (-1)), (0, .ref o), (1, .int (nI (i1))), (2, .int (nI (j)))]) hx hb d_M_at_34 rfl hl (by decide) rfl (fun ls hl => ?_)
        refine lv_iload_n hx hb d_M_at_35 rfl (lv_at hl 0 rfl) ?_
        refine lv_iconst (v := (-1)) hx hb d_M_at_36 (by decide) ?_
        refine lv_icmp_ne (tgt := 47) hx hb d_M_at_37 (by decide) (fun c_37 => absurd c_37 (fun z => z rfl)) (fun c_37 => ?_)
        refine lv_aload_n hx hb d_M_at_40 rfl (lv_at hl 1 rfl) ?_
        have hFc := va_free (wc := [(o, .inr (ciM, [.int (nI (0)), .int (nI (n)), .ref a1, .ref a2, .ref a3, .ref a4, .ref a5, .int (mo), .int (le)])), (a1, .inl (c1, 40, .inl xh)), (a2, .inl (c2, 40, .inl yr)), (a3, .inl (c3, 40, .inr (.inl xb))), (a4, .inl (c4, 40, .inr (.inl yb))), (a5, .inl (c5, 7400, .inl bs))]) hD hS hA [0, 1, 2, 3, 4, 5] rfl
        refine va_calli (va_runV (As := []) (rest := []) ⟨hx, hb, hml, hown, hts⟩ (c_M_raise l dC dI) (cwV 0 hts (gd_V mb_447 mb_449 mb_7 mb_23 mb_450) rfl rfl rfl (by decide +kernel) ⟨Nat.le_of_ble_eq_true rfl, Nat.le_of_ble_eq_true rfl⟩) ⟨md_blind, va_recv hK hP (ci := ciM) (q0 := 0) rfl rfl, fun U hU hW => ⟨rfl, by rw [hU], by rw [hU]; exact hP, va_K.moved hW.alike hK, hD.weaken (fun _ _ _ _ => trivial)⟩⟩ rfl rfl hl.1 rfl (lv_room (Nat.le_of_ble_eq_true rfl)) d_M_at_41 ⟨Nat.le_of_ble_eq_true rfl, Nat.le_of_ble_eq_true rfl⟩) hS (fun q _ h => hFc q h) hFc (fun r_41 u_41 t_ H1 locs ht_ hvm_ hr_41 hB_ hz1_ hk1_ hS => ?_)
        obtain ⟨hP1_, hK1_, hD1_⟩ := hB_
        rw [ht_] at hP1_
        clear hP hD
        have hP := hP1_
        have hD := hD1_.weaken (fun k q _ h => hFc q.1 h)
        generalize H1 = H at hP hS ⊢
        have hP : va_P (dC, dI) vwCl [(o, .inr (ciM, [.int (u_41.1), .int (nI (u_41.2.1)), .ref a1, .ref a2, .ref a3, .ref a4, .ref a5, .int (u_41.2.2.1), .int (u_41.2.2.2.1)])), (a1, .inl (c1, 40, .inl u_41.2.2.2.2.1)), (a2, .inl (c2, 40, .inl u_41.2.2.2.2.2.1)), (a3, .inl (c3, 40, .inr (.inl u_41.2.2.2.2.2.2.1))), (a4, .inl (c4, 40, .inr (.inl u_41.2.2.2.2.2.2.2.1))), (a5, .inl (c5, 7400, .inl u_41.2.2.2.2.2.2.2.2))] H := hP
        have hD : va_D A [(o, .inr (ciM, [.int (u_41.1), .int (nI (u_41.2.1)), .ref a1, .ref a2, .ref a3, .ref a4, .ref a5, .int (u_41.2.2.1), .int (u_41.2.2.2.1)])), (a1, .inl (c1, 40, .inl u_41.2.2.2.2.1)), (a2, .inl (c2, 40, .inl u_41.2.2.2.2.2.1)), (a3, .inl (c3, 40, .inr (.inl u_41.2.2.2.2.2.2.1))), (a4, .inl (c4, 40, .inr (.inl u_41.2.2.2.2.2.2.2.1))), (a5, .inl (c5, 7400, .inl u_41.2.2.2.2.2.2.2.2))] := hD
        refine lv_goto (tgt := 48) hx hb d_M_at_44 (by decide) ?_
        exact W.iret (v := (r_41)) hx hb hr (fun t_ ht_ hW_ => ⟨⟨_, u_41, rfl, Or.inr ⟨sp_at_no hn hi1 hx1 hj hyj hex, hr_41.2⟩, by rw [ht_]; exact hP, va_K.moved hW_.alike hK, hD⟩, hS.F ht_⟩) hS.2.2 d_M_at_48
    · subst hre
      refine pq_if_ne (tgt := 28) (a := 0) hx hb d_M_at_20 (by decide) (by omega) (fun c_20 => absurd c_20 (by omega)) (fun c_20 => ?_)
      refine lv_aload_n hx hb d_M_at_23 rfl (lv_at hl 0 rfl) ?_
      have hFc := va_free (wc := [(o, .inr (ciM, [.int (nI (0)), .int (nI (n)), .ref a1, .ref a2, .ref a3, .ref a4, .ref a5, .int (mo), .int (le)])), (a1, .inl (c1, 40, .inl xh)), (a2, .inl (c2, 40, .inl yr)), (a3, .inl (c3, 40, .inr (.inl xb))), (a4, .inl (c4, 40, .inr (.inl yb))), (a5, .inl (c5, 7400, .inl bs))]) hD hS hA [0, 1, 2, 3, 4, 5] rfl
      refine va_calli (va_runV (As := []) (rest := []) ⟨hx, hb, hml, hown, hts⟩ (c_M_raise l dC dI) (cwV 0 hts (gd_V mb_447 mb_449 mb_7 mb_23 mb_450) rfl rfl rfl (by decide +kernel) ⟨Nat.le_of_ble_eq_true rfl, Nat.le_of_ble_eq_true rfl⟩) ⟨md_blind, va_recv hK hP (ci := ciM) (q0 := 0) rfl rfl, fun U hU hW => ⟨rfl, by rw [hU], by rw [hU]; exact hP, va_K.moved hW.alike hK, hD.weaken (fun _ _ _ _ => trivial)⟩⟩ rfl rfl hl.1 rfl (lv_room (Nat.le_of_ble_eq_true rfl)) d_M_at_24 ⟨Nat.le_of_ble_eq_true rfl, Nat.le_of_ble_eq_true rfl⟩) hS (fun q _ h => hFc q h) hFc (fun r_24 u_24 t_ H1 locs ht_ hvm_ hr_24 hB_ hz1_ hk1_ hS => ?_)
      obtain ⟨hP1_, hK1_, hD1_⟩ := hB_
      rw [ht_] at hP1_
      clear hP hD
      have hP := hP1_
      have hD := hD1_.weaken (fun k q _ h => hFc q.1 h)
      generalize H1 = H at hP hS ⊢
      have hP : va_P (dC, dI) vwCl [(o, .inr (ciM, [.int (u_24.1), .int (nI (u_24.2.1)), .ref a1, .ref a2, .ref a3, .ref a4, .ref a5, .int (u_24.2.2.1), .int (u_24.2.2.2.1)])), (a1, .inl (c1, 40, .inl u_24.2.2.2.2.1)), (a2, .inl (c2, 40, .inl u_24.2.2.2.2.2.1)), (a3, .inl (c3, 40, .inr (.inl u_24.2.2.2.2.2.2.1))), (a4, .inl (c4, 40, .inr (.inl u_24.2.2.2.2.2.2.2.1))), (a5, .inl (c5, 7400, .inl u_24.2.2.2.2.2.2.2.2))] H := hP
      have hD : va_D A [(o, .inr (ciM, [.int (u_24.1), .int (nI (u_24.2.1)), .ref a1, .ref a2, .ref a3, .ref a4, .ref a5, .int (u_24.2.2.1), .int (u_24.2.2.2.1)])), (a1, .inl (c1, 40, .inl u_24.2.2.2.2.1)), (a2, .inl (c2, 40, .inl u_24.2.2.2.2.2.1)), (a3, .inl (c3, 40, .inr (.inl u_24.2.2.2.2.2.2.1))), (a4, .inl (c4, 40, .inr (.inl u_24.2.2.2.2.2.2.2.1))), (a5, .inl (c5, 7400, .inl u_24.2.2.2.2.2.2.2.2))] := hD
      exact W.iret (v := (r_24)) hx hb hr (fun t_ ht_ hW_ => ⟨⟨_, u_24, rfl, Or.inr ⟨fun ⟨i, j, hi, e, h0, hj, e2, hh⟩ => hnin (by rw [e2]; exact ⟨nI_nlt h0 (by omega), nI_nlt hj (by decide)⟩), hr_24.2⟩, by rw [ht_]; exact hP, va_K.moved hW_.alike hK, hD⟩, hS.F ht_⟩) hS.2.2 d_M_at_27
  · subst hre
    refine pq_if_eq (tgt := 23) (a := 0) hx hb d_M_at_10 (by decide) (by omega) (fun c_10 => ?_) (fun c_10 => absurd c_10 (by omega))
    refine lv_aload_n hx hb d_M_at_23 rfl (lv_at hl 0 rfl) ?_
    have hFc := va_free (wc := [(o, .inr (ciM, [.int (nI (0)), .int (nI (n)), .ref a1, .ref a2, .ref a3, .ref a4, .ref a5, .int (mo), .int (le)])), (a1, .inl (c1, 40, .inl xh)), (a2, .inl (c2, 40, .inl yr)), (a3, .inl (c3, 40, .inr (.inl xb))), (a4, .inl (c4, 40, .inr (.inl yb))), (a5, .inl (c5, 7400, .inl bs))]) hD hS hA [0, 1, 2, 3, 4, 5] rfl
    refine va_calli (va_runV (As := []) (rest := []) ⟨hx, hb, hml, hown, hts⟩ (c_M_raise l dC dI) (cwV 0 hts (gd_V mb_447 mb_449 mb_7 mb_23 mb_450) rfl rfl rfl (by decide +kernel) ⟨Nat.le_of_ble_eq_true rfl, Nat.le_of_ble_eq_true rfl⟩) ⟨md_blind, va_recv hK hP (ci := ciM) (q0 := 0) rfl rfl, fun U hU hW => ⟨rfl, by rw [hU], by rw [hU]; exact hP, va_K.moved hW.alike hK, hD.weaken (fun _ _ _ _ => trivial)⟩⟩ rfl rfl hl.1 rfl (lv_room (Nat.le_of_ble_eq_true rfl)) d_M_at_24 ⟨Nat.le_of_ble_eq_true rfl, Nat.le_of_ble_eq_true rfl⟩) hS (fun q _ h => hFc q h) hFc (fun r_24 u_24 t_ H1 locs ht_ hvm_ hr_24 hB_ hz1_ hk1_ hS => ?_)
    obtain ⟨hP1_, hK1_, hD1_⟩ := hB_
    rw [ht_] at hP1_
    clear hP hD
    have hP := hP1_
    have hD := hD1_.weaken (fun k q _ h => hFc q.1 h)
    generalize H1 = H at hP hS ⊢
    have hP : va_P (dC, dI) vwCl [(o, .inr (ciM, [.int (u_24.1), .int (nI (u_24.2.1)), .ref a1, .ref a2, .ref a3, .ref a4, .ref a5, .int (u_24.2.2.1), .int (u_24.2.2.2.1)])), (a1, .inl (c1, 40, .inl u_24.2.2.2.2.1)), (a2, .inl (c2, 40, .inl u_24.2.2.2.2.2.1)), (a3, .inl (c3, 40, .inr (.inl u_24.2.2.2.2.2.2.1))), (a4, .inl (c4, 40, .inr (.inl u_24.2.2.2.2.2.2.2.1))), (a5, .inl (c5, 7400, .inl u_24.2.2.2.2.2.2.2.2))] H := hP
    have hD : va_D A [(o, .inr (ciM, [.int (u_24.1), .int (nI (u_24.2.1)), .ref a1, .ref a2, .ref a3, .ref a4, .ref a5, .int (u_24.2.2.1), .int (u_24.2.2.2.1)])), (a1, .inl (c1, 40, .inl u_24.2.2.2.2.1)), (a2, .inl (c2, 40, .inl u_24.2.2.2.2.2.1)), (a3, .inl (c3, 40, .inr (.inl u_24.2.2.2.2.2.2.1))), (a4, .inl (c4, 40, .inr (.inl u_24.2.2.2.2.2.2.2.1))), (a5, .inl (c5, 7400, .inl u_24.2.2.2.2.2.2.2.2))] := hD
    exact W.iret (v := (r_24)) hx hb hr (fun t_ ht_ hW_ => ⟨⟨_, u_24, rfl, Or.inr ⟨fun ⟨i, j, hi, e, h0, hj, e2, hh⟩ => hno1 ⟨i, hi, e⟩, hr_24.2⟩, by rw [ht_]; exact hP, va_K.moved hW_.alike hK, hD⟩, hS.F ht_⟩) hS.2.2 d_M_at_27
set_option maxHeartbeats 4000000 in
set_option maxRecDepth 100000 in
theorem c_M_keep (l : Launch) (dC : Nat → ClassId) (dI : Nat → Nat → Nat) {sz : Nat} {o a1 a2 a3 a4 a5 : Nat} {c1 c2 c3 c4 c5 : ClassId} {th mo le : Int32} {n : Nat} {xh yr : Nat → Int32} {xb yb : Nat → Int64} {bs : Nat → Int32} {i h pp : Nat} {f : Nat → Bool} (hmd : md_at xh yr xb yb i h pp f) {i2 h2 pp2 : Nat} {f2 : Nat → Bool} (hmd2 : md_at xh yr xb yb i2 h2 pp2 f2) : Met l y_M_keep ws_M_keep ({ frames := 2, cells := 0, slots := 0, locals := 43 } : Room) (md_Pre [.ref o, .int (nI (i)), .int (nI (i2))] dC dI sz (mdT c1 c2 c3 c4 c5) (md o a1 a2 a3 a4 a5 c1 c2 c3 c4 c5 th n mo le xh yr xb yb bs)) (va_Qv (fun u => u = (th, n, nI (pw_ks f f2 (max h h2 + pp * pp2)), nI 0 - nI (pw_ks f2 f (max h h2 + pp * pp2)), xh, yr, xb, yb, bs)) (md_B dC dI (va_A (md o a1 a2 a3 a4 a5 c1 c2 c3 c4 c5 th n mo le xh yr xb yb bs) sz) o a1 a2 a3 a4 a5 c1 c2 c3 c4 c5) (va_A (md o a1 a2 a3 a4 a5 c1 c2 c3 c4 c5 th n mo le xh yr xb yb bs) sz)) 0 0 (va_A (md o a1 a2 a3 a4 a5 c1 c2 c3 c4 c5 th n mo le xh yr xb yb bs) sz) := by
  refine Met.ofW (cc := b_M_keep) (maxL := 5) (ret := none) (by decide) rfl ?_
  intro p e s m args below meth c s₁ B hml hv
  obtain ⟨rfl, hsz, hP, hK, hD0⟩ := hv
  have hx := B.exec
  have hb := B.bytes
  have hr := B.returns
  have hts := atoms_spec (ws := ws_M_keep) B.pre
  have hown : s.vm.findClass R_M = some m.cls := findClass_of_methodNamed B.named
  have hlocks := B.notSynchronized
  subst hsz
  have hD := hD0.self (sz := s.heap.size)
  generalize hAe : va_A (md o a1 a2 a3 a4 a5 c1 c2 c3 c4 c5 th n mo le xh yr xb yb bs) s.heap.size = A at hD ⊢
  have hA : ∀ q : Nat, s.heap.size ≤ q → A q := fun q h => by rw [← hAe]; exact Or.inr h
  have hS : va_S A s.heap s.heap [] := va_S.rf
  have hmd_ := hmd; obtain ⟨hi, e1, e2, e3, e4, hok⟩ := hmd_; have hok_ := hok; obtain ⟨hh, hp0, hp6, hE⟩ := hok_
  have ho := pw_o_le f h pp
  have hc := pw_c_le f h
  have hb0 := pq_lt60 (pw_b_lt f 0 h) hh
  have hb1 := pq_lt60 (pw_b_lt f h pp) hp6
  have hmd2_ := hmd2; obtain ⟨hi2, e12, e22, e32, e42, hok2⟩ := hmd2_; have hok2_ := hok2; obtain ⟨hh2, hp02, hp62, hE2⟩ := hok2_
  have ho2 := pw_o_le f2 h2 pp2
  have hc2 := pw_c_le f2 h2
  have hb02 := pq_lt60 (pw_b_lt f2 0 h2) hh2
  have hb12 := pq_lt60 (pw_b_lt f2 h2 pp2) hp62
  have mm : pp * pp2 ≤ 60 * 60 := Nat.mul_le_mul hp6 hp62
  have hl := lv_entry ([.ref o, .int (nI (i)), .int (nI (i2))]) (n := 5) (Nat.le_of_ble_eq_true rfl)
  rw [lg_entry_eq]
  generalize (lg_sl ([.ref o, .int (nI (i)), .int (nI (i2))]) ++ List.replicate (5 - (lg_sl ([.ref o, .int (nI (i)), .int (nI (i2))])).length) Slot.unset).toArray = ls at hl ⊢
  have hl : lv_has ls 5 [(0, .ref o), (1, .int (nI (i))), (2, .int (nI (i2)))] := hl
  refine lv_aload_n hx hb d_M_keep_0 rfl (lv_at hl 0 rfl) ?_
  refine lv_iconst (v := nI 0) hx hb d_M_keep_1 (by decide) ?_
  refine va_put (D := (dC, dI)) (ci := ciM) (v := .int (nI (0))) (ty := .int) (C := R_M) (T := F_M) (N := 9) hx hb hts (fun w h => List.mem_cons_of_mem _ (in_M w h)) t_M t_M_ok n_M hown hK hP hD hS 0 rfl rfl 7 (by decide) (hts (.fieldLink R_M 98 "PeriodWordsModel" "most" "I") (List.mem_cons_of_mem _ mb_390)) (fun _ h9 => h9) rfl (by decide +kernel) rfl rfl (Nat.le_of_ble_eq_true rfl) d_M_keep_2 (fun H locs hP hD hS => ?_)
  have hP : va_P (dC, dI) vwCl [(o, .inr (ciM, [.int (th), .int (nI (n)), .ref a1, .ref a2, .ref a3, .ref a4, .ref a5, .int (nI (0)), .int (le)])), (a1, .inl (c1, 40, .inl xh)), (a2, .inl (c2, 40, .inl yr)), (a3, .inl (c3, 40, .inr (.inl xb))), (a4, .inl (c4, 40, .inr (.inl yb))), (a5, .inl (c5, 7400, .inl bs))] H := hP
  have hD : va_D A [(o, .inr (ciM, [.int (th), .int (nI (n)), .ref a1, .ref a2, .ref a3, .ref a4, .ref a5, .int (nI (0)), .int (le)])), (a1, .inl (c1, 40, .inl xh)), (a2, .inl (c2, 40, .inl yr)), (a3, .inl (c3, 40, .inr (.inl xb))), (a4, .inl (c4, 40, .inr (.inl yb))), (a5, .inl (c5, 7400, .inl bs))] := hD
  refine lv_aload_n hx hb d_M_keep_5 rfl (lv_at hl 0 rfl) ?_
  refine lv_iconst (v := nI 0) hx hb d_M_keep_6 (by decide) ?_
  refine pq_top (y := .int (nI 0 - nI (0))) (by decide) ?_
  refine va_put (D := (dC, dI)) (ci := ciM) (v := .int (nI 0 - nI (0))) (ty := .int) (C := R_M) (T := F_M) (N := 9) hx hb hts (fun w h => List.mem_cons_of_mem _ (in_M w h)) t_M t_M_ok n_M hown hK hP hD hS 0 rfl rfl 8 (by decide) (hts (.fieldLink R_M 101 "PeriodWordsModel" "least" "I") (List.mem_cons_of_mem _ mb_391)) (fun _ h9 => h9) rfl (by decide +kernel) rfl rfl (Nat.le_of_ble_eq_true rfl) d_M_keep_7 (fun H locs hP hD hS => ?_)
  have hP : va_P (dC, dI) vwCl [(o, .inr (ciM, [.int (th), .int (nI (n)), .ref a1, .ref a2, .ref a3, .ref a4, .ref a5, .int (nI (0)), .int (nI 0 - nI (0))])), (a1, .inl (c1, 40, .inl xh)), (a2, .inl (c2, 40, .inl yr)), (a3, .inl (c3, 40, .inr (.inl xb))), (a4, .inl (c4, 40, .inr (.inl yb))), (a5, .inl (c5, 7400, .inl bs))] H := hP
  have hD : va_D A [(o, .inr (ciM, [.int (th), .int (nI (n)), .ref a1, .ref a2, .ref a3, .ref a4, .ref a5, .int (nI (0)), .int (nI 0 - nI (0))])), (a1, .inl (c1, 40, .inl xh)), (a2, .inl (c2, 40, .inl yr)), (a3, .inl (c3, 40, .inr (.inl xb))), (a4, .inl (c4, 40, .inr (.inl yb))), (a5, .inl (c5, 7400, .inl bs))] := hD
  refine lv_iconst (v := nI 0) hx hb d_M_keep_10 (by decide) ?_
  refine lv_istore_n (lv' := [(3, .int (nI (0))), (0, .ref o), (1, .int (nI (i))), (2, .int (nI (i2)))]) hx hb d_M_keep_11 rfl hl (by decide) rfl (fun ls hl => ?_)
  refine lv_iconst (v := nI 0) hx hb d_M_keep_12 (by decide) ?_
  refine lv_istore (lv' := [(4, .int (nI (0))), (3, .int (nI (0))), (0, .ref o), (1, .int (nI (i))), (2, .int (nI (i2)))]) hx hb d_M_keep_13 hl (by decide) rfl (fun ls hl => ?_)
  have B_15 : ∀ (k_ : Nat) (kept : Int32) (mo2 : Nat) (le2 : Nat) (t : Nat) (H : Heap) (locs : List Loc) (ls : Array Slot), (max h h2 + pp * pp2 - t) < k_ → (t ≤ max h h2 + pp * pp2) → (kept = nI (pw_c f t) - nI (pw_c f2 t)) → (mo2 = pw_ks f f2 t) → (le2 = pw_ks f2 f t) → (mo2 ≤ t) → (le2 ≤ t) → (va_P (dC, dI) vwCl [(o, .inr (ciM, [.int (th), .int (nI (n)), .ref a1, .ref a2, .ref a3, .ref a4, .ref a5, .int (nI (mo2)), .int (nI 0 - nI (le2))])), (a1, .inl (c1, 40, .inl xh)), (a2, .inl (c2, 40, .inl yr)), (a3, .inl (c3, 40, .inr (.inl xb))), (a4, .inl (c4, 40, .inr (.inl yb))), (a5, .inl (c5, 7400, .inl bs))] H) → (va_D A [(o, .inr (ciM, [.int (th), .int (nI (n)), .ref a1, .ref a2, .ref a3, .ref a4, .ref a5, .int (nI (mo2)), .int (nI 0 - nI (le2))])), (a1, .inl (c1, 40, .inl xh)), (a2, .inl (c2, 40, .inl yr)), (a3, .inl (c3, 40, .inr (.inl xb))), (a4, .inl (c4, 40, .inr (.inl yb))), (a5, .inl (c5, 7400, .inl bs))]) → (va_S A s.heap H locs) → lv_has ls 5 [(0, .ref o), (1, .int (nI (i))), (2, .int (nI (i2))), (3, .int (kept)), (4, .int (nI (t)))] → W p l e (headSpec ws_M_keep ({ frames := 2, cells := 0, slots := 0, locals := 43 } : Room)).room s m ([.ref o, .int (nI (i)), .int (nI (i2))]).toArray below meth c H locs 0 0 (MQ below (va_Qv (fun u => u = (th, n, nI (pw_ks f f2 (max h h2 + pp * pp2)), nI 0 - nI (pw_ks f2 f (max h h2 + pp * pp2)), xh, yr, xb, yb, bs)) (md_B dC dI A o a1 a2 a3 a4 a5 c1 c2 c3 c4 c5) A) ([.ref o, .int (nI (i)), .int (nI (i2))]).toArray s 0 0 A) (F0 m 15 ls []) := by
    intro k_
    induction k_ with
    | zero => intro kept mo2 le2 t H locs ls h_; omega
    | succ k_ ih_15 =>
      intro kept mo2 le2 t H locs ls hm_ ht hk hm hl2 hm2 hl3 hP hD hS hl
      refine lv_iload hx hb d_M_keep_15 (lv_at hl 4 rfl) ?_
      refine lv_aload_n hx hb d_M_keep_17 rfl (lv_at hl 0 rfl) ?_
      refine lv_iload_n hx hb d_M_keep_18 rfl (lv_at hl 1 rfl) ?_
      refine lv_iload_n hx hb d_M_keep_19 rfl (lv_at hl 2 rfl) ?_
      refine vp_callSi (W.runV (As := [.int (nI (i)), .int (nI (i2))]) (rest := [.int (nI (t))]) ⟨hx, hb, hml, hown, hts⟩ (c_M_till l dC dI hmd hmd2) (cwV 2 hts (gd_V mb_527 mb_529 mb_19 mb_23 mb_530) rfl rfl rfl (by decide +kernel) ⟨Nat.le_of_ble_eq_true rfl, Nat.le_of_ble_eq_true rfl⟩) (pw_R_V (va_recv hK hP (ci := ciM) (q0 := 0) rfl rfl) hP hK) rfl rfl hl.1 rfl (lv_room (Nat.le_of_ble_eq_true rfl)) d_M_keep_20 ⟨Nat.le_of_ble_eq_true rfl, Nat.le_of_ble_eq_true rfl⟩) (fun r_20 hr_20 => ?_)
      subst hr_20
      refine pq_icmp_ge (tgt := 106) (a := t) (b := (max h h2 + pp * pp2)) hx hb d_M_keep_23 (by decide) (by omega) (by omega) (fun c_23 => ?_) (fun c_23 => ?_)
      · exact W.vret hx hb hr (fun t_ ht_ hW_ => ⟨⟨(th, n, nI (mo2), nI 0 - nI (le2), xh, yr, xb, yb, bs), rfl, by (try dsimp only); rw [hm, hl2, show t = max h h2 + pp * pp2 by omega], by rw [ht_]; exact hP, va_K.moved hW_.alike hK, hD⟩, hS.F ht_⟩) hS.2.2 d_M_keep_106
      · have q1 := pw_c_le f (t + 1)
        have q2 := pw_c_le f2 (t + 1)
        have B_57 : ∀ (xx : Nat) (yy : Nat) (H : Heap) (locs : List Loc) (ls : Array Slot), (xx = (f t).toNat) → (yy = (f2 t).toNat) → (va_P (dC, dI) vwCl [(o, .inr (ciM, [.int (th), .int (nI (n)), .ref a1, .ref a2, .ref a3, .ref a4, .ref a5, .int (nI (mo2)), .int (nI 0 - nI (le2))])), (a1, .inl (c1, 40, .inl xh)), (a2, .inl (c2, 40, .inl yr)), (a3, .inl (c3, 40, .inr (.inl xb))), (a4, .inl (c4, 40, .inr (.inl yb))), (a5, .inl (c5, 7400, .inl bs))] H) → (va_D A [(o, .inr (ciM, [.int (th), .int (nI (n)), .ref a1, .ref a2, .ref a3, .ref a4, .ref a5, .int (nI (mo2)), .int (nI 0 - nI (le2))])), (a1, .inl (c1, 40, .inl xh)), (a2, .inl (c2, 40, .inl yr)), (a3, .inl (c3, 40, .inr (.inl xb))), (a4, .inl (c4, 40, .inr (.inl yb))), (a5, .inl (c5, 7400, .inl bs))]) → (va_S A s.heap H locs) → lv_has ls 5 [(0, .ref o), (1, .int (nI (i))), (2, .int (nI (i2))), (3, .int (kept)), (4, .int (nI (t)))] → W p l e (headSpec ws_M_keep ({ frames := 2, cells := 0, slots := 0, locals := 43 } : Room)).room s m ([.ref o, .int (nI (i)), .int (nI (i2))]).toArray below meth c H locs 0 0 (MQ below (va_Qv (fun u => u = (th, n, nI (pw_ks f f2 (max h h2 + pp * pp2)), nI 0 - nI (pw_ks f2 f (max h h2 + pp * pp2)), xh, yr, xb, yb, bs)) (md_B dC dI A o a1 a2 a3 a4 a5 c1 c2 c3 c4 c5) A) ([.ref o, .int (nI (i)), .int (nI (i2))]).toArray s 0 0 A) (F0 m 57 ls [.int (nI (yy)), .int (nI (xx)), .int (kept)]) := by
          intro xx yy H locs ls hxx hyy hP hD hS hl
          refine lv_isub hx hb d_M_keep_57 ?_
          refine lv_topi (fun x_1 ex_1 => ?_)
          refine pq_top (y := .int (nI xx - nI yy)) (by rw [ex_1]) ?_
          refine lv_iadd hx hb d_M_keep_58 ?_
          refine lv_topi (fun x_2 ex_2 => ?_)
          refine pq_top (y := .int (nI (pw_c f (t + 1)) - nI (pw_c f2 (t + 1)))) (by rw [ex_2, hk, hxx, hyy, pq_kept]; rfl) ?_
          refine lv_istore_n (lv' := [(3, .int (nI (pw_c f (t + 1)) - nI (pw_c f2 (t + 1)))), (0, .ref o), (1, .int (nI (i))), (2, .int (nI (i2))), (4, .int (nI (t)))]) hx hb d_M_keep_59 rfl hl (by decide) rfl (fun ls hl => ?_)
          refine lv_aload_n hx hb d_M_keep_60 rfl (lv_at hl 1 rfl) ?_
          refine lv_iload_n hx hb d_M_keep_61 rfl (lv_at hl 0 rfl) ?_
          refine lv_aload_n hx hb d_M_keep_62 rfl (lv_at hl 1 rfl) ?_
          refine va_get (D := (dC, dI)) (ci := ciM) (v := .int (nI (mo2))) (C := R_M) (T := F_M) (N := 9) hx hb hts (fun w h => List.mem_cons_of_mem _ (in_M w h)) hown hK hP 0 rfl rfl 7 (by decide) (hts (.fieldLink R_M 98 "PeriodWordsModel" "most" "I") (List.mem_cons_of_mem _ mb_390)) (fun _ h9 => h9) rfl d_M_keep_63 ?_
          refine lv_icmp_le (tgt := 73) hx hb d_M_keep_66 (by decide) (fun c_66 => ?_) (fun c_66 => ?_)
          · refine lv_aload_n hx hb d_M_keep_73 rfl (lv_at hl 1 rfl) ?_
            refine va_get (D := (dC, dI)) (ci := ciM) (v := .int (nI (mo2))) (C := R_M) (T := F_M) (N := 9) hx hb hts (fun w h => List.mem_cons_of_mem _ (in_M w h)) hown hK hP 0 rfl rfl 7 (by decide) (hts (.fieldLink R_M 98 "PeriodWordsModel" "most" "I") (List.mem_cons_of_mem _ mb_390)) (fun _ h9 => h9) rfl d_M_keep_74 ?_
            refine pq_top (y := .int (nI (max mo2 (pw_c f (t + 1) - pw_c f2 (t + 1))))) (by rw [← pq_mx2 (by omega) (by omega) (by omega) c_66]) ?_
            refine va_put (D := (dC, dI)) (ci := ciM) (v := .int (nI (max mo2 (pw_c f (t + 1) - pw_c f2 (t + 1))))) (ty := .int) (C := R_M) (T := F_M) (N := 9) hx hb hts (fun w h => List.mem_cons_of_mem _ (in_M w h)) t_M t_M_ok n_M hown hK hP hD hS 0 rfl rfl 7 (by decide) (hts (.fieldLink R_M 98 "PeriodWordsModel" "most" "I") (List.mem_cons_of_mem _ mb_390)) (fun _ h9 => h9) rfl (by decide +kernel) rfl rfl (Nat.le_of_ble_eq_true rfl) d_M_keep_77 (fun H locs hP hD hS => ?_)
            have hP : va_P (dC, dI) vwCl [(o, .inr (ciM, [.int (th), .int (nI (n)), .ref a1, .ref a2, .ref a3, .ref a4, .ref a5, .int (nI (max mo2 (pw_c f (t + 1) - pw_c f2 (t + 1)))), .int (nI 0 - nI (le2))])), (a1, .inl (c1, 40, .inl xh)), (a2, .inl (c2, 40, .inl yr)), (a3, .inl (c3, 40, .inr (.inl xb))), (a4, .inl (c4, 40, .inr (.inl yb))), (a5, .inl (c5, 7400, .inl bs))] H := hP
            have hD : va_D A [(o, .inr (ciM, [.int (th), .int (nI (n)), .ref a1, .ref a2, .ref a3, .ref a4, .ref a5, .int (nI (max mo2 (pw_c f (t + 1) - pw_c f2 (t + 1)))), .int (nI 0 - nI (le2))])), (a1, .inl (c1, 40, .inl xh)), (a2, .inl (c2, 40, .inl yr)), (a3, .inl (c3, 40, .inr (.inl xb))), (a4, .inl (c4, 40, .inr (.inl yb))), (a5, .inl (c5, 7400, .inl bs))] := hD
            refine lv_aload_n hx hb d_M_keep_80 rfl (lv_at hl 1 rfl) ?_
            refine lv_iload_n hx hb d_M_keep_81 rfl (lv_at hl 0 rfl) ?_
            refine lv_aload_n hx hb d_M_keep_82 rfl (lv_at hl 1 rfl) ?_
            refine va_get (D := (dC, dI)) (ci := ciM) (v := .int (nI 0 - nI (le2))) (C := R_M) (T := F_M) (N := 9) hx hb hts (fun w h => List.mem_cons_of_mem _ (in_M w h)) hown hK hP 0 rfl rfl 8 (by decide) (hts (.fieldLink R_M 101 "PeriodWordsModel" "least" "I") (List.mem_cons_of_mem _ mb_391)) (fun _ h9 => h9) rfl d_M_keep_83 ?_
            refine lv_icmp_ge (tgt := 93) hx hb d_M_keep_86 (by decide) (fun c_86 => ?_) (fun c_86 => ?_)
            · refine lv_aload_n hx hb d_M_keep_93 rfl (lv_at hl 1 rfl) ?_
              refine va_get (D := (dC, dI)) (ci := ciM) (v := .int (nI 0 - nI (le2))) (C := R_M) (T := F_M) (N := 9) hx hb hts (fun w h => List.mem_cons_of_mem _ (in_M w h)) hown hK hP 0 rfl rfl 8 (by decide) (hts (.fieldLink R_M 101 "PeriodWordsModel" "least" "I") (List.mem_cons_of_mem _ mb_391)) (fun _ h9 => h9) rfl d_M_keep_94 ?_
              refine pq_top (y := .int (nI 0 - nI (max le2 (pw_c f2 (t + 1) - pw_c f (t + 1))))) (by rw [← pq_mn2 (by omega) (by omega) (by omega) c_86]) ?_
              refine va_put (D := (dC, dI)) (ci := ciM) (v := .int (nI 0 - nI (max le2 (pw_c f2 (t + 1) - pw_c f (t + 1))))) (ty := .int) (C := R_M) (T := F_M) (N := 9) hx hb hts (fun w h => List.mem_cons_of_mem _ (in_M w h)) t_M t_M_ok n_M hown hK hP hD hS 0 rfl rfl 8 (by decide) (hts (.fieldLink R_M 101 "PeriodWordsModel" "least" "I") (List.mem_cons_of_mem _ mb_391)) (fun _ h9 => h9) rfl (by decide +kernel) rfl rfl (Nat.le_of_ble_eq_true rfl) d_M_keep_97 (fun H locs hP hD hS => ?_)
              have hP : va_P (dC, dI) vwCl [(o, .inr (ciM, [.int (th), .int (nI (n)), .ref a1, .ref a2, .ref a3, .ref a4, .ref a5, .int (nI (max mo2 (pw_c f (t + 1) - pw_c f2 (t + 1)))), .int (nI 0 - nI (max le2 (pw_c f2 (t + 1) - pw_c f (t + 1))))])), (a1, .inl (c1, 40, .inl xh)), (a2, .inl (c2, 40, .inl yr)), (a3, .inl (c3, 40, .inr (.inl xb))), (a4, .inl (c4, 40, .inr (.inl yb))), (a5, .inl (c5, 7400, .inl bs))] H := hP
              have hD : va_D A [(o, .inr (ciM, [.int (th), .int (nI (n)), .ref a1, .ref a2, .ref a3, .ref a4, .ref a5, .int (nI (max mo2 (pw_c f (t + 1) - pw_c f2 (t + 1)))), .int (nI 0 - nI (max le2 (pw_c f2 (t + 1) - pw_c f (t + 1))))])), (a1, .inl (c1, 40, .inl xh)), (a2, .inl (c2, 40, .inl yr)), (a3, .inl (c3, 40, .inr (.inl xb))), (a4, .inl (c4, 40, .inr (.inl yb))), (a5, .inl (c5, 7400, .inl bs))] := hD
              refine lv_iinc (v := nI (t + 1)) (lv' := [(4, .int (nI (t + 1))), (3, .int (nI (pw_c f (t + 1)) - nI (pw_c f2 (t + 1)))), (0, .ref o), (1, .int (nI (i))), (2, .int (nI (i2)))]) hx hb d_M_keep_100 hl (k := 4) rfl (pq_inc _) (by decide) rfl (fun ls hl => ?_)
              refine lv_goto (tgt := 15) hx hb d_M_keep_103 (by decide) ?_
              exact ih_15 (nI (pw_c f (t + 1)) - nI (pw_c f2 (t + 1))) (max mo2 (pw_c f (t + 1) - pw_c f2 (t + 1))) (max le2 (pw_c f2 (t + 1) - pw_c f (t + 1))) (t + 1) _ _ ls (by omega) (by omega) rfl (by rw [hm, pw_ks_s]) (by rw [hl2, pw_ks_s]) (by omega) (by omega) hP hD hS (lv_sub hl [2, 3, 4, 1, 0] rfl)
            · refine lv_iload_n hx hb d_M_keep_89 rfl (lv_at hl 0 rfl) ?_
              refine pq_top (y := .int (nI 0 - nI (max le2 (pw_c f2 (t + 1) - pw_c f (t + 1))))) (by rw [pq_mn1 (by omega) (by omega) (by omega) c_86]) ?_
              refine lv_goto (tgt := 97) hx hb d_M_keep_90 (by decide) ?_
              refine va_put (D := (dC, dI)) (ci := ciM) (v := .int (nI 0 - nI (max le2 (pw_c f2 (t + 1) - pw_c f (t + 1))))) (ty := .int) (C := R_M) (T := F_M) (N := 9) hx hb hts (fun w h => List.mem_cons_of_mem _ (in_M w h)) t_M t_M_ok n_M hown hK hP hD hS 0 rfl rfl 8 (by decide) (hts (.fieldLink R_M 101 "PeriodWordsModel" "least" "I") (List.mem_cons_of_mem _ mb_391)) (fun _ h9 => h9) rfl (by decide +kernel) rfl rfl (Nat.le_of_ble_eq_true rfl) d_M_keep_97 (fun H locs hP hD hS => ?_)
              have hP : va_P (dC, dI) vwCl [(o, .inr (ciM, [.int (th), .int (nI (n)), .ref a1, .ref a2, .ref a3, .ref a4, .ref a5, .int (nI (max mo2 (pw_c f (t + 1) - pw_c f2 (t + 1)))), .int (nI 0 - nI (max le2 (pw_c f2 (t + 1) - pw_c f (t + 1))))])), (a1, .inl (c1, 40, .inl xh)), (a2, .inl (c2, 40, .inl yr)), (a3, .inl (c3, 40, .inr (.inl xb))), (a4, .inl (c4, 40, .inr (.inl yb))), (a5, .inl (c5, 7400, .inl bs))] H := hP
              have hD : va_D A [(o, .inr (ciM, [.int (th), .int (nI (n)), .ref a1, .ref a2, .ref a3, .ref a4, .ref a5, .int (nI (max mo2 (pw_c f (t + 1) - pw_c f2 (t + 1)))), .int (nI 0 - nI (max le2 (pw_c f2 (t + 1) - pw_c f (t + 1))))])), (a1, .inl (c1, 40, .inl xh)), (a2, .inl (c2, 40, .inl yr)), (a3, .inl (c3, 40, .inr (.inl xb))), (a4, .inl (c4, 40, .inr (.inl yb))), (a5, .inl (c5, 7400, .inl bs))] := hD
              refine lv_iinc (v := nI (t + 1)) (lv' := [(4, .int (nI (t + 1))), (3, .int (nI (pw_c f (t + 1)) - nI (pw_c f2 (t + 1)))), (0, .ref o), (1, .int (nI (i))), (2, .int (nI (i2)))]) hx hb d_M_keep_100 hl (k := 4) rfl (pq_inc _) (by decide) rfl (fun ls hl => ?_)
              refine lv_goto (tgt := 15) hx hb d_M_keep_103 (by decide) ?_
              exact ih_15 (nI (pw_c f (t + 1)) - nI (pw_c f2 (t + 1))) (max mo2 (pw_c f (t + 1) - pw_c f2 (t + 1))) (max le2 (pw_c f2 (t + 1) - pw_c f (t + 1))) (t + 1) _ _ ls (by omega) (by omega) rfl (by rw [hm, pw_ks_s]) (by rw [hl2, pw_ks_s]) (by omega) (by omega) hP hD hS (lv_sub hl [2, 3, 4, 1, 0] rfl)
          · refine lv_iload_n hx hb d_M_keep_69 rfl (lv_at hl 0 rfl) ?_
            refine pq_top (y := .int (nI (max mo2 (pw_c f (t + 1) - pw_c f2 (t + 1))))) (by rw [pq_mx1 (by omega) (by omega) (by omega) c_66]) ?_
            refine lv_goto (tgt := 77) hx hb d_M_keep_70 (by decide) ?_
            refine va_put (D := (dC, dI)) (ci := ciM) (v := .int (nI (max mo2 (pw_c f (t + 1) - pw_c f2 (t + 1))))) (ty := .int) (C := R_M) (T := F_M) (N := 9) hx hb hts (fun w h => List.mem_cons_of_mem _ (in_M w h)) t_M t_M_ok n_M hown hK hP hD hS 0 rfl rfl 7 (by decide) (hts (.fieldLink R_M 98 "PeriodWordsModel" "most" "I") (List.mem_cons_of_mem _ mb_390)) (fun _ h9 => h9) rfl (by decide +kernel) rfl rfl (Nat.le_of_ble_eq_true rfl) d_M_keep_77 (fun H locs hP hD hS => ?_)
            have hP : va_P (dC, dI) vwCl [(o, .inr (ciM, [.int (th), .int (nI (n)), .ref a1, .ref a2, .ref a3, .ref a4, .ref a5, .int (nI (max mo2 (pw_c f (t + 1) - pw_c f2 (t + 1)))), .int (nI 0 - nI (le2))])), (a1, .inl (c1, 40, .inl xh)), (a2, .inl (c2, 40, .inl yr)), (a3, .inl (c3, 40, .inr (.inl xb))), (a4, .inl (c4, 40, .inr (.inl yb))), (a5, .inl (c5, 7400, .inl bs))] H := hP
            have hD : va_D A [(o, .inr (ciM, [.int (th), .int (nI (n)), .ref a1, .ref a2, .ref a3, .ref a4, .ref a5, .int (nI (max mo2 (pw_c f (t + 1) - pw_c f2 (t + 1)))), .int (nI 0 - nI (le2))])), (a1, .inl (c1, 40, .inl xh)), (a2, .inl (c2, 40, .inl yr)), (a3, .inl (c3, 40, .inr (.inl xb))), (a4, .inl (c4, 40, .inr (.inl yb))), (a5, .inl (c5, 7400, .inl bs))] := hD
            refine lv_aload_n hx hb d_M_keep_80 rfl (lv_at hl 1 rfl) ?_
            refine lv_iload_n hx hb d_M_keep_81 rfl (lv_at hl 0 rfl) ?_
            refine lv_aload_n hx hb d_M_keep_82 rfl (lv_at hl 1 rfl) ?_
            refine va_get (D := (dC, dI)) (ci := ciM) (v := .int (nI 0 - nI (le2))) (C := R_M) (T := F_M) (N := 9) hx hb hts (fun w h => List.mem_cons_of_mem _ (in_M w h)) hown hK hP 0 rfl rfl 8 (by decide) (hts (.fieldLink R_M 101 "PeriodWordsModel" "least" "I") (List.mem_cons_of_mem _ mb_391)) (fun _ h9 => h9) rfl d_M_keep_83 ?_
            refine lv_icmp_ge (tgt := 93) hx hb d_M_keep_86 (by decide) (fun c_86 => ?_) (fun c_86 => ?_)
            · refine lv_aload_n hx hb d_M_keep_93 rfl (lv_at hl 1 rfl) ?_
              refine va_get (D := (dC, dI)) (ci := ciM) (v := .int (nI 0 - nI (le2))) (C := R_M) (T := F_M) (N := 9) hx hb hts (fun w h => List.mem_cons_of_mem _ (in_M w h)) hown hK hP 0 rfl rfl 8 (by decide) (hts (.fieldLink R_M 101 "PeriodWordsModel" "least" "I") (List.mem_cons_of_mem _ mb_391)) (fun _ h9 => h9) rfl d_M_keep_94 ?_
              refine pq_top (y := .int (nI 0 - nI (max le2 (pw_c f2 (t + 1) - pw_c f (t + 1))))) (by rw [← pq_mn2 (by omega) (by omega) (by omega) c_86]) ?_
              refine va_put (D := (dC, dI)) (ci := ciM) (v := .int (nI 0 - nI (max le2 (pw_c f2 (t + 1) - pw_c f (t + 1))))) (ty := .int) (C := R_M) (T := F_M) (N := 9) hx hb hts (fun w h => List.mem_cons_of_mem _ (in_M w h)) t_M t_M_ok n_M hown hK hP hD hS 0 rfl rfl 8 (by decide) (hts (.fieldLink R_M 101 "PeriodWordsModel" "least" "I") (List.mem_cons_of_mem _ mb_391)) (fun _ h9 => h9) rfl (by decide +kernel) rfl rfl (Nat.le_of_ble_eq_true rfl) d_M_keep_97 (fun H locs hP hD hS => ?_)
              have hP : va_P (dC, dI) vwCl [(o, .inr (ciM, [.int (th), .int (nI (n)), .ref a1, .ref a2, .ref a3, .ref a4, .ref a5, .int (nI (max mo2 (pw_c f (t + 1) - pw_c f2 (t + 1)))), .int (nI 0 - nI (max le2 (pw_c f2 (t + 1) - pw_c f (t + 1))))])), (a1, .inl (c1, 40, .inl xh)), (a2, .inl (c2, 40, .inl yr)), (a3, .inl (c3, 40, .inr (.inl xb))), (a4, .inl (c4, 40, .inr (.inl yb))), (a5, .inl (c5, 7400, .inl bs))] H := hP
              have hD : va_D A [(o, .inr (ciM, [.int (th), .int (nI (n)), .ref a1, .ref a2, .ref a3, .ref a4, .ref a5, .int (nI (max mo2 (pw_c f (t + 1) - pw_c f2 (t + 1)))), .int (nI 0 - nI (max le2 (pw_c f2 (t + 1) - pw_c f (t + 1))))])), (a1, .inl (c1, 40, .inl xh)), (a2, .inl (c2, 40, .inl yr)), (a3, .inl (c3, 40, .inr (.inl xb))), (a4, .inl (c4, 40, .inr (.inl yb))), (a5, .inl (c5, 7400, .inl bs))] := hD
              refine lv_iinc (v := nI (t + 1)) (lv' := [(4, .int (nI (t + 1))), (3, .int (nI (pw_c f (t + 1)) - nI (pw_c f2 (t + 1)))), (0, .ref o), (1, .int (nI (i))), (2, .int (nI (i2)))]) hx hb d_M_keep_100 hl (k := 4) rfl (pq_inc _) (by decide) rfl (fun ls hl => ?_)
              refine lv_goto (tgt := 15) hx hb d_M_keep_103 (by decide) ?_
              exact ih_15 (nI (pw_c f (t + 1)) - nI (pw_c f2 (t + 1))) (max mo2 (pw_c f (t + 1) - pw_c f2 (t + 1))) (max le2 (pw_c f2 (t + 1) - pw_c f (t + 1))) (t + 1) _ _ ls (by omega) (by omega) rfl (by rw [hm, pw_ks_s]) (by rw [hl2, pw_ks_s]) (by omega) (by omega) hP hD hS (lv_sub hl [2, 3, 4, 1, 0] rfl)
            · refine lv_iload_n hx hb d_M_keep_89 rfl (lv_at hl 0 rfl) ?_
              refine pq_top (y := .int (nI 0 - nI (max le2 (pw_c f2 (t + 1) - pw_c f (t + 1))))) (by rw [pq_mn1 (by omega) (by omega) (by omega) c_86]) ?_
              refine lv_goto (tgt := 97) hx hb d_M_keep_90 (by decide) ?_
              refine va_put (D := (dC, dI)) (ci := ciM) (v := .int (nI 0 - nI (max le2 (pw_c f2 (t + 1) - pw_c f (t + 1))))) (ty := .int) (C := R_M) (T := F_M) (N := 9) hx hb hts (fun w h => List.mem_cons_of_mem _ (in_M w h)) t_M t_M_ok n_M hown hK hP hD hS 0 rfl rfl 8 (by decide) (hts (.fieldLink R_M 101 "PeriodWordsModel" "least" "I") (List.mem_cons_of_mem _ mb_391)) (fun _ h9 => h9) rfl (by decide +kernel) rfl rfl (Nat.le_of_ble_eq_true rfl) d_M_keep_97 (fun H locs hP hD hS => ?_)
              have hP : va_P (dC, dI) vwCl [(o, .inr (ciM, [.int (th), .int (nI (n)), .ref a1, .ref a2, .ref a3, .ref a4, .ref a5, .int (nI (max mo2 (pw_c f (t + 1) - pw_c f2 (t + 1)))), .int (nI 0 - nI (max le2 (pw_c f2 (t + 1) - pw_c f (t + 1))))])), (a1, .inl (c1, 40, .inl xh)), (a2, .inl (c2, 40, .inl yr)), (a3, .inl (c3, 40, .inr (.inl xb))), (a4, .inl (c4, 40, .inr (.inl yb))), (a5, .inl (c5, 7400, .inl bs))] H := hP
              have hD : va_D A [(o, .inr (ciM, [.int (th), .int (nI (n)), .ref a1, .ref a2, .ref a3, .ref a4, .ref a5, .int (nI (max mo2 (pw_c f (t + 1) - pw_c f2 (t + 1)))), .int (nI 0 - nI (max le2 (pw_c f2 (t + 1) - pw_c f (t + 1))))])), (a1, .inl (c1, 40, .inl xh)), (a2, .inl (c2, 40, .inl yr)), (a3, .inl (c3, 40, .inr (.inl xb))), (a4, .inl (c4, 40, .inr (.inl yb))), (a5, .inl (c5, 7400, .inl bs))] := hD
              refine lv_iinc (v := nI (t + 1)) (lv' := [(4, .int (nI (t + 1))), (3, .int (nI (pw_c f (t + 1)) - nI (pw_c f2 (t + 1)))), (0, .ref o), (1, .int (nI (i))), (2, .int (nI (i2)))]) hx hb d_M_keep_100 hl (k := 4) rfl (pq_inc _) (by decide) rfl (fun ls hl => ?_)
              refine lv_goto (tgt := 15) hx hb d_M_keep_103 (by decide) ?_
              exact ih_15 (nI (pw_c f (t + 1)) - nI (pw_c f2 (t + 1))) (max mo2 (pw_c f (t + 1) - pw_c f2 (t + 1))) (max le2 (pw_c f2 (t + 1) - pw_c f (t + 1))) (t + 1) _ _ ls (by omega) (by omega) rfl (by rw [hm, pw_ks_s]) (by rw [hl2, pw_ks_s]) (by omega) (by omega) hP hD hS (lv_sub hl [2, 3, 4, 1, 0] rfl)
        have B_42 : ∀ (xx : Nat) (H : Heap) (locs : List Loc) (ls : Array Slot), (xx = (f t).toNat) → (va_P (dC, dI) vwCl [(o, .inr (ciM, [.int (th), .int (nI (n)), .ref a1, .ref a2, .ref a3, .ref a4, .ref a5, .int (nI (mo2)), .int (nI 0 - nI (le2))])), (a1, .inl (c1, 40, .inl xh)), (a2, .inl (c2, 40, .inl yr)), (a3, .inl (c3, 40, .inr (.inl xb))), (a4, .inl (c4, 40, .inr (.inl yb))), (a5, .inl (c5, 7400, .inl bs))] H) → (va_D A [(o, .inr (ciM, [.int (th), .int (nI (n)), .ref a1, .ref a2, .ref a3, .ref a4, .ref a5, .int (nI (mo2)), .int (nI 0 - nI (le2))])), (a1, .inl (c1, 40, .inl xh)), (a2, .inl (c2, 40, .inl yr)), (a3, .inl (c3, 40, .inr (.inl xb))), (a4, .inl (c4, 40, .inr (.inl yb))), (a5, .inl (c5, 7400, .inl bs))]) → (va_S A s.heap H locs) → lv_has ls 5 [(0, .ref o), (1, .int (nI (i))), (2, .int (nI (i2))), (3, .int (kept)), (4, .int (nI (t)))] → W p l e (headSpec ws_M_keep ({ frames := 2, cells := 0, slots := 0, locals := 43 } : Room)).room s m ([.ref o, .int (nI (i)), .int (nI (i2))]).toArray below meth c H locs 0 0 (MQ below (va_Qv (fun u => u = (th, n, nI (pw_ks f f2 (max h h2 + pp * pp2)), nI 0 - nI (pw_ks f2 f (max h h2 + pp * pp2)), xh, yr, xb, yb, bs)) (md_B dC dI A o a1 a2 a3 a4 a5 c1 c2 c3 c4 c5) A) ([.ref o, .int (nI (i)), .int (nI (i2))]).toArray s 0 0 A) (F0 m 42 ls [.int (nI (xx)), .int (kept)]) := by
          intro xx H locs ls hxx hP hD hS hl
          refine lv_aload_n hx hb d_M_keep_42 rfl (lv_at hl 0 rfl) ?_
          refine lv_iload_n hx hb d_M_keep_43 rfl (lv_at hl 2 rfl) ?_
          refine lv_iload hx hb d_M_keep_44 (lv_at hl 4 rfl) ?_
          refine vp_callSi (W.runV (As := [.int (nI (i2)), .int (nI (t))]) (rest := [.int (nI (xx)), .int (kept)]) ⟨hx, hb, hml, hown, hts⟩ (c_M_has l dC dI hmd2 (t := t) (by omega)) (cwV 2 hts (gd_V mb_455 mb_457 mb_9 mb_23 mb_458) rfl rfl rfl (by decide +kernel) ⟨Nat.le_of_ble_eq_true rfl, Nat.le_of_ble_eq_true rfl⟩) (pw_R_V (va_recv hK hP (ci := ciM) (q0 := 0) rfl rfl) hP hK) rfl rfl hl.1 rfl (lv_room (Nat.le_of_ble_eq_true rfl)) d_M_keep_46 ⟨Nat.le_of_ble_eq_true rfl, Nat.le_of_ble_eq_true rfl⟩) (fun r_46 hr_46 => ?_)
          subst hr_46
          refine pq_if_eq (tgt := 56) (a := ((f2 t).toNat)) hx hb d_M_keep_49 (by decide) (by have := pw_lt2 (f2 t); omega) (fun c_49 => ?_) (fun c_49 => ?_)
          · refine lv_iconst (v := nI 0) hx hb d_M_keep_56 (by decide) ?_
            exact B_57 (xx) (0) _ _ ls hxx (by have := pw_lt2 (f2 t); omega) hP hD hS (lv_sub hl [0, 1, 2, 3, 4] rfl)
          · refine lv_iconst (v := nI 1) hx hb d_M_keep_52 (by decide) ?_
            refine lv_goto (tgt := 57) hx hb d_M_keep_53 (by decide) ?_
            exact B_57 (xx) (1) _ _ ls hxx (by have := pw_lt2 (f2 t); omega) hP hD hS (lv_sub hl [0, 1, 2, 3, 4] rfl)
        refine lv_iload_n hx hb d_M_keep_26 rfl (lv_at hl 3 rfl) ?_
        refine lv_aload_n hx hb d_M_keep_27 rfl (lv_at hl 0 rfl) ?_
        refine lv_iload_n hx hb d_M_keep_28 rfl (lv_at hl 1 rfl) ?_
        refine lv_iload hx hb d_M_keep_29 (lv_at hl 4 rfl) ?_
        refine vp_callSi (W.runV (As := [.int (nI (i)), .int (nI (t))]) (rest := [.int (kept)]) ⟨hx, hb, hml, hown, hts⟩ (c_M_has l dC dI hmd (t := t) (by omega)) (cwV 2 hts (gd_V mb_455 mb_457 mb_9 mb_23 mb_458) rfl rfl rfl (by decide +kernel) ⟨Nat.le_of_ble_eq_true rfl, Nat.le_of_ble_eq_true rfl⟩) (pw_R_V (va_recv hK hP (ci := ciM) (q0 := 0) rfl rfl) hP hK) rfl rfl hl.1 rfl (lv_room (Nat.le_of_ble_eq_true rfl)) d_M_keep_31 ⟨Nat.le_of_ble_eq_true rfl, Nat.le_of_ble_eq_true rfl⟩) (fun r_31 hr_31 => ?_)
        subst hr_31
        refine pq_if_eq (tgt := 41) (a := ((f t).toNat)) hx hb d_M_keep_34 (by decide) (by have := pw_lt2 (f t); omega) (fun c_34 => ?_) (fun c_34 => ?_)
        · refine lv_iconst (v := nI 0) hx hb d_M_keep_41 (by decide) ?_
          exact B_42 (0) _ _ ls (by have := pw_lt2 (f t); omega) hP hD hS (lv_sub hl [0, 1, 2, 3, 4] rfl)
        · refine lv_iconst (v := nI 1) hx hb d_M_keep_37 (by decide) ?_
          refine lv_goto (tgt := 42) hx hb d_M_keep_38 (by decide) ?_
          exact B_42 (1) _ _ ls (by have := pw_lt2 (f t); omega) hP hD hS (lv_sub hl [0, 1, 2, 3, 4] rfl)
  exact B_15 _ (nI (0)) (0) (0) (0) _ _ ls (Nat.lt_succ_self _) (by omega) (show nI 0 = nI 0 - nI 0 by decide) rfl rfl (by omega) (by omega) hP hD hS (lv_sub hl [2, 3, 4, 1, 0] rfl)
