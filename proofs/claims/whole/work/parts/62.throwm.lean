/-! what a throw of the class needs of the machine: nothing of it changes while only cells from zz on are written -/
theorem tx_Nd {x : MethodName} {s U : State} (hW : s.WarmedH U.vm) (h : va_Nw (.declares x) s) : va_Nw (.declares x) U := va_tabs rfl (rfl : (s.setVm U.vm).vm = U.vm) (by rw [Cond.declares_setVm hW.alike]; exact h)
def tx_P (zz : Nat) (E : String) (L : List (Nat × String)) (U : State) : Prop :=
  (va_Nw (.castable E E) U ∧ va_Nw (.declares (Bundle.initS "java/lang/RuntimeException")) U ∧ va_Nw (.declares (Bundle.initS "java/lang/Exception")) U ∧ va_Nw (.declares (Bundle.initS Bundle.tN)) U) ∧ vx_Zq Bundle.tN "UNASSIGNED_STACK" Bundle.steD (fun q => zz ≤ q) U U.heap ∧ vx_Zq Bundle.tN "SUPPRESSED_SENTINEL" Bundle.listD (fun q => zz ≤ q) U U.heap ∧ ∀ x ∈ L, ∃ sa, vk_R R_P x.1 x.2 sa U
theorem tx_P.at {zz : Nat} {E : String} {L : List (Nat × String)} {s U : State} {H : Heap} (h : tx_P zz E L s) (hk : ∀ a : Nat, a < s.heap.size → a < zz → H[a]? = s.heap[a]?) (hU : U.heap = H) (hW : s.WarmedH U.vm) : tx_P zz E L U := by
  obtain ⟨⟨h1, h5, h6, h7⟩, h2, h3, h4⟩ := h
  refine ⟨⟨va_Nw.warmC hW h1, tx_Nd hW h5, tx_Nd hW h6, tx_Nd hW h7⟩, ?_, ?_, ?_⟩
  · rw [hU]
    exact vx_Zq.moved hW.alike (h2.kept (fun a ha hz => hk a ha (Nat.lt_of_not_le hz)))
  · rw [hU]
    exact vx_Zq.moved hW.alike (h3.kept (fun a ha hz => hk a ha (Nat.lt_of_not_le hz)))
  · intro x hx
    obtain ⟨sa, h⟩ := h4 x hx
    exact ⟨sa, vk_R.warm hW h⟩
def tx_Pre (P : Array Value → State → Prop) (zz : Nat) (E : String) (L : List (Nat × String)) : Array Value → State → Prop := fun a U => P a U ∧ tx_P zz E L U
theorem tx_calling {zz : Nat} {E : String} {L : List (Nat × String)} {U : State} {g : JFrame} {mk : MethodId} {a : Array Value} (h : tx_P zz E L U) : tx_P zz E L (U.calling g mk a) := by
  have hv : U.vm = (U.calling g mk a).vm := rfl
  obtain ⟨⟨h1, h5, h6, h7⟩, h2, h3, h4⟩ := h
  refine ⟨⟨va_tabs rfl hv h1, va_tabs rfl hv h5, va_tabs rfl hv h6, va_tabs rfl hv h7⟩, vx_Zq.moved (u := U) (U := U.calling g mk a) (Vm.Alike.refl U.vm) h2, vx_Zq.moved (u := U) (U := U.calling g mk a) (Vm.Alike.refl U.vm) h3, ?_⟩
  intro x hx
  obtain ⟨sa, h⟩ := h4 x hx
  exact ⟨sa, vk_R.same (show (U.calling g mk a).vm = U.vm from rfl) h⟩
theorem tx_blind {P : Array Value → State → Prop} {zz : Nat} {E : String} {L : List (Nat × String)} (hP : FrameBlind P) : FrameBlind (tx_Pre P zz E L) := fun a U g mk q => ⟨hP a U g mk q.1, tx_calling q.2⟩
/-- the good words of a throw out of the tables, the rest by the start -/
theorem tx_hat {c0 : Cond} {args : Array Value} {s : State} {zz : Nat} {E : String} {L : List (Nat × String)} {T : List Cond} (hts : ∀ w ∈ c0 :: TB, w.before args s = true) (h : tx_P zz E L s) (h1 : ∀ w ∈ T.filter goodWord, w ∈ lw_tbl) (h2 : ∀ w ∈ T.filter (fun w => !goodWord w), w ∈ [Cond.castable E E, Cond.declares (Bundle.initS "java/lang/RuntimeException"), Cond.declares (Bundle.initS "java/lang/Exception"), Cond.declares (Bundle.initS Bundle.tN)]) : ∀ w ∈ T, w.before args s = true :=
  vx_hat (fun w hw => hts w (List.mem_cons_of_mem _ (tb_of (h1 w hw) (List.mem_filter.mp hw).2))) h2 (vx_c (va_Nw.use (A := args) rfl h.1.1) (vx_c (va_Nw.use (A := args) rfl h.1.2.1) (vx_c (va_Nw.use (A := args) rfl h.1.2.2.1) (vx_c (va_Nw.use (A := args) rfl h.1.2.2.2) vx_n))))
theorem tx_I0 : tx_dec 7 prog_8_method_2_code := ⟨by decide +kernel, by decide +kernel, by decide +kernel, by decide +kernel⟩
theorem tx_I1 : ∀ w ∈ (tx_at R_P 49 "java/lang/IllegalArgumentException" "java/lang/RuntimeException" 7 prog_8_method_2_code ["java/lang/Exception"]).filter goodWord, w ∈ lw_tbl := by decide +kernel
theorem tx_I2 : ∀ w ∈ (tx_at R_P 49 "java/lang/IllegalArgumentException" "java/lang/RuntimeException" 7 prog_8_method_2_code ["java/lang/Exception"]).filter (fun w => !goodWord w), w ∈ [Cond.castable "java/lang/IllegalArgumentException" "java/lang/IllegalArgumentException", Cond.declares (Bundle.initS "java/lang/RuntimeException"), Cond.declares (Bundle.initS "java/lang/Exception"), Cond.declares (Bundle.initS Bundle.tN)] := by decide +kernel
theorem tx_I3 : ∀ w ∈ Cond.classLink R_P 45 "java/lang/IllegalArgumentException" :: Cond.initialized "java/lang/IllegalArgumentException" :: (tx_at R_P 49 "java/lang/IllegalArgumentException" "java/lang/RuntimeException" 7 prog_8_method_2_code ["java/lang/Exception"]), vx_ot w = true := by decide +kernel
theorem tx_N0 : tx_dec 13 prog_15_method_4_code := ⟨by decide +kernel, by decide +kernel, by decide +kernel, by decide +kernel⟩
theorem tx_N1 : ∀ w ∈ (tx_at R_P 77 "java/util/NoSuchElementException" "java/lang/RuntimeException" 13 prog_15_method_4_code ["java/lang/Exception"]).filter goodWord, w ∈ lw_tbl := by decide +kernel
theorem tx_N2 : ∀ w ∈ (tx_at R_P 77 "java/util/NoSuchElementException" "java/lang/RuntimeException" 13 prog_15_method_4_code ["java/lang/Exception"]).filter (fun w => !goodWord w), w ∈ [Cond.castable "java/util/NoSuchElementException" "java/util/NoSuchElementException", Cond.declares (Bundle.initS "java/lang/RuntimeException"), Cond.declares (Bundle.initS "java/lang/Exception"), Cond.declares (Bundle.initS Bundle.tN)] := by decide +kernel
theorem tx_N3 : ∀ w ∈ Cond.classLink R_P 73 "java/util/NoSuchElementException" :: Cond.initialized "java/util/NoSuchElementException" :: (tx_at R_P 77 "java/util/NoSuchElementException" "java/lang/RuntimeException" 13 prog_15_method_4_code ["java/lang/Exception"]), vx_ot w = true := by decide +kernel
theorem tx_A0 : tx_dec 7 prog_6_method_2_code := ⟨by decide +kernel, by decide +kernel, by decide +kernel, by decide +kernel⟩
theorem tx_A1 : ∀ w ∈ (tx_at R_P 99 "java/lang/ArithmeticException" "java/lang/RuntimeException" 7 prog_6_method_2_code ["java/lang/Exception"]).filter goodWord, w ∈ lw_tbl := by decide +kernel
theorem tx_A2 : ∀ w ∈ (tx_at R_P 99 "java/lang/ArithmeticException" "java/lang/RuntimeException" 7 prog_6_method_2_code ["java/lang/Exception"]).filter (fun w => !goodWord w), w ∈ [Cond.castable "java/lang/ArithmeticException" "java/lang/ArithmeticException", Cond.declares (Bundle.initS "java/lang/RuntimeException"), Cond.declares (Bundle.initS "java/lang/Exception"), Cond.declares (Bundle.initS Bundle.tN)] := by decide +kernel
theorem tx_A3 : ∀ w ∈ Cond.classLink R_P 95 "java/lang/ArithmeticException" :: Cond.initialized "java/lang/ArithmeticException" :: (tx_at R_P 99 "java/lang/ArithmeticException" "java/lang/RuntimeException" 7 prog_6_method_2_code ["java/lang/Exception"]), vx_ot w = true := by decide +kernel
