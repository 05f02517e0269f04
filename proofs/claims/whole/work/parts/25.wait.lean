/-! THE WAIT and AHEAD -/
def pw_wt (v w : pw_V) (r : Int32) : Prop :=
  (pw_o w.2.2 w.1 w.2.1 = 0 → (0 < pw_o v.2.2 v.1 v.2.1 ∨ pw_c w.2.2 w.1 ≤ pw_c v.2.2 v.1) → r = nI (pw_md v.2.2 w.2.2 (pw_c w.2.2 w.1))) ∧
  (pw_o w.2.2 w.1 w.2.1 = 0 → ¬ (0 < pw_o v.2.2 v.1 v.2.1 ∨ pw_c w.2.2 w.1 ≤ pw_c v.2.2 v.1) → r = -1) ∧
  (0 < pw_o w.2.2 w.1 w.2.1 → pw_o v.2.2 v.1 v.2.1 * w.2.1 < pw_o w.2.2 w.1 w.2.1 * v.2.1 → r = -1) ∧
  (0 < pw_o w.2.2 w.1 w.2.1 → pw_o w.2.2 w.1 w.2.1 * v.2.1 ≤ pw_o v.2.2 v.1 v.2.1 * w.2.1 → r = nI (pw_md v.2.2 w.2.2 (max (pw_c v.2.2 v.1) (pw_c w.2.2 w.1) + pw_o v.2.2 v.1 v.2.1 / Nat.gcd (pw_o v.2.2 v.1 v.2.1) (pw_o w.2.2 w.1 w.2.1) * pw_o w.2.2 w.1 w.2.1)))
theorem pw_md_bd {f g : Nat → Bool} {h p N : Nat} (E : pw_E f h p) (hh : h ≤ 60) (hp : 0 < p) (hp6 : p ≤ 60) (hN : N ≤ 10000) (hx : ∀ n, 0 < n → n ≤ N → 0 < pw_o f h p ∨ n ≤ pw_c f h) : pw_md f g N < 1000000 := by
  have : pw_md f g N ≤ 999999 := pw_md_le (fun n h0 hn => by
    have a := pw_tk_le E hp h0 (hx n h0 hn)
    have b : n * p ≤ 10000 * 60 := Nat.mul_le_mul (by omega) hp6
    omega)
  omega
theorem pw_md_0 {f g : Nat → Bool} {N : Nat} : pw_md f g N = 0 ↔ ∀ n, 0 < n → n ≤ N → pw_tk f n ≤ pw_tk g n := by
  constructor
  · intro h n h0 hn
    have := pw_md_ge f g h0 hn
    omega
  · intro h
    have : pw_md f g N ≤ 0 := pw_md_le (fun n h0 hn => by have := h n h0 hn; omega)
    omega
theorem pw_ah_tk {f g : Nat → Bool} (h : pw_ah f g) {n : Nat} (hg : ∃ t, pw_N g n t) : (∃ t, pw_N f n t) ∧ pw_tk f n ≤ pw_tk g n := by
  obtain ⟨t, N⟩ := hg
  obtain ⟨u, K, hu⟩ := (pw_ah_iff f g).mp h n t N
  exact ⟨⟨u, K⟩, by rw [pw_tk_of N, pw_tk_of K]; exact hu⟩
theorem pw_tk_ah {f g : Nat → Bool} (h : ∀ n, (∃ t, pw_N g n t) → (∃ t, pw_N f n t) ∧ pw_tk f n ≤ pw_tk g n) : pw_ah f g := by
  rw [pw_ah_iff]
  intro n t N
  obtain ⟨⟨u, K⟩, hle⟩ := h n ⟨t, N⟩
  rw [pw_tk_of N, pw_tk_of K] at hle
  exact ⟨u, K, hle⟩
theorem pw_lcm {x y : Nat} (hx : 0 < x) (hy : 0 < y) : 0 < x / Nat.gcd x y * y ∧ x ∣ x / Nat.gcd x y * y ∧ y ∣ x / Nat.gcd x y * y ∧ x / Nat.gcd x y * y ≤ x * y := by
  have hg := Nat.gcd_pos_of_pos_right x hy
  obtain ⟨a, ha⟩ := Nat.gcd_dvd_left x y
  obtain ⟨b, hb⟩ := Nat.gcd_dvd_right x y
  have e : x / Nat.gcd x y = a := Nat.div_eq_of_eq_mul_right hg ha
  rw [e]
  have ha0 : 0 < a := by
    rcases Nat.eq_zero_or_pos a with z | z
    · rw [z, Nat.mul_zero] at ha; omega
    · exact z
  refine ⟨Nat.mul_pos ha0 hy, ⟨b, ?_⟩, ⟨a, Nat.mul_comm a y⟩, Nat.mul_le_mul_right y ?_⟩
  · calc a * y = a * (Nat.gcd x y * b) := by rw [← hb]
      _ = x * b := by rw [← Nat.mul_assoc, Nat.mul_comm a, ← ha]
  · calc a = 1 * a := (Nat.one_mul a).symm
      _ ≤ Nat.gcd x y * a := Nat.mul_le_mul_right a hg
      _ = x := ha.symm
theorem pw_oa {f g : Nat → Bool} {h p h2 p2 : Nat} (hp : 0 < p) (ho : 0 < pw_o g h2 p2) (hr : pw_o g h2 p2 * p ≤ pw_o f h p * p2) : 0 < pw_o f h p := by
  rcases Nat.eq_zero_or_pos (pw_o f h p) with z | z
  · rw [z, Nat.zero_mul] at hr
    have := Nat.mul_pos ho hp
    omega
  · exact z
/-- the wait is one of three: none; a number below a million -/
theorem pw_wt_cases {v w : pw_V} {r : Int32} (hv : wd_ok v.1 v.2.1 v.2.2) (hw : wd_ok w.1 w.2.1 w.2.2) (h : pw_wt v w r) : (r = -1 ∧ ¬ pw_ah v.2.2 w.2.2) ∨ ∃ d, d < 1000000 ∧ r = nI d ∧ (d = 0 ↔ pw_ah v.2.2 w.2.2) := by
  obtain ⟨hp, pp, f⟩ := v
  obtain ⟨hq, qq, g⟩ := w
  obtain ⟨a1, a2, a3, a4⟩ := hv
  obtain ⟨b1, b2, b3, b4⟩ := hw
  obtain ⟨c1, c2, c3, c4⟩ := h
  dsimp only at *
  have oa := pw_o_le f hp pp
  have ob := pw_o_le g hq qq
  have ca := pw_c_le f hp
  have cb := pw_c_le g hq
  rcases Nat.eq_zero_or_pos (pw_o g hq qq) with z | z
  · rcases Classical.em (0 < pw_o f hp pp ∨ pw_c g hq ≤ pw_c f hp) with y | y
    · right
      refine ⟨_, pw_md_bd a4 a1 a2 a3 (by omega) (fun n h0 hn => by omega), c1 z y, ?_⟩
      rw [pw_md_0]
      constructor
      · intro k
        apply pw_tk_ah
        intro n hn
        have n0 : 0 < n := by obtain ⟨t, N⟩ := hn; exact pw_N_pos N
        have := (pw_has b4 b2 n0).mp hn
        exact ⟨(pw_has a4 a2 n0).mpr (by omega), k n n0 (by omega)⟩
      · intro k n n0 hn
        exact (pw_ah_tk k ((pw_has b4 b2 n0).mpr (Or.inr hn))).2
    · left
      refine ⟨c2 z y, ?_⟩
      intro k
      have k1 := k hq
      have k2 := pw_o_0c a4 a2 (show pw_o f hp pp = 0 by omega) hq
      omega
  · rcases Nat.lt_or_ge (pw_o f hp pp * qq) (pw_o g hq qq * pp) with y | y
    · left
      refine ⟨c3 z y, ?_⟩
      intro k
      have := ((pw_ah_round a4 b4 a2 b2 (M := hp + hq) (by omega) (by omega)).mp k).1
      omega
    · right
      have o1 := pw_oa a2 z y
      obtain ⟨l1, l2, l3, l4⟩ := pw_lcm o1 z
      have l5 : pw_o f hp pp * pw_o g hq qq ≤ 60 * 60 := Nat.mul_le_mul (by omega) (by omega)
      refine ⟨_, pw_md_bd a4 a1 a2 a3 (by omega) (fun n h0 hn => Or.inl o1), c4 z y, ?_⟩
      rw [pw_md_0]
      constructor
      · intro k
        apply pw_tk_ah
        intro n hn
        have n0 : 0 < n := by obtain ⟨t, N⟩ := hn; exact pw_N_pos N
        refine ⟨(pw_has a4 a2 n0).mpr (Or.inl o1), ?_⟩
        have st := pw_md_st (N := max (pw_c f hp) (pw_c g hq) + pw_o f hp pp / Nat.gcd (pw_o f hp pp) (pw_o g hq qq) * pw_o g hq qq + n) a4 b4 a2 b2 o1 z (Nat.le_max_left _ _) (Nat.le_max_right _ _) l1 l2 l3 y (by omega)
        rw [pw_md_0.mpr k] at st
        exact pw_md_0.mp st n n0 (by omega)
      · intro k n n0 hn
        exact (pw_ah_tk k ((pw_has b4 b2 n0).mpr (Or.inl z))).2
theorem pw_wt_ah {v w : pw_V} {r : Int32} (hv : wd_ok v.1 v.2.1 v.2.2) (hw : wd_ok w.1 w.2.1 w.2.2) (h : pw_wt v w r) : r = 0 ↔ pw_ah v.2.2 w.2.2 := by
  rcases pw_wt_cases hv hw h with ⟨h1, h2⟩ | ⟨d, h1, h2, h3⟩
  · rw [h1]
    exact ⟨fun z => absurd z (by decide), fun z => absurd z h2⟩
  · rw [h2, ← h3]
    exact nI_eq (b := 0) (by omega) (by decide)
