/-! the 1s of a word that comes back -/
def pw_o (f : Nat → Bool) (h p : Nat) : Nat := pw_c (fun i => f (h + i)) p
theorem pw_o_le (f : Nat → Bool) (h p : Nat) : pw_o f h p ≤ p := pw_c_le _ _
theorem pw_ring {f : Nat → Bool} {h p : Nat} (E : pw_E f h p) (k j : Nat) : pw_c f (h + (k * p + j)) = pw_c f h + (k * pw_o f h p + pw_c (fun i => f (h + i)) j) := by
  rw [pw_c_add]
  congr 1
  induction k with
  | zero => rw [Nat.zero_mul, Nat.zero_add, Nat.zero_mul, Nat.zero_add]
  | succ k ih =>
    have e : (k + 1) * p + j = p + (k * p + j) := by rw [Nat.succ_mul]; omega
    rw [e, pw_c_add]
    have c : pw_c (fun i => (fun i => f (h + i)) (p + i)) (k * p + j) = pw_c (fun i => f (h + i)) (k * p + j) := by
      refine pw_c_congr (fun i _ => ?_)
      have a := E (h + i) (by omega)
      show f (h + (p + i)) = f (h + i)
      rw [← a]
      congr 1
      omega
    rw [c, ih, Nat.succ_mul]
    show pw_o f h p + _ = _
    omega
theorem pw_c_per {f : Nat → Bool} {h p : Nat} (E : pw_E f h p) (hp : 0 < p) (k : Nat) {t : Nat} (ht : h ≤ t) : pw_c f (t + k * p) = pw_c f t + k * pw_o f h p := by
  have e := Nat.mod_add_div (t - h) p
  rw [Nat.mul_comm] at e
  have a := pw_ring E ((t - h) / p) ((t - h) % p)
  have b := pw_ring E ((t - h) / p + k) ((t - h) % p)
  have e1 : h + ((t - h) / p * p + (t - h) % p) = t := by omega
  have e2 : h + (((t - h) / p + k) * p + (t - h) % p) = t + k * p := by rw [Nat.add_mul]; omega
  rw [e1] at a
  rw [e2, Nat.add_mul] at b
  omega
theorem pw_c_far {f : Nat → Bool} {h p : Nat} (E : pw_E f h p) {t : Nat} (ht : h ≤ t) : pw_c f t = pw_c f h + ((t - h) / p * pw_o f h p + pw_c (fun i => f (h + i)) ((t - h) % p)) := by
  have e := Nat.mod_add_div (t - h) p
  rw [Nat.mul_comm] at e
  have a := pw_ring E ((t - h) / p) ((t - h) % p)
  have e1 : h + ((t - h) / p * p + (t - h) % p) = t := by omega
  rw [e1] at a
  exact a
theorem pw_N_per {f : Nat → Bool} {h p : Nat} (E : pw_E f h p) (hp : 0 < p) (k : Nat) {n t : Nat} (ht : h ≤ t) (N : pw_N f n t) : pw_N f (n + k * pw_o f h p) (t + k * p) := by
  refine ⟨by rw [pw_E_mul E k t ht]; exact N.1, ?_⟩
  rw [pw_c_per E hp k ht]
  have := N.2
  omega
theorem pw_N_far {f : Nat → Bool} {h n t : Nat} (N : pw_N f n t) (hn : pw_c f h < n) : h ≤ t := by
  rcases Nat.lt_or_ge t h with q | q
  · have := pw_c_mono (f := f) (show t + 1 ≤ h from q)
    have := pw_N_c N
    omega
  · exact q
theorem pw_o_0 {f : Nat → Bool} {h p : Nat} (E : pw_E f h p) (hp : 0 < p) (ho : pw_o f h p = 0) {t : Nat} (ht : h ≤ t) : f t = false := by
  have a := pw_c_per E hp 1 ht
  rw [ho] at a
  rcases pw_tn (f t) with z | z
  · exact z.2
  · have := pw_c_lt (show t < t + 1 * p by omega) z.2
    omega
theorem pw_o_0c {f : Nat → Bool} {h p : Nat} (E : pw_E f h p) (hp : 0 < p) (ho : pw_o f h p = 0) (t : Nat) : pw_c f t ≤ pw_c f h := by
  rcases Nat.lt_or_ge t h with q | q
  · exact pw_c_mono (by omega)
  · obtain ⟨k, rfl⟩ : ∃ k, t = h + k := ⟨t - h, by omega⟩
    rw [pw_c_add, pw_c_0 (f := fun i => f (h + i)) (fun i _ => pw_o_0 E hp ho (by omega))]
    omega
/-- is there an n-th 1? -/
theorem pw_has {f : Nat → Bool} {h p n : Nat} (E : pw_E f h p) (hp : 0 < p) (hn : 0 < n) : (∃ t, pw_N f n t) ↔ 0 < pw_o f h p ∨ n ≤ pw_c f h := by
  constructor
  · rintro ⟨t, N⟩
    rcases Nat.eq_zero_or_pos (pw_o f h p) with z | z
    · right
      have := pw_o_0c E hp z (t + 1)
      rw [pw_N_c N] at this
      exact this
    · exact Or.inl z
  · rintro (z | z)
    · have a := pw_c_per E hp n (Nat.le_refl h)
      have : n ≤ n * pw_o f h p := Nat.le_mul_of_pos_right n z
      obtain ⟨t, -, N⟩ := pw_N_of (f := f) hn (T := h + n * p) (by omega)
      exact ⟨t, N⟩
    · obtain ⟨t, -, N⟩ := pw_N_of hn z
      exact ⟨t, N⟩
/-- the n-th 1 behind the HEAD, by the place of the one in the RING -/
theorem pw_N_ring {f : Nat → Bool} {h p : Nat} (E : pw_E f h p) (hp : 0 < p) (k : Nat) {j pl : Nat} (hf : f (h + pl) = true) (hc : pw_c (fun i => f (h + i)) pl = j) : pw_N f (pw_c f h + (k * pw_o f h p + j) + 1) (h + (k * p + pl)) := by
  refine ⟨?_, ?_⟩
  · have a := pw_E_mul E k (h + pl) (by omega)
    rw [show h + (k * p + pl) = h + pl + k * p by omega, a]
    exact hf
  · rw [pw_ring E k pl, hc]
noncomputable def pw_tk (f : Nat → Bool) (n : Nat) : Nat := @dite _ (∃ t, pw_N f n t) (Classical.propDecidable _) (fun h => Classical.choose h) (fun _ => 0)
theorem pw_tk_of {f : Nat → Bool} {n t : Nat} (N : pw_N f n t) : pw_tk f n = t := by
  have h : ∃ t, pw_N f n t := ⟨t, N⟩
  unfold pw_tk
  rw [dif_pos h]
  exact pw_N_u (Classical.choose_spec h) N
theorem pw_tk_N {f : Nat → Bool} {n : Nat} (h : ∃ t, pw_N f n t) : pw_N f n (pw_tk f n) := by
  obtain ⟨t, N⟩ := h
  rw [pw_tk_of N]
  exact N
/-! the words that are made -/
def pw_and (f g : Nat → Bool) : Nat → Bool := fun t => f t && g t
def pw_or (f g : Nat → Bool) : Nat → Bool := fun t => f t || g t
def pw_xor (f g : Nat → Bool) : Nat → Bool := fun t => f t ^^ g t
def pw_not (f : Nat → Bool) : Nat → Bool := fun t => !f t
def pw_on (f g : Nat → Bool) : Nat → Bool := fun t => f t && g (pw_c f t)
noncomputable def pw_by (f g : Nat → Bool) : Nat → Bool := fun n => f (pw_tk g (n + 1))
def pw_late (f : Nat → Bool) (d : Nat) : Nat → Bool := fun t => if t < d then false else f (t - d)
def pw_half (f : Nat → Bool) : Nat → Bool := fun t => f t && decide (pw_c f t % 2 = 0)
noncomputable def pw_mk (how : Nat) (f g : Nat → Bool) (d : Nat) : Nat → Bool :=
  if how = 0 then pw_and f g else if how = 1 then pw_or f g else if how = 2 then pw_xor f g else if how = 3 then pw_not f else if how = 4 then pw_on f g else if how = 5 then pw_by f g else if how = 6 then pw_late f d else pw_half f
theorem pw_E_and {f g : Nat → Bool} {F R : Nat} (a : pw_E f F R) (b : pw_E g F R) : pw_E (pw_and f g) F R := fun t ht => by show (f (t + R) && g (t + R)) = _; rw [a t ht, b t ht]; rfl
theorem pw_E_or {f g : Nat → Bool} {F R : Nat} (a : pw_E f F R) (b : pw_E g F R) : pw_E (pw_or f g) F R := fun t ht => by show (f (t + R) || g (t + R)) = _; rw [a t ht, b t ht]; rfl
theorem pw_E_xor {f g : Nat → Bool} {F R : Nat} (a : pw_E f F R) (b : pw_E g F R) : pw_E (pw_xor f g) F R := fun t ht => by show (f (t + R) ^^ g (t + R)) = _; rw [a t ht, b t ht]; rfl
theorem pw_E_not {f : Nat → Bool} {F R : Nat} (a : pw_E f F R) : pw_E (pw_not f) F R := fun t ht => by show (!f (t + R)) = _; rw [a t ht]; rfl
theorem pw_E_late {f : Nat → Bool} {h p : Nat} (a : pw_E f h p) (d : Nat) : pw_E (pw_late f d) (h + d) p := fun t ht => by
  unfold pw_late
  rw [if_neg (by omega), if_neg (by omega), show t + p - d = t - d + p by omega, a (t - d) (by omega)]
theorem pw_E_half {f : Nat → Bool} {h p : Nat} (a : pw_E f h p) (hp : 0 < p) (k : Nat) (hk : k * pw_o f h p % 2 = 0) : pw_E (pw_half f) h (k * p) := fun t ht => by
  unfold pw_half
  rw [pw_E_mul a k t ht, pw_c_per a hp k ht, show (pw_c f t + k * pw_o f h p) % 2 = pw_c f t % 2 by omega]
theorem pw_E_on0 {f : Nat → Bool} {h p : Nat} (a : pw_E f h p) (hp : 0 < p) (ho : pw_o f h p = 0) (g : Nat → Bool) (R : Nat) : pw_E (pw_on f g) h R := fun t ht => by
  unfold pw_on
  rw [pw_o_0 a hp ho ht, pw_o_0 a hp ho (show h ≤ t + R by omega)]
  rfl
theorem pw_E_on {f g : Nat → Bool} {h p hb pb F : Nat} (a : pw_E f h p) (hp : 0 < p) (b : pw_E g hb pb) (hF : h ≤ F) (hc : hb ≤ pw_c f F) (k : Nat) (hd : pb ∣ k * pw_o f h p) : pw_E (pw_on f g) F (k * p) := fun t ht => by
  unfold pw_on
  rw [pw_E_mul a k t (by omega), pw_c_per a hp k (by omega), pw_E_dvd b hd (pw_c f t) (Nat.le_trans hc (pw_c_mono ht))]
theorem pw_E_by {f g : Nat → Bool} {ha pa hb pb M : Nat} (a : pw_E f ha pa) (b : pw_E g hb pb) (hpb : 0 < pb) (ho : 0 < pw_o g hb pb) (h1 : ha ≤ M) (h2 : hb ≤ M) (k : Nat) (hd : pa ∣ k * pb) : pw_E (pw_by f g) (pw_c g M) (k * pw_o g hb pb) := fun n hn => by
  obtain ⟨t, N⟩ := (pw_has b hpb (show 0 < n + 1 by omega)).mpr (Or.inl ho)
  have hM : M ≤ t := pw_N_far N (by omega)
  have N2 := pw_N_per b hpb k (show hb ≤ t by omega) N
  unfold pw_by
  rw [pw_tk_of N, show n + k * pw_o g hb pb + 1 = n + 1 + k * pw_o g hb pb by omega, pw_tk_of N2, pw_E_dvd a hd t (by omega)]
/-! what is kept between two words; how long one waits -/
def pw_ks (f g : Nat → Bool) : Nat → Nat
  | 0 => 0
  | n + 1 => max (pw_ks f g n) (pw_c f (n + 1) - pw_c g (n + 1))
theorem pw_ks_s (f g : Nat → Bool) (n : Nat) : pw_ks f g (n + 1) = max (pw_ks f g n) (pw_c f (n + 1) - pw_c g (n + 1)) := rfl
theorem pw_ks_ge (f g : Nat → Bool) {n N : Nat} (h : n ≤ N) : pw_c f n - pw_c g n ≤ pw_ks f g N := by
  induction N with
  | zero => have : n = 0 := by omega
            subst this; exact Nat.le_refl 0
  | succ N ih =>
    rw [pw_ks_s]
    rcases Nat.lt_or_ge n (N + 1) with q | q
    · have := ih (by omega); omega
    · have : n = N + 1 := by omega
      subst this; omega
theorem pw_ks_le {f g : Nat → Bool} {N x : Nat} (h : ∀ n, n ≤ N → pw_c f n - pw_c g n ≤ x) : pw_ks f g N ≤ x := by
  induction N with
  | zero => exact Nat.zero_le x
  | succ N ih =>
    rw [pw_ks_s]
    have := ih (fun n hn => h n (by omega))
    have := h (N + 1) (Nat.le_refl _)
    omega
theorem pw_ks_mono (f g : Nat → Bool) {N N' : Nat} (h : N ≤ N') : pw_ks f g N ≤ pw_ks f g N' := pw_ks_le (fun n hn => pw_ks_ge f g (by omega))
theorem pw_ks_st {f g : Nat → Bool} {ha pa hb pb M L N : Nat} (a : pw_E f ha pa) (b : pw_E g hb pb) (hpa : 0 < pa) (hpb : 0 < pb) (h1 : ha ≤ M) (h2 : hb ≤ M) (hL : 0 < L) (d1 : pa ∣ L) (d2 : pb ∣ L) (hr : pw_o f ha pa * pb = pw_o g hb pb * pa) (hN : M + L ≤ N) : pw_ks f g N = pw_ks f g (M + L) := by
  obtain ⟨x, hx⟩ := d1
  obtain ⟨y, hy⟩ := d2
  rw [Nat.mul_comm] at hx hy
  have hxy : x * pw_o f ha pa = y * pw_o g hb pb := by
    apply Nat.eq_of_mul_eq_mul_right hpb
    calc x * pw_o f ha pa * pb = x * (pw_o g hb pb * pa) := by rw [Nat.mul_assoc, hr]
      _ = x * pa * pw_o g hb pb := by rw [Nat.mul_comm (pw_o g hb pb) pa, Nat.mul_assoc]
      _ = y * pw_o g hb pb * pb := by rw [← hx, hy, Nat.mul_assoc, Nat.mul_assoc, Nat.mul_comm pb]
  have step : ∀ t, M ≤ t → pw_c f (t + L) - pw_c g (t + L) = pw_c f t - pw_c g t := by
    intro t ht
    have e1 := pw_c_per a hpa x (show ha ≤ t by omega)
    have e2 := pw_c_per b hpb y (show hb ≤ t by omega)
    rw [← hx] at e1
    rw [← hy] at e2
    omega
  have all : ∀ n t, t ≤ n → pw_c f t - pw_c g t ≤ pw_ks f g (M + L) := by
    intro n
    induction n with
    | zero => intro t ht; exact pw_ks_ge f g (by omega)
    | succ n ih =>
      intro t ht
      rcases Nat.lt_or_ge (M + L) t with q | q
      · have e := step (t - L) (by omega)
        rw [show t - L + L = t by omega] at e
        rw [e]
        exact ih (t - L) (by omega)
      · exact pw_ks_ge f g q
  exact Nat.le_antisymm (pw_ks_le (fun n _ => all n n (Nat.le_refl n))) (pw_ks_mono f g hN)
noncomputable def pw_md (f g : Nat → Bool) : Nat → Nat
  | 0 => 0
  | n + 1 => max (pw_md f g n) (pw_tk f (n + 1) - pw_tk g (n + 1))
theorem pw_md_s (f g : Nat → Bool) (n : Nat) : pw_md f g (n + 1) = max (pw_md f g n) (pw_tk f (n + 1) - pw_tk g (n + 1)) := rfl
theorem pw_md_ge (f g : Nat → Bool) {n N : Nat} (h0 : 0 < n) (h : n ≤ N) : pw_tk f n - pw_tk g n ≤ pw_md f g N := by
  induction N with
  | zero => omega
  | succ N ih =>
    rw [pw_md_s]
    rcases Nat.lt_or_ge n (N + 1) with q | q
    · have := ih (by omega); omega
    · have : n = N + 1 := by omega
      subst this; omega
theorem pw_md_le {f g : Nat → Bool} {N x : Nat} (h : ∀ n, 0 < n → n ≤ N → pw_tk f n - pw_tk g n ≤ x) : pw_md f g N ≤ x := by
  induction N with
  | zero => exact Nat.zero_le x
  | succ N ih =>
    rw [pw_md_s]
    have := ih (fun n h0 hn => h n h0 (by omega))
    have := h (N + 1) (by omega) (Nat.le_refl _)
    omega
theorem pw_md_mono (f g : Nat → Bool) {N N' : Nat} (h : N ≤ N') : pw_md f g N ≤ pw_md f g N' := pw_md_le (fun n h0 hn => pw_md_ge f g h0 (by omega))
theorem pw_tk_per {f : Nat → Bool} {h p n : Nat} (E : pw_E f h p) (hp : 0 < p) (ho : 0 < pw_o f h p) (hn : pw_c f h < n) (k : Nat) : pw_tk f (n + k * pw_o f h p) = pw_tk f n + k * p := by
  obtain ⟨t, N⟩ := (pw_has E hp (show 0 < n by omega)).mpr (Or.inl ho)
  rw [pw_tk_of N, pw_tk_of (pw_N_per E hp k (pw_N_far N hn) N)]
theorem pw_md_st {f g : Nat → Bool} {ha pa hb pb M L N : Nat} (a : pw_E f ha pa) (b : pw_E g hb pb) (hpa : 0 < pa) (hpb : 0 < pb) (hoa : 0 < pw_o f ha pa) (hob : 0 < pw_o g hb pb) (h1 : pw_c f ha ≤ M) (h2 : pw_c g hb ≤ M) (hL : 0 < L) (d1 : pw_o f ha pa ∣ L) (d2 : pw_o g hb pb ∣ L) (hr : pw_o g hb pb * pa ≤ pw_o f ha pa * pb) (hN : M + L ≤ N) : pw_md f g N = pw_md f g (M + L) := by
  obtain ⟨x, hx⟩ := d1
  obtain ⟨y, hy⟩ := d2
  rw [Nat.mul_comm] at hx hy
  have hxy : x * pa ≤ y * pb := by
    apply Nat.le_of_mul_le_mul_right _ hob
    calc x * pa * pw_o g hb pb = x * (pw_o g hb pb * pa) := by rw [Nat.mul_assoc, Nat.mul_comm pa]
      _ ≤ x * (pw_o f ha pa * pb) := Nat.mul_le_mul_left x hr
      _ = y * pb * pw_o g hb pb := by rw [← Nat.mul_assoc, ← hx, hy, Nat.mul_assoc, Nat.mul_assoc, Nat.mul_comm pb]
  have step : ∀ n, M < n → pw_tk f (n + L) - pw_tk g (n + L) ≤ pw_tk f n - pw_tk g n := by
    intro n hn
    have e1 := pw_tk_per a hpa hoa (show pw_c f ha < n by omega) x
    have e2 := pw_tk_per b hpb hob (show pw_c g hb < n by omega) y
    rw [← hx] at e1
    rw [← hy] at e2
    omega
  have all : ∀ n t, 0 < t → t ≤ n → pw_tk f t - pw_tk g t ≤ pw_md f g (M + L) := by
    intro n
    induction n with
    | zero => intro t h0 ht; omega
    | succ n ih =>
      intro t h0 ht
      rcases Nat.lt_or_ge (M + L) t with q | q
      · have e := step (t - L) (by omega)
        rw [show t - L + L = t by omega] at e
        exact Nat.le_trans e (ih (t - L) (by omega) (by omega))
      · exact pw_md_ge f g h0 q
  exact Nat.le_antisymm (pw_md_le (fun n h0 _ => all n n h0 (Nat.le_refl n))) (pw_md_mono f g hN)
/-- a is AHEAD of b, by the numbers of 1s -/
def pw_ah (f g : Nat → Bool) : Prop := ∀ t, pw_c g t ≤ pw_c f t
theorem pw_ah_iff (f g : Nat → Bool) : pw_ah f g ↔ ∀ n t, pw_N g n t → ∃ u, pw_N f n u ∧ u ≤ t := by
  constructor
  · intro h n t N
    have e := pw_N_c N
    have := h (t + 1)
    obtain ⟨u, hu, K⟩ := pw_N_of (f := f) (T := t + 1) (pw_N_pos N) (by omega)
    exact ⟨u, K, by omega⟩
  · intro h t
    rcases Nat.lt_or_ge (pw_c f t) (pw_c g t) with q | q
    · obtain ⟨t0, h0, N⟩ := pw_N_of (f := g) (n := pw_c f t + 1) (T := t) (by omega) q
      obtain ⟨u, K, hu⟩ := h _ _ N
      have := pw_c_mono (f := f) (show u + 1 ≤ t by omega)
      have := pw_N_c K
      omega
    · exact q
/-- one round behind both HEADS tells all -/
theorem pw_ah_round {f g : Nat → Bool} {ha pa hb pb M : Nat} (a : pw_E f ha pa) (b : pw_E g hb pb) (hpa : 0 < pa) (hpb : 0 < pb) (h1 : ha ≤ M) (h2 : hb ≤ M) : pw_ah f g ↔ pw_o g hb pb * pa ≤ pw_o f ha pa * pb ∧ ∀ t, t ≤ M + pa * pb → pw_c g t ≤ pw_c f t := by
  have ea : ∀ k t, M ≤ t → pw_c f (t + k * (pa * pb)) = pw_c f t + k * (pw_o f ha pa * pb) := by
    intro k t ht
    have := pw_c_per a hpa (k * pb) (show ha ≤ t by omega)
    rw [show k * (pa * pb) = k * pb * pa by rw [Nat.mul_assoc, Nat.mul_comm pa], this, Nat.mul_assoc, Nat.mul_comm pb]
  have eb : ∀ k t, M ≤ t → pw_c g (t + k * (pa * pb)) = pw_c g t + k * (pw_o g hb pb * pa) := by
    intro k t ht
    have := pw_c_per b hpb (k * pa) (show hb ≤ t by omega)
    rw [show k * (pa * pb) = k * pa * pb by rw [Nat.mul_assoc], this, Nat.mul_assoc, Nat.mul_comm pa]
  constructor
  · intro h
    refine ⟨?_, fun t _ => h t⟩
    rcases Nat.lt_or_ge (pw_o f ha pa * pb) (pw_o g hb pb * pa) with q | q
    · exfalso
      have k := h (M + (pw_c f M + 1) * (pa * pb))
      rw [ea _ M (Nat.le_refl M), eb _ M (Nat.le_refl M)] at k
      have z : (pw_c f M + 1) * (pw_o f ha pa * pb + 1) ≤ (pw_c f M + 1) * (pw_o g hb pb * pa) := Nat.mul_le_mul_left _ q
      rw [Nat.mul_add] at z
      omega
    · exact q
  · rintro ⟨hr, hs⟩
    have hL : 0 < pa * pb := Nat.mul_pos hpa hpb
    have all : ∀ n t, t ≤ n → pw_c g t ≤ pw_c f t := by
      intro n
      induction n with
      | zero => intro t ht; exact hs t (by omega)
      | succ n ih =>
        intro t ht
        rcases Nat.lt_or_ge (M + pa * pb) t with q | q
        · have e1 := ea 1 (t - pa * pb) (by omega)
          have e2 := eb 1 (t - pa * pb) (by omega)
          rw [Nat.one_mul, show t - pa * pb + pa * pb = t by omega] at e1 e2
          have := ih (t - pa * pb) (by omega)
          omega
        · exact hs t q
    exact fun t => all t t (Nat.le_refl t)
