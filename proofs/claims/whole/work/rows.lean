section
/-! endless words of bits: how many 1s stand ahead of a place, words that come back, their shortest form -/
def pw_c (f : Nat → Bool) : Nat → Nat
  | 0 => 0
  | n + 1 => pw_c f n + (f n).toNat
theorem pw_tn (b : Bool) : b.toNat = 0 ∧ b = false ∨ b.toNat = 1 ∧ b = true := by cases b <;> simp
theorem pw_c_s (f : Nat → Bool) (n : Nat) : pw_c f (n + 1) = pw_c f n + (f n).toNat := rfl
theorem pw_c_le (f : Nat → Bool) (n : Nat) : pw_c f n ≤ n := by
  induction n with
  | zero => exact Nat.le_refl 0
  | succ n ih => rw [pw_c_s]; rcases pw_tn (f n) with h | h <;> omega
theorem pw_c_congr {f g : Nat → Bool} {n : Nat} (h : ∀ i, i < n → f i = g i) : pw_c f n = pw_c g n := by
  induction n with
  | zero => rfl
  | succ n ih => rw [pw_c_s, pw_c_s, ih (fun i hi => h i (by omega)), h n (by omega)]
theorem pw_c_add (f : Nat → Bool) (a b : Nat) : pw_c f (a + b) = pw_c f a + pw_c (fun i => f (a + i)) b := by
  induction b with
  | zero => rfl
  | succ b ih => rw [← Nat.add_assoc, pw_c_s, pw_c_s, ih, Nat.add_assoc]
theorem pw_c_mono {f : Nat → Bool} {a b : Nat} (h : a ≤ b) : pw_c f a ≤ pw_c f b := by
  obtain ⟨k, rfl⟩ : ∃ k, b = a + k := ⟨b - a, by omega⟩
  rw [pw_c_add]; omega
theorem pw_c_lt {f : Nat → Bool} {a b : Nat} (h : a < b) (hf : f a = true) : pw_c f a < pw_c f b := by
  have := pw_c_mono (f := f) (show a + 1 ≤ b from h)
  rw [pw_c_s, hf] at this
  have e : (true).toNat = 1 := rfl
  omega
/-- a place for each number of 1s -/
theorem pw_c_at {f : Nat → Bool} {n j : Nat} (h : j < pw_c f n) : ∃ i, i < n ∧ f i = true ∧ pw_c f i = j := by
  induction n with
  | zero => exact absurd h (Nat.not_lt_zero _)
  | succ n ih =>
    rcases Nat.lt_or_ge j (pw_c f n) with q | q
    · obtain ⟨i, a, b⟩ := ih q
      exact ⟨i, by omega, b⟩
    · rw [pw_c_s] at h
      rcases pw_tn (f n) with z | z
      · omega
      · exact ⟨n, by omega, z.2, by omega⟩
theorem pw_c_0 {f : Nat → Bool} {n : Nat} (h : ∀ i, i < n → f i = false) : pw_c f n = 0 := by
  induction n with
  | zero => rfl
  | succ n ih => rw [pw_c_s, ih (fun i hi => h i (by omega)), h n (by omega)]; rfl
/-- TICK t is the one of the n-th 1 -/
def pw_N (f : Nat → Bool) (n t : Nat) : Prop := f t = true ∧ pw_c f t + 1 = n
theorem pw_N_u {f : Nat → Bool} {n t u : Nat} (h : pw_N f n t) (k : pw_N f n u) : t = u := by
  rcases Nat.lt_trichotomy t u with q | q | q
  · have := pw_c_lt q h.1; have := h.2; have := k.2; omega
  · exact q
  · have := pw_c_lt q k.1; have := h.2; have := k.2; omega
theorem pw_N_lt {f : Nat → Bool} {n m t u : Nat} (h : pw_N f n t) (k : pw_N f m u) (hn : n < m) : t < u := by
  rcases Nat.lt_or_ge t u with q | q
  · exact q
  · have := pw_c_mono (f := f) q; have := h.2; have := k.2; omega
theorem pw_N_of {f : Nat → Bool} {n T : Nat} (h0 : 0 < n) (h : n ≤ pw_c f T) : ∃ t, t < T ∧ pw_N f n t := by
  obtain ⟨i, a, b, c⟩ := pw_c_at (f := f) (n := T) (j := n - 1) (by omega)
  exact ⟨i, a, b, by omega⟩
theorem pw_N_c {f : Nat → Bool} {n t : Nat} (h : pw_N f n t) : pw_c f (t + 1) = n := by
  have := h.2
  rw [pw_c_s, h.1]
  exact this
theorem pw_N_pos {f : Nat → Bool} {n t : Nat} (h : pw_N f n t) : 0 < n := by have := h.2; omega
/-- from h on f comes back after p -/
def pw_E (f : Nat → Bool) (h p : Nat) : Prop := ∀ t, h ≤ t → f (t + p) = f t
theorem pw_E_mul {f : Nat → Bool} {h p : Nat} (E : pw_E f h p) (k : Nat) : pw_E f h (k * p) := by
  induction k with
  | zero => intro t _; rw [Nat.zero_mul]; rfl
  | succ k ih =>
    intro t ht
    rw [Nat.succ_mul, ← Nat.add_assoc, E (t + k * p) (by omega), ih t ht]
theorem pw_E_dvd {f : Nat → Bool} {h p q : Nat} (E : pw_E f h p) (hd : p ∣ q) : pw_E f h q := by
  obtain ⟨k, rfl⟩ := hd
  rw [Nat.mul_comm]
  exact pw_E_mul E k
theorem pw_E_up {f : Nat → Bool} {h h' p : Nat} (E : pw_E f h p) (hh : h ≤ h') : pw_E f h' p := fun t ht => E t (by omega)
theorem pw_E_back {f : Nat → Bool} {F R h p : Nat} (hR : 0 < R) (E : pw_E f F R) (E2 : pw_E f h p) : pw_E f F p := by
  intro t ht
  have a := pw_E_mul E h t ht
  have b := pw_E_mul E h (t + p) (by omega)
  have z : h ≤ h * R := Nat.le_mul_of_pos_right h hR
  have d := E2 (t + h * R) (by omega)
  rw [← a, ← b, ← d]
  congr 1
  omega
theorem pw_E_mod {f : Nat → Bool} {F R p : Nat} (E : pw_E f F R) (E2 : pw_E f F p) : pw_E f F (R % p) := by
  intro t ht
  have a := pw_E_mul E2 (R / p) (t + R % p) (by omega)
  have b := E t ht
  rw [← a, ← b]
  congr 1
  have := Nat.mod_add_div R p
  rw [Nat.mul_comm] at this
  omega
/-- the FORM: the shortest RING, and with it the shortest HEAD -/
def pw_Can (f : Nat → Bool) (h p : Nat) : Prop := 0 < p ∧ pw_E f h p ∧ (∀ h' p', 0 < p' → pw_E f h' p' → p ≤ p') ∧ (h = 0 ∨ f (h - 1) ≠ f (h - 1 + p))
theorem pw_Can_le {f : Nat → Bool} {h p h' : Nat} (C : h = 0 ∨ f (h - 1) ≠ f (h - 1 + p)) (E : pw_E f h' p) : h ≤ h' := by
  rcases C with C | C
  · omega
  · rcases Nat.lt_or_ge h' h with q | q
    · exact absurd (E (h - 1) (by omega)).symm C
    · exact q
theorem pw_Can_u {f : Nat → Bool} {h p h' p' : Nat} (C : pw_Can f h p) (C' : pw_Can f h' p') : h = h' ∧ p = p' := by
  obtain ⟨a1, a2, a3, a4⟩ := C
  obtain ⟨b1, b2, b3, b4⟩ := C'
  have e : p = p' := Nat.le_antisymm (a3 h' p' b1 b2) (b3 h p a1 a2)
  subst e
  exact ⟨Nat.le_antisymm (pw_Can_le a4 b2) (pw_Can_le b4 a2), rfl⟩
/-- the least one of the lengths that come back from F on is the shortest of all -/
theorem pw_least {f : Nat → Bool} {F R p : Nat} (hR : 0 < R) (E : pw_E f F R) (hl : ∀ q, 0 < q → q < p → ¬ pw_E f F q) : ∀ h' p', 0 < p' → pw_E f h' p' → p ≤ p' := by
  intro h' p' h0 E'
  rcases Nat.lt_or_ge p' p with q | q
  · exact absurd (pw_E_back hR E E') (hl p' h0 q)
  · exact q
theorem pw_Can_of {f : Nat → Bool} {F R p h : Nat} (hR : 0 < R) (E : pw_E f F R) (hp : 0 < p) (hl : ∀ q, 0 < q → q < p → ¬ pw_E f F q) (Eh : pw_E f h p) (hh : h = 0 ∨ f (h - 1) ≠ f (h - 1 + p)) : pw_Can f h p :=
  ⟨hp, Eh, pw_least hR E hl, hh⟩
/-- the search in one round: p divides the round, and within the round each bit is the one p further on -/
def pw_B (f : Nat → Bool) (F R p : Nat) : Prop := ∀ k, k + p < R → f (F + k) = f (F + k + p)
theorem pw_B_of {f : Nat → Bool} {F R p : Nat} (E : pw_E f F p) : pw_B f F R p := fun k _ => (E (F + k) (by omega)).symm
theorem pw_B_st {f : Nat → Bool} {F R p : Nat} (B : pw_B f F R p) (j m : Nat) (h : j + m * p < R) : f (F + (j + m * p)) = f (F + j) := by
  induction m with
  | zero => rw [Nat.zero_mul]; rfl
  | succ m ih =>
    rw [Nat.succ_mul] at h
    have a := B (j + m * p) (by omega)
    rw [← ih (by omega), a]
    congr 1
    rw [Nat.succ_mul]
    omega
theorem pw_B_E {f : Nat → Bool} {F R p : Nat} (hp : 0 < p) (hR : 0 < R) (hd : R % p = 0) (E : pw_E f F R) (B : pw_B f F R p) : pw_E f F p := by
  obtain ⟨m, hm⟩ : ∃ m, R = m * p := ⟨R / p, by have := Nat.mod_add_div R p; rw [Nat.mul_comm] at this; omega⟩
  have hpR : p ≤ R := by
    cases m with
    | zero => rw [Nat.zero_mul] at hm; omega
    | succ m => rw [hm, Nat.succ_mul]; omega
  have base : ∀ j, j < R → f (F + j + p) = f (F + j) := by
    intro j hj
    rcases Nat.lt_or_ge (j + p) R with q | q
    · exact (B j q).symm
    · have a := E (F + (j + p - R)) (by omega)
      have b : f (F + (j + p - R) + R) = f (F + j + p) := by congr 1; omega
      rw [← b, a]
      cases m with
      | zero => rw [Nat.zero_mul] at hm; omega
      | succ m =>
        rw [Nat.succ_mul] at hm
        have d := pw_B_st B (j + p - R) m (by omega)
        rw [← d]
        congr 1
        omega
  intro t ht
  have hk := Nat.mod_add_div (t - F) R
  have hlt := Nat.mod_lt (t - F) hR
  have e1 := pw_E_mul E ((t - F) / R) (F + (t - F) % R) (by omega)
  have e2 := pw_E_mul E ((t - F) / R) (F + (t - F) % R + p) (by omega)
  rw [Nat.mul_comm] at hk
  have t1 : F + (t - F) % R + (t - F) / R * R = t := by omega
  have t2 : F + (t - F) % R + p + (t - F) / R * R = t + p := by omega
  rw [t1] at e1
  rw [t2] at e2
  rw [e1, e2]
  exact base _ hlt
/-- the least p of such a search is the shortest RING -/
theorem pw_B_least {f : Nat → Bool} {F R p : Nat} (hR : 0 < R) (E : pw_E f F R) (hp : 0 < p) (hd : R % p = 0) (B : pw_B f F R p) (hl : ∀ q, 0 < q → q < p → ¬ (R % q = 0 ∧ pw_B f F R q)) : pw_E f F p ∧ ∀ q, 0 < q → q < p → ¬ pw_E f F q := by
  refine ⟨pw_B_E hp hR hd E B, ?_⟩
  intro q h0 hq Eq
  -- the least length of all divides the round
  obtain ⟨k, ⟨k0, kE⟩, kl⟩ := pk_least (fun k => 0 < k ∧ pw_E f F k) ⟨q, h0, Eq⟩
  have kq : k ≤ q := by
    rcases Nat.lt_or_ge q k with z | z
    · exact absurd ⟨h0, Eq⟩ (kl q z)
    · exact z
  have km : R % k = 0 := by
    rcases Nat.eq_zero_or_pos (R % k) with z | z
    · exact z
    · exact absurd ⟨z, pw_E_mod E kE⟩ (kl _ (Nat.mod_lt _ k0))
  exact hl k k0 (by omega) ⟨km, pw_B_of kE⟩
theorem pw_E_ex {f : Nat → Bool} {F R : Nat} (hR : 0 < R) (E : pw_E f F R) : ∃ h p, pw_Can f h p ∧ h ≤ F ∧ p ≤ R := by
  obtain ⟨p, ⟨p0, pE⟩, pl⟩ := pk_least (fun k => 0 < k ∧ pw_E f F k) ⟨R, hR, E⟩
  obtain ⟨h, hE, hl⟩ := pk_least (fun k => pw_E f k p) ⟨F, pE⟩
  have hF : h ≤ F := by
    rcases Nat.lt_or_ge F h with z | z
    · exact absurd pE (hl F z)
    · exact z
  have pR : p ≤ R := by
    rcases Nat.lt_or_ge R p with z | z
    · exact absurd ⟨hR, E⟩ (pl R z)
    · exact z
  refine ⟨h, p, pw_Can_of hR E p0 (fun q a b c => pl q b ⟨a, c⟩) hE ?_, hF, pR⟩
  rcases Nat.eq_zero_or_pos h with z | z
  · exact Or.inl z
  · right
    intro e
    refine hl (h - 1) (by omega) ?_
    intro t ht
    rcases Nat.lt_or_ge t h with y | y
    · have : t = h - 1 := by omega
      subst this
      exact e.symm
    · exact hE t y
/-! bits into a number -/
def pw_b (f : Nat → Bool) (s : Nat) : Nat → Nat
  | 0 => 0
  | n + 1 => pw_b f s n + (f (s + n)).toNat * 2 ^ n
theorem pw_b_s (f : Nat → Bool) (s n : Nat) : pw_b f s (n + 1) = pw_b f s n + (f (s + n)).toNat * 2 ^ n := rfl
theorem pw_b_lt (f : Nat → Bool) (s n : Nat) : pw_b f s n < 2 ^ n := by
  induction n with
  | zero => exact Nat.one_pos
  | succ n ih =>
    rw [pw_b_s, Nat.pow_succ]
    rcases pw_tn (f (s + n)) with z | z <;> rw [z.1] <;> omega
theorem pw_b_t (f : Nat → Bool) (s n : Nat) : ∀ i, i < n → (pw_b f s n).testBit i = f (s + i) := by
  induction n with
  | zero => intro i h; omega
  | succ n ih =>
    intro i h
    have hl := pw_b_lt f s n
    rw [pw_b_s, Nat.add_comm, Nat.mul_comm, Nat.testBit_two_pow_mul_add _ hl]
    rcases Nat.lt_or_ge i n with q | q
    · rw [if_pos q, ih i q]
    · have : i = n := by omega
      subst this
      rw [if_neg (by omega), Nat.sub_self]
      rcases pw_tn (f (s + i)) with z | z <;> rw [z.1, z.2] <;> rfl
theorem pw_b_big (f : Nat → Bool) (s n i : Nat) (h : n ≤ i) : (pw_b f s n).testBit i = false :=
  Nat.testBit_lt_two_pow (Nat.lt_of_lt_of_le (pw_b_lt f s n) (Nat.pow_le_pow_right (by decide) h))
theorem pw_b_inj {f g : Nat → Bool} {s u n : Nat} (h : ∀ i, i < n → f (s + i) = g (u + i)) : pw_b f s n = pw_b g u n := by
  induction n with
  | zero => rfl
  | succ n ih => rw [pw_b_s, pw_b_s, ih (fun i hi => h i (by omega)), h n (by omega)]
/-- a number's 1s below k -/
def pw_p (x k : Nat) : Nat := pw_c (fun i => x.testBit i) k
theorem pw_p_b (f : Nat → Bool) (s n k : Nat) (h : k ≤ n) : pw_p (pw_b f s n) k = pw_c (fun i => f (s + i)) k := pw_c_congr (fun i hi => pw_b_t f s n i (by omega))
end
section
/-! the 1s of a word that comes back -/
def pw_o (f : Nat → Bool) (h p : Nat) : Nat := pw_c (fun i => f (h + i)) p
theorem pw_o_le (f : Nat → Bool) (h p : Nat) : pw_o f h p ≤ p := pw_c_le _ _
theorem pw_ring {f : Nat → Bool} {h p : Nat} (E : pw_E f h p) (k j : Nat) : pw_c f (h + (k * p + j)) = pw_c f h + (k * pw_o f h p + pw_c (fun i => f (h + i)) j) := by
  rw [pw_c_add]
  congr 1
  induction k with
  | zero => rw [Nat.zero_mul, Nat.zero_add, Nat.zero_mul, Nat.zero_add]
  | succ k ih =>
    have e : (k + 1) * p + j = p + (k * p + j) := by rw [Nat.succ_mul]; omega
    rw [e, pw_c_add]
    have c : pw_c (fun i => (fun i => f (h + i)) (p + i)) (k * p + j) = pw_c (fun i => f (h + i)) (k * p + j) := by
      refine pw_c_congr (fun i _ => ?_)
      have a := E (h + i) (by omega)
      show f (h + (p + i)) = f (h + i)
      rw [← a]
      congr 1
      omega
    rw [c, ih, Nat.succ_mul]
    show pw_o f h p + _ = _
    omega
theorem pw_c_per {f : Nat → Bool} {h p : Nat} (E : pw_E f h p) (hp : 0 < p) (k : Nat) {t : Nat} (ht : h ≤ t) : pw_c f (t + k * p) = pw_c f t + k * pw_o f h p := by
  have e := Nat.mod_add_div (t - h) p
  rw [Nat.mul_comm] at e
  have a := pw_ring E ((t - h) / p) ((t - h) % p)
  have b := pw_ring E ((t - h) / p + k) ((t - h) % p)
  have e1 : h + ((t - h) / p * p + (t - h) % p) = t := by omega
  have e2 : h + (((t - h) / p + k) * p + (t - h) % p) = t + k * p := by rw [Nat.add_mul]; omega
  rw [e1] at a
  rw [e2, Nat.add_mul] at b
  omega
theorem pw_c_far {f : Nat → Bool} {h p : Nat} (E : pw_E f h p) {t : Nat} (ht : h ≤ t) : pw_c f t = pw_c f h + ((t - h) / p * pw_o f h p + pw_c (fun i => f (h + i)) ((t - h) % p)) := by
  have e := Nat.mod_add_div (t - h) p
  rw [Nat.mul_comm] at e
  have a := pw_ring E ((t - h) / p) ((t - h) % p)
  have e1 : h + ((t - h) / p * p + (t - h) % p) = t := by omega
  rw [e1] at a
  exact a
theorem pw_N_per {f : Nat → Bool} {h p : Nat} (E : pw_E f h p) (hp : 0 < p) (k : Nat) {n t : Nat} (ht : h ≤ t) (N : pw_N f n t) : pw_N f (n + k * pw_o f h p) (t + k * p) := by
  refine ⟨by rw [pw_E_mul E k t ht]; exact N.1, ?_⟩
  rw [pw_c_per E hp k ht]
  have := N.2
  omega
theorem pw_N_far {f : Nat → Bool} {h n t : Nat} (N : pw_N f n t) (hn : pw_c f h < n) : h ≤ t := by
  rcases Nat.lt_or_ge t h with q | q
  · have := pw_c_mono (f := f) (show t + 1 ≤ h from q)
    have := pw_N_c N
    omega
  · exact q
theorem pw_o_0 {f : Nat → Bool} {h p : Nat} (E : pw_E f h p) (hp : 0 < p) (ho : pw_o f h p = 0) {t : Nat} (ht : h ≤ t) : f t = false := by
  have a := pw_c_per E hp 1 ht
  rw [ho] at a
  rcases pw_tn (f t) with z | z
  · exact z.2
  · have := pw_c_lt (show t < t + 1 * p by omega) z.2
    omega
theorem pw_o_0c {f : Nat → Bool} {h p : Nat} (E : pw_E f h p) (hp : 0 < p) (ho : pw_o f h p = 0) (t : Nat) : pw_c f t ≤ pw_c f h := by
  rcases Nat.lt_or_ge t h with q | q
  · exact pw_c_mono (by omega)
  · obtain ⟨k, rfl⟩ : ∃ k, t = h + k := ⟨t - h, by omega⟩
    rw [pw_c_add, pw_c_0 (f := fun i => f (h + i)) (fun i _ => pw_o_0 E hp ho (by omega))]
    omega
/-- is there an n-th 1? -/
theorem pw_has {f : Nat → Bool} {h p n : Nat} (E : pw_E f h p) (hp : 0 < p) (hn : 0 < n) : (∃ t, pw_N f n t) ↔ 0 < pw_o f h p ∨ n ≤ pw_c f h := by
  constructor
  · rintro ⟨t, N⟩
    rcases Nat.eq_zero_or_pos (pw_o f h p) with z | z
    · right
      have := pw_o_0c E hp z (t + 1)
      rw [pw_N_c N] at this
      exact this
    · exact Or.inl z
  · rintro (z | z)
    · have a := pw_c_per E hp n (Nat.le_refl h)
      have : n ≤ n * pw_o f h p := Nat.le_mul_of_pos_right n z
      obtain ⟨t, -, N⟩ := pw_N_of (f := f) hn (T := h + n * p) (by omega)
      exact ⟨t, N⟩
    · obtain ⟨t, -, N⟩ := pw_N_of hn z
      exact ⟨t, N⟩
/-- the n-th 1 behind the HEAD, by the place of the one in the RING -/
theorem pw_N_ring {f : Nat → Bool} {h p : Nat} (E : pw_E f h p) (hp : 0 < p) (k : Nat) {j pl : Nat} (hf : f (h + pl) = true) (hc : pw_c (fun i => f (h + i)) pl = j) : pw_N f (pw_c f h + (k * pw_o f h p + j) + 1) (h + (k * p + pl)) := by
  refine ⟨?_, ?_⟩
  · have a := pw_E_mul E k (h + pl) (by omega)
    rw [show h + (k * p + pl) = h + pl + k * p by omega, a]
    exact hf
  · rw [pw_ring E k pl, hc]
noncomputable def pw_tk (f : Nat → Bool) (n : Nat) : Nat := @dite _ (∃ t, pw_N f n t) (Classical.propDecidable _) (fun h => Classical.choose h) (fun _ => 0)
theorem pw_tk_of {f : Nat → Bool} {n t : Nat} (N : pw_N f n t) : pw_tk f n = t := by
  have h : ∃ t, pw_N f n t := ⟨t, N⟩
  unfold pw_tk
  rw [dif_pos h]
  exact pw_N_u (Classical.choose_spec h) N
theorem pw_tk_N {f : Nat → Bool} {n : Nat} (h : ∃ t, pw_N f n t) : pw_N f n (pw_tk f n) := by
  obtain ⟨t, N⟩ := h
  rw [pw_tk_of N]
  exact N
/-! the words that are made -/
def pw_and (f g : Nat → Bool) : Nat → Bool := fun t => f t && g t
def pw_or (f g : Nat → Bool) : Nat → Bool := fun t => f t || g t
def pw_xor (f g : Nat → Bool) : Nat → Bool := fun t => f t ^^ g t
def pw_not (f : Nat → Bool) : Nat → Bool := fun t => !f t
def pw_on (f g : Nat → Bool) : Nat → Bool := fun t => f t && g (pw_c f t)
noncomputable def pw_by (f g : Nat → Bool) : Nat → Bool := fun n => f (pw_tk g (n + 1))
def pw_late (f : Nat → Bool) (d : Nat) : Nat → Bool := fun t => if t < d then false else f (t - d)
def pw_half (f : Nat → Bool) : Nat → Bool := fun t => f t && decide (pw_c f t % 2 = 0)
noncomputable def pw_mk (how : Nat) (f g : Nat → Bool) (d : Nat) : Nat → Bool :=
  if how = 0 then pw_and f g else if how = 1 then pw_or f g else if how = 2 then pw_xor f g else if how = 3 then pw_not f else if how = 4 then pw_on f g else if how = 5 then pw_by f g else if how = 6 then pw_late f d else pw_half f
theorem pw_E_and {f g : Nat → Bool} {F R : Nat} (a : pw_E f F R) (b : pw_E g F R) : pw_E (pw_and f g) F R := fun t ht => by show (f (t + R) && g (t + R)) = _; rw [a t ht, b t ht]; rfl
theorem pw_E_or {f g : Nat → Bool} {F R : Nat} (a : pw_E f F R) (b : pw_E g F R) : pw_E (pw_or f g) F R := fun t ht => by show (f (t + R) || g (t + R)) = _; rw [a t ht, b t ht]; rfl
theorem pw_E_xor {f g : Nat → Bool} {F R : Nat} (a : pw_E f F R) (b : pw_E g F R) : pw_E (pw_xor f g) F R := fun t ht => by show (f (t + R) ^^ g (t + R)) = _; rw [a t ht, b t ht]; rfl
theorem pw_E_not {f : Nat → Bool} {F R : Nat} (a : pw_E f F R) : pw_E (pw_not f) F R := fun t ht => by show (!f (t + R)) = _; rw [a t ht]; rfl
theorem pw_E_late {f : Nat → Bool} {h p : Nat} (a : pw_E f h p) (d : Nat) : pw_E (pw_late f d) (h + d) p := fun t ht => by
  unfold pw_late
  rw [if_neg (by omega), if_neg (by omega), show t + p - d = t - d + p by omega, a (t - d) (by omega)]
theorem pw_E_half {f : Nat → Bool} {h p : Nat} (a : pw_E f h p) (hp : 0 < p) (k : Nat) (hk : k * pw_o f h p % 2 = 0) : pw_E (pw_half f) h (k * p) := fun t ht => by
  unfold pw_half
  rw [pw_E_mul a k t ht, pw_c_per a hp k ht, show (pw_c f t + k * pw_o f h p) % 2 = pw_c f t % 2 by omega]
theorem pw_E_on0 {f : Nat → Bool} {h p : Nat} (a : pw_E f h p) (hp : 0 < p) (ho : pw_o f h p = 0) (g : Nat → Bool) (R : Nat) : pw_E (pw_on f g) h R := fun t ht => by
  unfold pw_on
  rw [pw_o_0 a hp ho ht, pw_o_0 a hp ho (show h ≤ t + R by omega)]
  rfl
theorem pw_E_on {f g : Nat → Bool} {h p hb pb F : Nat} (a : pw_E f h p) (hp : 0 < p) (b : pw_E g hb pb) (hF : h ≤ F) (hc : hb ≤ pw_c f F) (k : Nat) (hd : pb ∣ k * pw_o f h p) : pw_E (pw_on f g) F (k * p) := fun t ht => by
  unfold pw_on
  rw [pw_E_mul a k t (by omega), pw_c_per a hp k (by omega), pw_E_dvd b hd (pw_c f t) (Nat.le_trans hc (pw_c_mono ht))]
theorem pw_E_by {f g : Nat → Bool} {ha pa hb pb M : Nat} (a : pw_E f ha pa) (b : pw_E g hb pb) (hpb : 0 < pb) (ho : 0 < pw_o g hb pb) (h1 : ha ≤ M) (h2 : hb ≤ M) (k : Nat) (hd : pa ∣ k * pb) : pw_E (pw_by f g) (pw_c g M) (k * pw_o g hb pb) := fun n hn => by
  obtain ⟨t, N⟩ := (pw_has b hpb (show 0 < n + 1 by omega)).mpr (Or.inl ho)
  have hM : M ≤ t := pw_N_far N (by omega)
  have N2 := pw_N_per b hpb k (show hb ≤ t by omega) N
  unfold pw_by
  rw [pw_tk_of N, show n + k * pw_o g hb pb + 1 = n + 1 + k * pw_o g hb pb by omega, pw_tk_of N2, pw_E_dvd a hd t (by omega)]
/-! what is kept between two words; how long one waits -/
def pw_ks (f g : Nat → Bool) : Nat → Nat
  | 0 => 0
  | n + 1 => max (pw_ks f g n) (pw_c f (n + 1) - pw_c g (n + 1))
theorem pw_ks_s (f g : Nat → Bool) (n : Nat) : pw_ks f g (n + 1) = max (pw_ks f g n) (pw_c f (n + 1) - pw_c g (n + 1)) := rfl
theorem pw_ks_ge (f g : Nat → Bool) {n N : Nat} (h : n ≤ N) : pw_c f n - pw_c g n ≤ pw_ks f g N := by
  induction N with
  | zero => have : n = 0 := by omega
            subst this; exact Nat.le_refl 0
  | succ N ih =>
    rw [pw_ks_s]
    rcases Nat.lt_or_ge n (N + 1) with q | q
    · have := ih (by omega); omega
    · have : n = N + 1 := by omega
      subst this; omega
theorem pw_ks_le {f g : Nat → Bool} {N x : Nat} (h : ∀ n, n ≤ N → pw_c f n - pw_c g n ≤ x) : pw_ks f g N ≤ x := by
  induction N with
  | zero => exact Nat.zero_le x
  | succ N ih =>
    rw [pw_ks_s]
    have := ih (fun n hn => h n (by omega))
    have := h (N + 1) (Nat.le_refl _)
    omega
theorem pw_ks_mono (f g : Nat → Bool) {N N' : Nat} (h : N ≤ N') : pw_ks f g N ≤ pw_ks f g N' := pw_ks_le (fun n hn => pw_ks_ge f g (by omega))
theorem pw_ks_st {f g : Nat → Bool} {ha pa hb pb M L N : Nat} (a : pw_E f ha pa) (b : pw_E g hb pb) (hpa : 0 < pa) (hpb : 0 < pb) (h1 : ha ≤ M) (h2 : hb ≤ M) (hL : 0 < L) (d1 : pa ∣ L) (d2 : pb ∣ L) (hr : pw_o f ha pa * pb = pw_o g hb pb * pa) (hN : M + L ≤ N) : pw_ks f g N = pw_ks f g (M + L) := by
  obtain ⟨x, hx⟩ := d1
  obtain ⟨y, hy⟩ := d2
  rw [Nat.mul_comm] at hx hy
  have hxy : x * pw_o f ha pa = y * pw_o g hb pb := by
    apply Nat.eq_of_mul_eq_mul_right hpb
    calc x * pw_o f ha pa * pb = x * (pw_o g hb pb * pa) := by rw [Nat.mul_assoc, hr]
      _ = x * pa * pw_o g hb pb := by rw [Nat.mul_comm (pw_o g hb pb) pa, Nat.mul_assoc]
      _ = y * pw_o g hb pb * pb := by rw [← hx, hy, Nat.mul_assoc, Nat.mul_assoc, Nat.mul_comm pb]
  have step : ∀ t, M ≤ t → pw_c f (t + L) - pw_c g (t + L) = pw_c f t - pw_c g t := by
    intro t ht
    have e1 := pw_c_per a hpa x (show ha ≤ t by omega)
    have e2 := pw_c_per b hpb y (show hb ≤ t by omega)
    rw [← hx] at e1
    rw [← hy] at e2
    omega
  have all : ∀ n t, t ≤ n → pw_c f t - pw_c g t ≤ pw_ks f g (M + L) := by
    intro n
    induction n with
    | zero => intro t ht; exact pw_ks_ge f g (by omega)
    | succ n ih =>
      intro t ht
      rcases Nat.lt_or_ge (M + L) t with q | q
      · have e := step (t - L) (by omega)
        rw [show t - L + L = t by omega] at e
        rw [e]
        exact ih (t - L) (by omega)
      · exact pw_ks_ge f g q
  exact Nat.le_antisymm (pw_ks_le (fun n _ => all n n (Nat.le_refl n))) (pw_ks_mono f g hN)
noncomputable def pw_md (f g : Nat → Bool) : Nat → Nat
  | 0 => 0
  | n + 1 => max (pw_md f g n) (pw_tk f (n + 1) - pw_tk g (n + 1))
theorem pw_md_s (f g : Nat → Bool) (n : Nat) : pw_md f g (n + 1) = max (pw_md f g n) (pw_tk f (n + 1) - pw_tk g (n + 1)) := rfl
theorem pw_md_ge (f g : Nat → Bool) {n N : Nat} (h0 : 0 < n) (h : n ≤ N) : pw_tk f n - pw_tk g n ≤ pw_md f g N := by
  induction N with
  | zero => omega
  | succ N ih =>
    rw [pw_md_s]
    rcases Nat.lt_or_ge n (N + 1) with q | q
    · have := ih (by omega); omega
    · have : n = N + 1 := by omega
      subst this; omega
theorem pw_md_le {f g : Nat → Bool} {N x : Nat} (h : ∀ n, 0 < n → n ≤ N → pw_tk f n - pw_tk g n ≤ x) : pw_md f g N ≤ x := by
  induction N with
  | zero => exact Nat.zero_le x
  | succ N ih =>
    rw [pw_md_s]
    have := ih (fun n h0 hn => h n h0 (by omega))
    have := h (N + 1) (by omega) (Nat.le_refl _)
    omega
theorem pw_md_mono (f g : Nat → Bool) {N N' : Nat} (h : N ≤ N') : pw_md f g N ≤ pw_md f g N' := pw_md_le (fun n h0 hn => pw_md_ge f g h0 (by omega))
theorem pw_tk_per {f : Nat → Bool} {h p n : Nat} (E : pw_E f h p) (hp : 0 < p) (ho : 0 < pw_o f h p) (hn : pw_c f h < n) (k : Nat) : pw_tk f (n + k * pw_o f h p) = pw_tk f n + k * p := by
  obtain ⟨t, N⟩ := (pw_has E hp (show 0 < n by omega)).mpr (Or.inl ho)
  rw [pw_tk_of N, pw_tk_of (pw_N_per E hp k (pw_N_far N hn) N)]
theorem pw_md_st {f g : Nat → Bool} {ha pa hb pb M L N : Nat} (a : pw_E f ha pa) (b : pw_E g hb pb) (hpa : 0 < pa) (hpb : 0 < pb) (hoa : 0 < pw_o f ha pa) (hob : 0 < pw_o g hb pb) (h1 : pw_c f ha ≤ M) (h2 : pw_c g hb ≤ M) (hL : 0 < L) (d1 : pw_o f ha pa ∣ L) (d2 : pw_o g hb pb ∣ L) (hr : pw_o g hb pb * pa ≤ pw_o f ha pa * pb) (hN : M + L ≤ N) : pw_md f g N = pw_md f g (M + L) := by
  obtain ⟨x, hx⟩ := d1
  obtain ⟨y, hy⟩ := d2
  rw [Nat.mul_comm] at hx hy
  have hxy : x * pa ≤ y * pb := by
    apply Nat.le_of_mul_le_mul_right _ hob
    calc x * pa * pw_o g hb pb = x * (pw_o g hb pb * pa) := by rw [Nat.mul_assoc, Nat.mul_comm pa]
      _ ≤ x * (pw_o f ha pa * pb) := Nat.mul_le_mul_left x hr
      _ = y * pb * pw_o g hb pb := by rw [← Nat.mul_assoc, ← hx, hy, Nat.mul_assoc, Nat.mul_assoc, Nat.mul_comm pb]
  have step : ∀ n, M < n → pw_tk f (n + L) - pw_tk g (n + L) ≤ pw_tk f n - pw_tk g n := by
    intro n hn
    have e1 := pw_tk_per a hpa hoa (show pw_c f ha < n by omega) x
    have e2 := pw_tk_per b hpb hob (show pw_c g hb < n by omega) y
    rw [← hx] at e1
    rw [← hy] at e2
    omega
  have all : ∀ n t, 0 < t → t ≤ n → pw_tk f t - pw_tk g t ≤ pw_md f g (M + L) := by
    intro n
    induction n with
    | zero => intro t h0 ht; omega
    | succ n ih =>
      intro t h0 ht
      rcases Nat.lt_or_ge (M + L) t with q | q
      · have e := step (t - L) (by omega)
        rw [show t - L + L = t by omega] at e
        exact Nat.le_trans e (ih (t - L) (by omega) (by omega))
      · exact pw_md_ge f g h0 q
  exact Nat.le_antisymm (pw_md_le (fun n h0 _ => all n n h0 (Nat.le_refl n))) (pw_md_mono f g hN)
/-- a is AHEAD of b, by the numbers of 1s -/
def pw_ah (f g : Nat → Bool) : Prop := ∀ t, pw_c g t ≤ pw_c f t
theorem pw_ah_iff (f g : Nat → Bool) : pw_ah f g ↔ ∀ n t, pw_N g n t → ∃ u, pw_N f n u ∧ u ≤ t := by
  constructor
  · intro h n t N
    have e := pw_N_c N
    have := h (t + 1)
    obtain ⟨u, hu, K⟩ := pw_N_of (f := f) (T := t + 1) (pw_N_pos N) (by omega)
    exact ⟨u, K, by omega⟩
  · intro h t
    rcases Nat.lt_or_ge (pw_c f t) (pw_c g t) with q | q
    · obtain ⟨t0, h0, N⟩ := pw_N_of (f := g) (n := pw_c f t + 1) (T := t) (by omega) q
      obtain ⟨u, K, hu⟩ := h _ _ N
      have := pw_c_mono (f := f) (show u + 1 ≤ t by omega)
      have := pw_N_c K
      omega
    · exact q
/-- one round behind both HEADS tells all -/
theorem pw_ah_round {f g : Nat → Bool} {ha pa hb pb M : Nat} (a : pw_E f ha pa) (b : pw_E g hb pb) (hpa : 0 < pa) (hpb : 0 < pb) (h1 : ha ≤ M) (h2 : hb ≤ M) : pw_ah f g ↔ pw_o g hb pb * pa ≤ pw_o f ha pa * pb ∧ ∀ t, t ≤ M + pa * pb → pw_c g t ≤ pw_c f t := by
  have ea : ∀ k t, M ≤ t → pw_c f (t + k * (pa * pb)) = pw_c f t + k * (pw_o f ha pa * pb) := by
    intro k t ht
    have := pw_c_per a hpa (k * pb) (show ha ≤ t by omega)
    rw [show k * (pa * pb) = k * pb * pa by rw [Nat.mul_assoc, Nat.mul_comm pa], this, Nat.mul_assoc, Nat.mul_comm pb]
  have eb : ∀ k t, M ≤ t → pw_c g (t + k * (pa * pb)) = pw_c g t + k * (pw_o g hb pb * pa) := by
    intro k t ht
    have := pw_c_per b hpb (k * pa) (show hb ≤ t by omega)
    rw [show k * (pa * pb) = k * pa * pb by rw [Nat.mul_assoc], this, Nat.mul_assoc, Nat.mul_comm pa]
  constructor
  · intro h
    refine ⟨?_, fun t _ => h t⟩
    rcases Nat.lt_or_ge (pw_o f ha pa * pb) (pw_o g hb pb * pa) with q | q
    · exfalso
      have k := h (M + (pw_c f M + 1) * (pa * pb))
      rw [ea _ M (Nat.le_refl M), eb _ M (Nat.le_refl M)] at k
      have z : (pw_c f M + 1) * (pw_o f ha pa * pb + 1) ≤ (pw_c f M + 1) * (pw_o g hb pb * pa) := Nat.mul_le_mul_left _ q
      rw [Nat.mul_add] at z
      omega
    · exact q
  · rintro ⟨hr, hs⟩
    have hL : 0 < pa * pb := Nat.mul_pos hpa hpb
    have all : ∀ n t, t ≤ n → pw_c g t ≤ pw_c f t := by
      intro n
      induction n with
      | zero => intro t ht; exact hs t (by omega)
      | succ n ih =>
        intro t ht
        rcases Nat.lt_or_ge (M + pa * pb) t with q | q
        · have e1 := ea 1 (t - pa * pb) (by omega)
          have e2 := eb 1 (t - pa * pb) (by omega)
          rw [Nat.one_mul, show t - pa * pb + pa * pb = t by omega] at e1 e2
          have := ih (t - pa * pb) (by omega)
          omega
        · exact hs t q
    exact fun t => all t t (Nat.le_refl t)
end
section
/-! the 1s of a long, eight bits at a time -/
theorem pw_p_le (x k : Nat) : pw_p x k ≤ k := pw_c_le _ _
theorem pw_p_byte (x k : Nat) : pw_p x (8 + k) = pw_p (x % 256) 8 + pw_p (x / 256) k := by
  unfold pw_p
  rw [pw_c_add]
  congr 1
  · refine pw_c_congr (fun i hi => ?_)
    rw [show (256 : Nat) = 2 ^ 8 from rfl, Nat.testBit_mod_two_pow]
    simp [hi]
  · refine pw_c_congr (fun i _ => ?_)
    rw [show (256 : Nat) = 2 ^ 8 from rfl, Nat.testBit_div_two_pow, Nat.add_comm]
theorem pw_split (a b c d : Nat) (hb : b < 256) (hd : d < 256) : (a * 256 + b) &&& (c * 256 + d) = (a &&& c) * 256 + (b &&& d) := by
  have hbd : b &&& d < 2 ^ 8 := Nat.and_lt_two_pow b (show d < 2 ^ 8 from hd)
  apply Nat.eq_of_testBit_eq
  intro i
  rw [Nat.testBit_and, Nat.mul_comm a, Nat.mul_comm c, Nat.mul_comm (a &&& c), show (256 : Nat) = 2 ^ 8 from rfl, Nat.testBit_two_pow_mul_add _ (show b < 2 ^ 8 from hb), Nat.testBit_two_pow_mul_add _ (show d < 2 ^ 8 from hd), Nat.testBit_two_pow_mul_add _ hbd]
  rcases Nat.lt_or_ge i 8 with q | q
  · rw [if_pos q, if_pos q, if_pos q, Nat.testBit_and]
  · rw [if_neg (by omega), if_neg (by omega), if_neg (by omega), Nat.testBit_and]
def pw_m5 : Nat → Nat
  | 0 => 0
  | n + 1 => pw_m5 n * 256 + 85
def pw_m3 : Nat → Nat
  | 0 => 0
  | n + 1 => pw_m3 n * 256 + 51
def pw_mf : Nat → Nat
  | 0 => 0
  | n + 1 => pw_mf n * 256 + 15
def pw_y (n x : Nat) : Nat := x - ((x / 2) &&& pw_m5 n)
def pw_z (n y : Nat) : Nat := (y &&& pw_m3 n) + ((y / 4) &&& pw_m3 n)
def pw_wf (n z : Nat) : Nat := (z + z / 16) &&& pw_mf n
def pw_q (n x : Nat) : Nat := pw_wf n (pw_z n (pw_y n x))
theorem pw_k1 : ∀ u, u < 2 → ∀ b, b < 256 → (u * 128 + b / 2) &&& 85 = (b / 2) &&& 85 := by decide +kernel
theorem pw_k2 : ∀ u, u < 4 → ∀ b, b < 256 → (u * 64 + b / 4) &&& 51 = (b / 4) &&& 51 := by decide +kernel
def pw_y8 (b : Nat) : Nat := b - ((b / 2) &&& 85)
def pw_z8 (c : Nat) : Nat := (c &&& 51) + ((c / 4) &&& 51)
theorem pw_k3 : ∀ b, b < 256 → ((b / 2) &&& 85) ≤ b ∧ pw_y8 b < 256 ∧ pw_z8 (pw_y8 b) ≤ 68 ∧ pw_z8 (pw_y8 b) % 16 ≤ 4 ∧ pw_z8 (pw_y8 b) / 16 ≤ 4 := by decide +kernel
theorem pw_k4 : ∀ u, u < 5 → ∀ b, b < 256 → (pw_z8 (pw_y8 b) + (u * 16 + pw_z8 (pw_y8 b) / 16)) &&& 15 = pw_p b 8 := by decide +kernel
theorem pw_y_s (n x b : Nat) (hb : b < 256) : pw_y (n + 1) (x * 256 + b) = pw_y n x * 256 + pw_y8 b := by
  have e : (x * 256 + b) / 2 = (x / 2) * 256 + ((x % 2) * 128 + b / 2) := by omega
  have hle : ((x / 2) &&& pw_m5 n) ≤ x := Nat.le_trans Nat.and_le_left (Nat.div_le_self _ _)
  have h3 := (pw_k3 b hb).1
  unfold pw_y
  show x * 256 + b - ((x * 256 + b) / 2 &&& (pw_m5 n * 256 + 85)) = _
  rw [e, pw_split _ _ _ _ (by omega) (by omega), pw_k1 (x % 2) (by omega) b hb]
  unfold pw_y8
  generalize (x / 2) &&& pw_m5 n = A at *
  generalize (b / 2) &&& 85 = B at *
  omega
theorem pw_z_s (n y c : Nat) (hc : c < 256) : pw_z (n + 1) (y * 256 + c) = pw_z n y * 256 + pw_z8 c := by
  have e : (y * 256 + c) / 4 = (y / 4) * 256 + ((y % 4) * 64 + c / 4) := by omega
  unfold pw_z
  show ((y * 256 + c) &&& (pw_m3 n * 256 + 51)) + ((y * 256 + c) / 4 &&& (pw_m3 n * 256 + 51)) = _
  rw [e, pw_split _ _ _ _ hc (by omega), pw_split _ _ _ _ (by omega) (by omega), pw_k2 (y % 4) (by omega) c hc]
  unfold pw_z8
  generalize y &&& pw_m3 n = A
  generalize (y / 4) &&& pw_m3 n = B
  generalize c &&& 51 = C
  generalize (c / 4) &&& 51 = D
  omega
theorem pw_q_s (n x b : Nat) (hb : b < 256) (hz : pw_z n (pw_y n x) % 16 ≤ 4) : pw_q (n + 1) (x * 256 + b) = pw_q n x * 256 + pw_p b 8 := by
  obtain ⟨-, h2, h3, h4, h5⟩ := pw_k3 b hb
  have h6 := pw_k4 (pw_z n (pw_y n x) % 16) (by omega) b hb
  unfold pw_q
  rw [pw_y_s n x b hb, pw_z_s n _ _ h2]
  unfold pw_wf
  generalize pw_z n (pw_y n x) = z at *
  generalize pw_z8 (pw_y8 b) = d at *
  have e : z * 256 + d + (z * 256 + d) / 16 = (z + z / 16) * 256 + (d + (z % 16 * 16 + d / 16)) := by omega
  show z * 256 + d + (z * 256 + d) / 16 &&& (pw_mf n * 256 + 15) = _
  rw [e, pw_split _ _ _ _ (by omega) (by omega), h6]
theorem pw_zl (n x : Nat) (h : n = 0 → x = 0) : pw_z n (pw_y n x) % 16 ≤ 4 := by
  cases n with
  | zero =>
    rw [h rfl]
    decide
  | succ n =>
    have e : x = x / 256 * 256 + x % 256 := by omega
    have hb : x % 256 < 256 := Nat.mod_lt _ (by decide)
    obtain ⟨-, h2, h3, h4, h5⟩ := pw_k3 (x % 256) hb
    rw [e, pw_y_s n _ _ hb, pw_z_s n _ _ h2]
    omega
theorem pw_q8 {x : Nat} (hx : x < 18446744073709551616) : ∃ p0 p1 p2 p3 p4 p5 p6 p7 : Nat, p0 ≤ 8 ∧ p1 ≤ 8 ∧ p2 ≤ 8 ∧ p3 ≤ 8 ∧ p4 ≤ 8 ∧ p5 ≤ 8 ∧ p6 ≤ 8 ∧ p7 ≤ 8 ∧ pw_p x 64 = p0 + (p1 + (p2 + (p3 + (p4 + (p5 + (p6 + p7)))))) ∧
    pw_q 8 x = (((((((p7 * 256 + p6) * 256 + p5) * 256 + p4) * 256 + p3) * 256 + p2) * 256 + p1) * 256 + p0) := by
  have stp : ∀ n x, (n = 0 → x / 256 = 0) → pw_q (n + 1) x = pw_q n (x / 256) * 256 + pw_p (x % 256) 8 := by
    intro n x h
    have e : x = x / 256 * 256 + x % 256 := by omega
    have s := pw_q_s n (x / 256) (x % 256) (Nat.mod_lt _ (by decide)) (pw_zl n _ h)
    rw [← e] at s
    exact s
  have b : ∀ n k x, k = 8 + n → pw_p x k = pw_p (x % 256) 8 + pw_p (x / 256) n := by
    intro n k x h
    rw [h]
    exact pw_p_byte x n
  refine ⟨pw_p (x % 256) 8, pw_p (x / 256 % 256) 8, pw_p (x / 256 / 256 % 256) 8, pw_p (x / 256 / 256 / 256 % 256) 8, pw_p (x / 256 / 256 / 256 / 256 % 256) 8, pw_p (x / 256 / 256 / 256 / 256 / 256 % 256) 8, pw_p (x / 256 / 256 / 256 / 256 / 256 / 256 % 256) 8, pw_p (x / 256 / 256 / 256 / 256 / 256 / 256 / 256 % 256) 8, pw_p_le _ _, pw_p_le _ _, pw_p_le _ _, pw_p_le _ _, pw_p_le _ _, pw_p_le _ _, pw_p_le _ _, pw_p_le _ _, ?_, ?_⟩
  · rw [b 56 64 x rfl, b 48 56 _ rfl, b 40 48 _ rfl, b 32 40 _ rfl, b 24 32 _ rfl, b 16 24 _ rfl, b 8 16 _ rfl, b 0 8 (x / 256 / 256 / 256 / 256 / 256 / 256 / 256) rfl]
    have z : ∀ y, pw_p y 0 = 0 := fun _ => rfl
    rw [z]
    omega
  · have e0 : x / 256 / 256 / 256 / 256 / 256 / 256 / 256 / 256 = 0 := by omega
    have z : pw_q 0 0 = 0 := by decide
    rw [stp 7 x (by omega), stp 6 _ (by omega), stp 5 _ (by omega), stp 4 _ (by omega), stp 3 _ (by omega), stp 2 _ (by omega), stp 1 _ (by omega), stp 0 _ (fun _ => e0), e0, z]
    omega
theorem pw_pop {x w : Nat} (hx : x < 18446744073709551616) (hw : w = pw_q 8 x) : w < 1152921504606846976 ∧ (w + w / 256 + (w + w / 256) / 65536 + (w + w / 256 + (w + w / 256) / 65536) / 4294967296) % 128 = pw_p x 64 := by
  obtain ⟨p0, p1, p2, p3, p4, p5, p6, p7, h0, h1, h2, h3, h4, h5, h6, h7, hp, hq⟩ := pw_q8 hx
  rw [hq] at hw
  rw [hp]
  have e1 : w / 256 = ((((((p7 * 256 + p6) * 256 + p5) * 256 + p4) * 256 + p3) * 256 + p2) * 256 + p1) := by omega
  refine ⟨by omega, ?_⟩
  rw [e1]
  obtain ⟨v, hv⟩ : ∃ v, v = w + ((((((p7 * 256 + p6) * 256 + p5) * 256 + p4) * 256 + p3) * 256 + p2) * 256 + p1) := ⟨_, rfl⟩
  rw [← hv]
  have e2 : v / 65536 = (((((p7 * 256 + (p6 + p7)) * 256 + (p5 + p6)) * 256 + (p4 + p5)) * 256 + (p3 + p4)) * 256 + (p2 + p3)) := by omega
  rw [e2]
  obtain ⟨u, hu⟩ : ∃ u, u = v + (((((p7 * 256 + (p6 + p7)) * 256 + (p5 + p6)) * 256 + (p4 + p5)) * 256 + (p3 + p4)) * 256 + (p2 + p3)) := ⟨_, rfl⟩
  rw [← hu]
  have e3 : u / 4294967296 = (((p7 * 256 + (p6 + p7)) * 256 + (p5 + p6 + p7)) * 256 + (p4 + p5 + p6 + p7)) := by omega
  rw [e3]
  omega
end
section
/-! ===== nI under and, xor, >>>, one bit, 65535 ===== -/
theorem nx_and (a b : Nat) : nI a &&& nI b = nI (a &&& b) := by
  apply Int32.toBitVec_inj.1
  show BitVec.ofNat 32 a &&& BitVec.ofNat 32 b = BitVec.ofNat 32 (a &&& b)
  apply BitVec.eq_of_getLsbD_eq
  intro i hi
  simp [hi]
theorem nx_xor (a b : Nat) : nI a ^^^ nI b = nI (a ^^^ b) := by
  apply Int32.toBitVec_inj.1
  show BitVec.ofNat 32 a ^^^ BitVec.ofNat 32 b = BitVec.ofNat 32 (a ^^^ b)
  apply BitVec.eq_of_getLsbD_eq
  intro i hi
  simp [hi]
theorem nx_cnt : ∀ j : Fin 32, (UInt32.ofNat j.val &&& Int32.toUInt32 31).toNat % 32 = j.val := by decide +kernel
theorem nx_ush {k j : Nat} (hk : k < 65536) (hj : j < 32) : ((nI k).toUInt32 >>> ((nI j).toUInt32 &&& Int32.toUInt32 31)).toInt32 = nI (k >>> j) := by
  have hs : k >>> j ≤ k := by
    rw [Nat.shiftRight_eq_div_pow]
    exact Nat.div_le_self _ _
  have e2 : UInt32.ofNat k >>> (UInt32.ofNat j &&& Int32.toUInt32 31) = UInt32.ofNat (k >>> j) := by
    apply UInt32.toNat_inj.1
    have h1 : (UInt32.ofNat k).toNat = k := Nat.mod_eq_of_lt (by omega)
    have h2 : (UInt32.ofNat (k >>> j)).toNat = k >>> j := Nat.mod_eq_of_lt (by omega)
    rw [UInt32.toNat_shiftRight, nx_cnt ⟨j, hj⟩, h1, h2]
  show (UInt32.ofNat k >>> (UInt32.ofNat j &&& Int32.toUInt32 31)).toInt32 = _
  rw [e2]
  rfl
theorem nx_bit {k j : Nat} (hk : k < 65536) (hj : j < 16) : (((nI k).toUInt32 >>> ((nI j).toUInt32 &&& Int32.toUInt32 31)).toInt32 &&& 1) = 0 ↔ k.testBit j = false := by
  rw [nx_ush hk (by omega)]
  show nI (k >>> j) &&& nI 1 = 0 ↔ _
  rw [nx_and, Nat.and_one_is_mod, ← nI_0, nI_eq (by omega) (by omega), Nat.testBit_eq_decide_div_mod_eq, Nat.shiftRight_eq_div_pow, decide_eq_false_iff_not]
  generalize k / 2 ^ j = z
  omega
theorem nx_mod (k : Nat) : nI k &&& 65535 = nI (k % 65536) := by
  show nI k &&& nI 65535 = _
  rw [nx_and, show (65535 : Nat) = 2 ^ 16 - 1 from rfl, Nat.and_two_pow_sub_one_eq_mod]
theorem nx_m16 {k : Nat} (h : k < 65536) : nI k &&& 65535 = nI k := by rw [nx_mod, Nat.mod_eq_of_lt h]
theorem nx_mask (x : Int32) : ∃ k, k < 65536 ∧ x &&& 65535 = nI k := by
  have e : x = nI x.toBitVec.toNat := by
    apply Int32.toBitVec_inj.1
    show x.toBitVec = BitVec.ofNat 32 x.toBitVec.toNat
    simp
  refine ⟨x.toBitVec.toNat % 65536, Nat.mod_lt _ (by omega), ?_⟩
  rw [← nx_mod, ← e]
/-! ===== lN n to 2^64: shifts, and, or, masks, one bit ===== -/
theorem wb_tb (n : Nat) : (lN n).toBitVec = BitVec.ofNat 64 n := rfl
theorem wb_inj {a b : Int64} (h : a.toBitVec = b.toBitVec) : a = b := Int64.toBitVec_inj.mp h
theorem wb_tn {n : Nat} (h : n < 2 ^ 64) : (lN n).toBitVec.toNat = n := by rw [wb_tb, BitVec.toNat_ofNat, Nat.mod_eq_of_lt h]
theorem wb_of (x : Int64) : ∃ n, n < 2 ^ 64 ∧ x = lN n := ⟨x.toBitVec.toNat, x.toBitVec.isLt, wb_inj (by rw [wb_tb]; simp)⟩
theorem wb_of32 (x : Int32) : ∃ n, n < 2 ^ 32 ∧ x = nI n := ⟨x.toBitVec.toNat, x.toBitVec.isLt, Int32.toBitVec_inj.mp (by show _ = BitVec.ofNat 32 _; simp)⟩
theorem wb_c : ∀ k, k < 64 → ((nI k).toInt64 &&& 63) = lN k := by decide +kernel
theorem wb_cu : ∀ k, k < 64 → ((nI k).toInt64.toUInt64 &&& Int64.toUInt64 63) = UInt64.ofNat k := by decide +kernel
theorem wb_sm : ∀ k, k < 64 → (BitVec.ofNat 64 k).smod 64 = BitVec.ofNat 64 k := by decide +kernel
theorem wb_pw {a b : Nat} (h : a ≤ b) : 2 ^ b = 2 ^ a * 2 ^ (b - a) := by rw [← Nat.pow_add]; congr 1; omega
theorem wb_lt2 {a b : Nat} (h : a < b) : 2 ^ a < 2 ^ b := Nat.pow_lt_pow_right (by decide) h
theorem wb_mod (n : Nat) : lN n = lN (n % 2 ^ 64) := wb_inj (by rw [wb_tb, wb_tb]; apply BitVec.eq_of_toNat_eq; rw [BitVec.toNat_ofNat, BitVec.toNat_ofNat, Nat.mod_mod])
theorem wb_shr {n k : Nat} (hn : n < 2 ^ 64) (hk : k < 64) : ((lN n).toUInt64 >>> ((nI k).toInt64.toUInt64 &&& Int64.toUInt64 63)).toInt64 = lN (n / 2 ^ k) := by
  rw [wb_cu k hk]
  apply wb_inj
  apply BitVec.eq_of_toNat_eq
  show ((lN n).toUInt64 >>> UInt64.ofNat k).toNat = (BitVec.ofNat 64 _).toNat
  have h1 : (UInt64.ofNat k).toNat = k := by
    show (BitVec.ofNat 64 k).toNat = k
    rw [BitVec.toNat_ofNat, Nat.mod_eq_of_lt (by omega)]
  have h2 : (lN n).toUInt64.toNat = n := wb_tn hn
  rw [UInt64.toNat_shiftRight, h1, h2, Nat.mod_eq_of_lt hk, Nat.shiftRight_eq_div_pow, BitVec.toNat_ofNat, Nat.mod_eq_of_lt (Nat.lt_of_le_of_lt (Nat.div_le_self _ _) hn)]
theorem wb_shl (n : Nat) {k : Nat} (hk : k < 64) : lN n <<< ((nI k).toInt64 &&& 63) = lN (n * 2 ^ k) := by
  rw [wb_c k hk]
  apply wb_inj
  rw [Int64.toBitVec_shiftLeft, wb_tb, wb_tb, wb_tb, wb_sm k hk]
  apply BitVec.eq_of_toNat_eq
  rw [BitVec.shiftLeft_eq', BitVec.toNat_shiftLeft, BitVec.toNat_ofNat, BitVec.toNat_ofNat, BitVec.toNat_ofNat, Nat.mod_eq_of_lt (show k < 2 ^ 64 by omega), Nat.shiftLeft_eq, Nat.mul_mod, Nat.mod_mod, ← Nat.mul_mod]
theorem wb_and {a b : Nat} (ha : a < 2 ^ 64) (hb : b < 2 ^ 64) : lN a &&& lN b = lN (a &&& b) := by
  apply wb_inj
  rw [Int64.toBitVec_and, wb_tb, wb_tb, wb_tb]
  apply BitVec.eq_of_toNat_eq
  rw [BitVec.toNat_and, BitVec.toNat_ofNat, BitVec.toNat_ofNat, BitVec.toNat_ofNat, Nat.mod_eq_of_lt ha, Nat.mod_eq_of_lt hb, Nat.mod_eq_of_lt (Nat.and_lt_two_pow _ hb)]
theorem wb_or {a b : Nat} (ha : a < 2 ^ 64) (hb : b < 2 ^ 64) : lN a ||| lN b = lN (a ||| b) := by
  apply wb_inj
  rw [Int64.toBitVec_or, wb_tb, wb_tb, wb_tb]
  apply BitVec.eq_of_toNat_eq
  rw [BitVec.toNat_or, BitVec.toNat_ofNat, BitVec.toNat_ofNat, BitVec.toNat_ofNat, Nat.mod_eq_of_lt ha, Nat.mod_eq_of_lt hb, Nat.mod_eq_of_lt (Nat.or_lt_two_pow ha hb)]
theorem wb_mask {n k : Nat} (hn : n < 2 ^ 64) (hk : k < 64) : lN n &&& lN (2 ^ k - 1) = lN (n % 2 ^ k) := by
  rw [wb_and hn (by have := wb_lt2 hk; omega), Nat.and_two_pow_sub_one_eq_mod]
theorem wb_a1 {n : Nat} (hn : n < 2 ^ 64) : lN n &&& 1 = lN (n % 2) := wb_mask (k := 1) hn (by decide)
theorem wb_bit {n k : Nat} (hn : n < 2 ^ 64) (hk : k < 64) : ((lN n).toUInt64 >>> ((nI k).toInt64.toUInt64 &&& Int64.toUInt64 63)).toInt64 &&& 1 = lN (n / 2 ^ k % 2) := by
  rw [wb_shr hn hk, wb_a1 (Nat.lt_of_le_of_lt (Nat.div_le_self _ _) hn)]
theorem wb_xor {q k : Nat} (hk : k < 63) (h : 2 ^ k ≤ q) (h2 : q < 2 ^ (k + 1)) : lN q ^^^ lN (2 ^ k) = lN (q - 2 ^ k) := by
  obtain ⟨r, rfl⟩ : ∃ r, q = 2 ^ k + r := ⟨q - 2 ^ k, by omega⟩
  have hr : r < 2 ^ k := by rw [Nat.pow_succ] at h2; omega
  have hx : (2 ^ k + r) ^^^ 2 ^ k = r := by
    apply Nat.eq_of_testBit_eq
    intro i
    rw [Nat.testBit_xor, Nat.testBit_two_pow]
    rcases Nat.lt_trichotomy i k with h | h | h
    · rw [Nat.testBit_two_pow_add_gt h]
      simp [show ¬ k = i by omega]
    · subst h
      rw [Nat.testBit_two_pow_add_eq]
      simp
    · have a1 : 2 ^ (k + 1) ≤ 2 ^ i := Nat.pow_le_pow_right (by decide) h
      rw [Nat.testBit_lt_two_pow (show 2 ^ k + r < 2 ^ i by omega), Nat.testBit_lt_two_pow (show r < 2 ^ i by omega)]
      simp [show ¬ k = i by omega]
  have b1 := wb_lt2 (show k + 1 < 64 by omega)
  have b2 := wb_lt2 (show k < 64 by omega)
  apply wb_inj
  rw [Int64.toBitVec_xor, wb_tb, wb_tb, wb_tb]
  apply BitVec.eq_of_toNat_eq
  rw [BitVec.toNat_xor, BitVec.toNat_ofNat, BitVec.toNat_ofNat, BitVec.toNat_ofNat, Nat.mod_eq_of_lt (by omega : 2 ^ k + r < 2 ^ 64), Nat.mod_eq_of_lt b2, hx, Nat.add_sub_cancel_left, Nat.mod_eq_of_lt (by omega)]
/-! ===== lN: masks, 'or' of parts that don't overlap is a sum ===== -/
theorem u_tn {n : Nat} (h : n < 2 ^ 64) : (UInt64.ofNat n).toNat = n := Nat.mod_eq_of_lt h
theorem g_and {a b c : Nat} (ha : a < 2 ^ 64) (hb : b < 2 ^ 64) (hc : a &&& b = c) : lN a &&& lN b = lN c := by
  subst hc
  have h : UInt64.ofNat a &&& UInt64.ofNat b = UInt64.ofNat (a &&& b) := UInt64.toNat_inj.mp (by rw [UInt64.toNat_and, u_tn ha, u_tn hb, u_tn (Nat.and_lt_two_pow a hb)])
  have h2 := congrArg UInt64.toInt64 h
  exact h2
theorem g_and1 {a : Nat} (ha : a < 2 ^ 64) : lN a &&& 1 = lN (a % 2) := g_and (b := 1) ha (by decide) (Nat.and_two_pow_sub_one_eq_mod a 1)
theorem g_mask {a s p : Nat} (hp : 2 ^ s = p) (hs : s < 64) (ha : a < 2 ^ 64) : lN a &&& lN (p - 1) = lN (a % p) := by
  subst hp
  have := Nat.pow_lt_pow_right (show 1 < 2 by decide) hs
  exact g_and ha (by omega) (Nat.and_two_pow_sub_one_eq_mod a s)
theorem g_or {k p a b : Nat} (hp : 2 ^ k = p) (ha : a < p) (h : b * p + a < 2 ^ 64) : lN (b * p) ||| lN a = lN (b * p + a) := by
  subst hp
  have h1 : b * 2 ^ k ||| a = b * 2 ^ k + a := by rw [← Nat.shiftLeft_eq, Nat.shiftLeft_add_eq_or_of_lt ha]
  have h3 : UInt64.ofNat (b * 2 ^ k) ||| UInt64.ofNat a = UInt64.ofNat (b * 2 ^ k + a) := UInt64.toNat_inj.mp (by rw [UInt64.toNat_or, u_tn (by omega), u_tn (by omega), u_tn h, h1])
  have h2 := congrArg UInt64.toInt64 h3
  exact h2
theorem g_or' {k p a b : Nat} (hp : 2 ^ k = p) (ha : a < p) (h : a + b * p < 2 ^ 64) : lN a ||| lN (b * p) = lN (a + b * p) := by
  rw [Int64.or_comm, g_or hp ha (by omega), Nat.add_comm]
theorem g_ushr {a k p : Nat} {y : UInt64} (hy : y = UInt64.ofNat k) (hk : k < 64) (hp : 2 ^ k = p) (ha : a < 2 ^ 64) : ((lN a).toUInt64 >>> y).toInt64 = lN (a / p) := by
  subst hy hp
  have h : UInt64.ofNat a >>> UInt64.ofNat k = UInt64.ofNat (a / 2 ^ k) := UInt64.toNat_inj.mp (by rw [UInt64.toNat_shiftRight, u_tn ha, u_tn (by omega), u_tn (Nat.lt_of_le_of_lt (Nat.div_le_self _ _) ha), Nat.mod_eq_of_lt hk, Nat.shiftRight_eq_div_pow])
  have h2 := congrArg UInt64.toInt64 h
  exact h2
theorem g_shl {a k p : Nat} {y : Int64} (hy : y.toBitVec.smod 64 = BitVec.ofNat 64 k) (hk : k < 64) (hp : 2 ^ k = p) (ha : a < 2 ^ 64) : lN a <<< y = lN (a * p) := by
  subst hp
  apply Int64.toBitVec_inj.mp
  rw [Int64.toBitVec_shiftLeft, hy]
  apply BitVec.eq_of_toNat_eq
  have hb : (lN a).toBitVec.toNat = a := Nat.mod_eq_of_lt ha
  have hk' : (BitVec.ofNat 64 k).toNat = k := Nat.mod_eq_of_lt (by omega)
  have h : ((lN a).toBitVec <<< BitVec.ofNat 64 k).toNat = (a * 2 ^ k) % 2 ^ 64 := by simp only [BitVec.shiftLeft_eq', BitVec.toNat_shiftLeft, hb, hk', Nat.shiftLeft_eq]
  exact h
/-! ===== lN to 2^62 under >> and >>> ===== -/
theorem pf_lI {a : Nat} (h : a < 2 ^ 63) : (lN a).toInt = (a : Int) := lg_ofNat_toInt h
theorem pf_shr {a d : Nat} {D : Int64} (hD : (D.toBitVec.smod 64).toNat = d) (h : a < 2 ^ 62) : lN a >>> D = lN (a / 2 ^ d) := by
  have hd : a / 2 ^ d ≤ a := Nat.div_le_self _ _
  apply Int64.toInt_inj.mp
  have e : (lN a >>> D).toInt = (lN a).toInt >>> d := by
    rw [← hD]
    exact BitVec.toInt_sshiftRight ..
  rw [e, Int.shiftRight_eq_div_pow, pf_lI (by omega), pf_lI (by omega)]
  rfl
theorem pf_ushr {a d : Nat} {D : UInt64} (hD : D.toNat % 64 = d) (h : a < 2 ^ 62) : ((lN a).toUInt64 >>> D).toInt64 = lN (a / 2 ^ d) := by
  have hd : a / 2 ^ d ≤ a := Nat.div_le_self _ _
  have e : (lN a).toUInt64 >>> D = UInt64.ofNat (a / 2 ^ d) := UInt64.toNat_inj.mp (by
    rw [UInt64.toNat_shiftRight, hD, Nat.shiftRight_eq_div_pow, UInt64.toNat_ofNat']
    show (UInt64.ofNat a).toNat / 2 ^ d = _
    rw [UInt64.toNat_ofNat', Nat.mod_eq_of_lt (by omega), Nat.mod_eq_of_lt (by omega)])
  rw [e]
  rfl
theorem pf_andw (x : Int64) : ∃ m, m < 2 ^ 32 ∧ x &&& 4294967295 = lN m := ⟨x.toBitVec.toNat % 2 ^ 32, Nat.mod_lt _ (by decide), Int64.toBitVec_inj.mp (BitVec.eq_of_toNat_eq (by
  show (x.toBitVec &&& 4294967295#64).toNat = (BitVec.ofNat 64 (x.toBitVec.toNat % 2 ^ 32)).toNat
  rw [BitVec.toNat_and, show (4294967295#64).toNat = 2 ^ 32 - 1 from by decide, Nat.and_two_pow_sub_one_eq_mod, BitVec.toNat_ofNat]
  omega))⟩
end
section
/-! longs that are Nats, and their bits -/
theorem pq_bitN (n t : Nat) : n / 2 ^ t % 2 = (n.testBit t).toNat := by
  rw [Nat.testBit_eq_decide_div_mod_eq]
  have := Nat.mod_lt (n / 2 ^ t) (show 0 < 2 by decide)
  rcases Nat.lt_or_ge (n / 2 ^ t % 2) 1 with h | h
  · rw [decide_eq_false (by omega)]; show _ = 0; omega
  · rw [decide_eq_true (by omega)]; show _ = 1; omega
theorem pq_and1 (a : Nat) : nI a &&& nI 1 = nI (a % 2) := by rw [nx_and, Nat.and_one_is_mod]
theorem pq_lushr {n k : Nat} (hn : n < 2 ^ 64) (hk : k < 64) : ((lN n).toUInt64 >>> ((nI k).toInt64.toUInt64 &&& Int64.toUInt64 63)).toInt64 = lN (n / 2 ^ k) := wb_shr hn hk
theorem pq_sm : ∀ k, k < 64 → (((nI k).toInt64 &&& 63).toBitVec.smod 64).toNat = k := by decide +kernel
theorem pq_lshr {n k : Nat} (hn : n < 2 ^ 62) (hk : k < 64) : lN n >>> ((nI k).toInt64 &&& 63) = lN (n / 2 ^ k) := pf_shr (pq_sm k hk) hn
theorem pq_lshl (n : Nat) {k : Nat} (hk : k < 64) : lN n <<< ((nI k).toInt64 &&& 63) = lN (n * 2 ^ k) := wb_shl n hk
theorem pq_p60 : (2 : Nat) ^ 60 < 2 ^ 62 ∧ (2 : Nat) ^ 60 < 2 ^ 64 := by decide
theorem pq_lt60 {n k : Nat} (h : n < 2 ^ k) (hk : k ≤ 60) : n < 2 ^ 60 := Nat.lt_of_lt_of_le h (Nat.pow_le_pow_right (by decide) hk)
theorem pq_d {n k : Nat} (hn : n < 2 ^ 60) : n / 2 ^ k < 2 ^ 60 := Nat.lt_of_le_of_lt (Nat.div_le_self _ _) hn
theorem pq_cmpN {a b : Nat} (ha : a < 2 ^ 63) (hb : b < 2 ^ 63) : lg_cmp (lN a) (lN b) = 0 ↔ a = b := by rw [lg_cmp_eq, pk_lEQ ha hb]
/-- the mask of the lowest bits -/
theorem pq_mask {n k : Nat} (hn : n < 2 ^ 64) (hk : k < 64) : lN n &&& lN (2 ^ k - 1) = lN (n % 2 ^ k) := wb_mask hn hk
theorem pq_p_mod (x k n : Nat) (h : k ≤ n) : pw_p (x % 2 ^ k) n = pw_p x k := by
  unfold pw_p
  obtain ⟨j, rfl⟩ : ∃ j, n = k + j := ⟨n - k, by omega⟩
  rw [pw_c_add]
  have z : pw_c (fun i => (fun i => (x % 2 ^ k).testBit i) (k + i)) j = 0 := pw_c_0 (fun i _ => by
    show (x % 2 ^ k).testBit (k + i) = false
    rw [Nat.testBit_mod_two_pow, decide_eq_false (by omega), Bool.false_and])
  rw [z, Nat.add_zero]
  refine pw_c_congr (fun i hi => ?_)
  show (x % 2 ^ k).testBit i = x.testBit i
  rw [Nat.testBit_mod_two_pow, decide_eq_true hi, Bool.true_and]
theorem pq_p_lt {x k n : Nat} (hx : x < 2 ^ k) (h : k ≤ n) : pw_p x n = pw_p x k := by
  have := pq_p_mod x k n h
  rwa [Nat.mod_eq_of_lt hx] at this
end
section
/-! the lowest 1 of a long; a long as a register of bits -/
theorem pw_low_split {x k : Nat} (hk : x.testBit k = true) (hl : ∀ j, j < k → x.testBit j = false) : ∃ m, x = 2 ^ k * (2 * m + 1) := by
  have h0 : x % 2 ^ k = 0 := by
    apply Nat.eq_of_testBit_eq
    intro i
    rw [Nat.testBit_mod_two_pow, Nat.zero_testBit]
    rcases Nat.lt_or_ge i k with q | q
    · rw [hl i q, Bool.and_false]
    · rw [decide_eq_false (by omega), Bool.false_and]
  have h1 : x / 2 ^ k % 2 = 1 := by rw [pq_bitN, hk]; rfl
  refine ⟨x / 2 ^ k / 2, ?_⟩
  have e := Nat.mod_add_div x (2 ^ k)
  rw [h0, Nat.zero_add] at e
  have e2 : 2 * (x / 2 ^ k / 2) + 1 = x / 2 ^ k := by omega
  rw [e2, e]
theorem pw_low {x k : Nat} (hx : x < 2 ^ 64) (hk : x.testBit k = true) (hl : ∀ j, j < k → x.testBit j = false) : x &&& (2 ^ 64 - x) = 2 ^ k := by
  obtain ⟨m, hm⟩ := pw_low_split hk hl
  have hp : 0 < 2 ^ k := Nat.two_pow_pos k
  have h1 : 0 < x := by rw [hm]; exact Nat.mul_pos hp (by omega)
  have hy : x - 1 = 2 ^ k * (2 * m) + (2 ^ k - 1) := by rw [hm, Nat.mul_add]; omega
  have e : 2 ^ 64 - x = 2 ^ 64 - ((x - 1) + 1) := by omega
  apply Nat.eq_of_testBit_eq
  intro i
  rw [Nat.testBit_and, e, Nat.testBit_two_pow_sub_succ (by omega), hy, Nat.testBit_two_pow_mul_add _ (by omega), Nat.testBit_two_pow]
  rcases Nat.lt_trichotomy i k with q | q | q
  · rw [hl i q, Bool.false_and, decide_eq_false (by omega)]
  · subst q
    have hi : i < 64 := by
      rcases Nat.lt_or_ge i 64 with z | z
      · exact z
      · rw [Nat.testBit_lt_two_pow (Nat.lt_of_lt_of_le hx (Nat.pow_le_pow_right (by decide) z))] at hk
        cases hk
    rw [hk, if_neg (by omega), Nat.sub_self, decide_eq_true hi, decide_eq_true rfl]
    simp
  · rw [if_neg (by omega), decide_eq_false (show ¬ k = i by omega)]
    have a : x.testBit i = (2 * m).testBit (i - k) := by
      rw [hm, show 2 ^ k * (2 * m + 1) = 2 ^ k * (2 * m + 1) + 0 by omega, Nat.testBit_two_pow_mul_add _ hp, if_neg (by omega)]
      obtain ⟨j, hj⟩ : ∃ j, i - k = j + 1 := ⟨i - k - 1, by omega⟩
      rw [hj, Nat.testBit_succ, Nat.testBit_succ]
      congr 1
      omega
    rw [a]
    cases (2 * m).testBit (i - k) <;> simp
theorem pw_ones (k : Nat) (hk : k ≤ 64) : pw_p (2 ^ k - 1) 64 = k := by
  have h : ∀ n, pw_c (fun i => (2 ^ k - 1).testBit i) n = min n k := by
    intro n
    induction n with
    | zero => rw [Nat.zero_min]; rfl
    | succ n ih =>
      rw [pw_c_s, ih]
      show min n k + ((2 ^ k - 1).testBit n).toNat = _
      rw [Nat.testBit_two_pow_sub_one]
      rcases Nat.lt_or_ge n k with q | q
      · rw [decide_eq_true q]; show min n k + 1 = _; omega
      · rw [decide_eq_false (by omega)]; show min n k + 0 = _; omega
  unfold pw_p
  rw [h]
  omega
theorem pq_neg {x : Nat} (hx : x < 2 ^ 64) : -(lN x) = lN (2 ^ 64 - x) := by
  apply wb_inj
  rw [Int64.toBitVec_neg, wb_tb, wb_tb]
  apply BitVec.eq_of_toNat_eq
  rw [BitVec.toNat_neg, BitVec.toNat_ofNat, BitVec.toNat_ofNat, Nat.mod_eq_of_lt hx]
theorem pq_not {y : Nat} (hy : y < 2 ^ 64) : lN y ^^^ (-1) = lN (2 ^ 64 - (y + 1)) := by
  apply wb_inj
  rw [Int64.toBitVec_xor, wb_tb, wb_tb]
  apply BitVec.eq_of_getLsbD_eq
  intro i hi
  have ha : (-1 : Int64).toBitVec = BitVec.allOnes 64 := by decide
  rw [ha, BitVec.getLsbD_xor, BitVec.getLsbD_allOnes, BitVec.getLsbD_ofNat, BitVec.getLsbD_ofNat, Nat.testBit_two_pow_sub_succ hy, decide_eq_true hi]
  cases y.testBit i <;> rfl
theorem pq_lsb2 {y b : Nat} (hb : b < 2) : ∃ z, z < 2 ^ 64 ∧ (lN y <<< ((nI 1).toInt64 &&& 63)) ||| lN b = lN z ∧ z.testBit 0 = decide (b = 1) ∧ ∀ j, j + 1 < 64 → z.testBit (j + 1) = y.testBit j := by
  have h2 : b < 2 ^ 64 := Nat.lt_of_lt_of_le hb (by decide)
  have h1 : y * 2 ^ 1 % 2 ^ 64 < 2 ^ 64 := Nat.mod_lt _ (by decide)
  refine ⟨(y * 2 ^ 1 % 2 ^ 64) ||| b, Nat.or_lt_two_pow h1 h2, ?_, ?_, ?_⟩
  · rw [wb_shl y (show 1 < 64 by decide), wb_mod (y * 2 ^ 1), wb_or h1 h2]
  · rw [Nat.testBit_or, Nat.testBit_mod_two_pow, ← Nat.shiftLeft_eq, Nat.testBit_shiftLeft]
    rcases (show b = 0 ∨ b = 1 by omega) with rfl | rfl <;> simp
  · intro j hj
    rw [Nat.testBit_or, Nat.testBit_mod_two_pow, ← Nat.shiftLeft_eq, Nat.testBit_shiftLeft, decide_eq_true hj]
    have hbj : b.testBit (j + 1) = false := Nat.testBit_lt_two_pow (Nat.lt_of_lt_of_le hb (Nat.pow_le_pow_right (n := 2) (i := 1) (by decide) (by omega)))
    rw [hbj]
    simp
end
section
/-! rows for ints that are Nats: nI -/
section
variable {p : Program} {l : Launch} {e : Env} {R : Room} {s : State} {m : MethodId} {args : Array Value} {below : List Frame} {meth : Method} {c : Code} {H : Heap} {locs : List Loc} {cells slots : Nat} {Q : State → Prop} {cc : ByteArray} {pc : Nat} {ls : Array Slot} {rest : List Value}
theorem pq_top {x y : Value} (h : x = y) (k : W p l e R s m args below meth c H locs cells slots Q (F0 m pc ls (y :: rest))) : W p l e R s m args below meth c H locs cells slots Q (F0 m pc ls (x :: rest)) := by rw [h]; exact k
theorem pq_iadd (hx : p.tables.exec = Jvm.exec) (hb : c.code = cc) {a b : Nat} (hdg : decode cc pc = .ok (.iadd, 1)) (k : W p l e R s m args below meth c H locs cells slots Q (F0 m (pc + 1) ls (.int (nI (a + b)) :: rest))) : W p l e R s m args below meth c H locs cells slots Q (F0 m pc ls (.int (nI b) :: .int (nI a) :: rest)) := lv_iadd hx hb hdg (by rw [nI_add]; exact k)
theorem pq_isub (hx : p.tables.exec = Jvm.exec) (hb : c.code = cc) {a b : Nat} (hdg : decode cc pc = .ok (.isub, 1)) (h : b ≤ a) (k : W p l e R s m args below meth c H locs cells slots Q (F0 m (pc + 1) ls (.int (nI (a - b)) :: rest))) : W p l e R s m args below meth c H locs cells slots Q (F0 m pc ls (.int (nI b) :: .int (nI a) :: rest)) := lv_isub hx hb hdg (by rw [pk_sub h]; exact k)
theorem pq_imul (hx : p.tables.exec = Jvm.exec) (hb : c.code = cc) {a b : Nat} (hdg : decode cc pc = .ok (.imul, 1)) (k : W p l e R s m args below meth c H locs cells slots Q (F0 m (pc + 1) ls (.int (nI (a * b)) :: rest))) : W p l e R s m args below meth c H locs cells slots Q (F0 m pc ls (.int (nI b) :: .int (nI a) :: rest)) := lv_imul hx hb hdg (by rw [pk_mul]; exact k)
theorem pq_idiv (hx : p.tables.exec = Jvm.exec) (hb : c.code = cc) {a b : Nat} (hdg : decode cc pc = .ok (.idiv, 1)) (ha : a < 2 ^ 31) (h0 : 0 < b) (hb2 : b < 2 ^ 31) (k : W p l e R s m args below meth c H locs cells slots Q (F0 m (pc + 1) ls (.int (nI (a / b)) :: rest))) : W p l e R s m args below meth c H locs cells slots Q (F0 m pc ls (.int (nI b) :: .int (nI a) :: rest)) := lv_idiv hx hb hdg (nI_ne0 h0 hb2) (by rw [pk_div ha h0 hb2]; exact k)
theorem pq_irem (hx : p.tables.exec = Jvm.exec) (hb : c.code = cc) {a b : Nat} (hdg : decode cc pc = .ok (.irem, 1)) (ha : a < 2 ^ 31) (h0 : 0 < b) (hb2 : b < 2 ^ 31) (k : W p l e R s m args below meth c H locs cells slots Q (F0 m (pc + 1) ls (.int (nI (a % b)) :: rest))) : W p l e R s m args below meth c H locs cells slots Q (F0 m pc ls (.int (nI b) :: .int (nI a) :: rest)) := lv_irem hx hb hdg (nI_ne0 h0 hb2) (by rw [pk_rem ha h0 hb2]; exact k)
theorem pq_icmp_lt (hx : p.tables.exec = Jvm.exec) (hb : c.code = cc) {a b : Nat} {off : Int} {tgt : Nat} (hdg : decode cc pc = .ok (.if_icmp .lt off, 3)) (ht : (pc : Int) + off = (tgt : Int)) (ha : a < 2 ^ 31) (hb2 : b < 2 ^ 31) (kt : a < b → W p l e R s m args below meth c H locs cells slots Q (F0 m tgt ls rest)) (kf : b ≤ a → W p l e R s m args below meth c H locs cells slots Q (F0 m (pc + 3) ls rest)) : W p l e R s m args below meth c H locs cells slots Q (F0 m pc ls (.int (nI b) :: .int (nI a) :: rest)) :=
  lv_icmp_lt hx hb hdg ht (fun h => kt ((nI_ltI ha hb2).mp h)) (fun h => kf (Nat.le_of_not_lt (fun z => h ((nI_ltI ha hb2).mpr z))))
theorem pq_icmp_ge (hx : p.tables.exec = Jvm.exec) (hb : c.code = cc) {a b : Nat} {off : Int} {tgt : Nat} (hdg : decode cc pc = .ok (.if_icmp .ge off, 3)) (ht : (pc : Int) + off = (tgt : Int)) (ha : a < 2 ^ 31) (hb2 : b < 2 ^ 31) (kt : b ≤ a → W p l e R s m args below meth c H locs cells slots Q (F0 m tgt ls rest)) (kf : a < b → W p l e R s m args below meth c H locs cells slots Q (F0 m (pc + 3) ls rest)) : W p l e R s m args below meth c H locs cells slots Q (F0 m pc ls (.int (nI b) :: .int (nI a) :: rest)) :=
  lv_icmp_ge hx hb hdg ht (fun h => kt ((nI_leI hb2 ha).mp h)) (fun h => kf (Nat.lt_of_not_le (fun z => h ((nI_leI hb2 ha).mpr z))))
theorem pq_icmp_gt (hx : p.tables.exec = Jvm.exec) (hb : c.code = cc) {a b : Nat} {off : Int} {tgt : Nat} (hdg : decode cc pc = .ok (.if_icmp .gt off, 3)) (ht : (pc : Int) + off = (tgt : Int)) (ha : a < 2 ^ 31) (hb2 : b < 2 ^ 31) (kt : b < a → W p l e R s m args below meth c H locs cells slots Q (F0 m tgt ls rest)) (kf : a ≤ b → W p l e R s m args below meth c H locs cells slots Q (F0 m (pc + 3) ls rest)) : W p l e R s m args below meth c H locs cells slots Q (F0 m pc ls (.int (nI b) :: .int (nI a) :: rest)) :=
  lv_icmp_gt hx hb hdg ht (fun h => kt ((nI_ltI hb2 ha).mp h)) (fun h => kf (Nat.le_of_not_lt (fun z => h ((nI_ltI hb2 ha).mpr z))))
theorem pq_icmp_le (hx : p.tables.exec = Jvm.exec) (hb : c.code = cc) {a b : Nat} {off : Int} {tgt : Nat} (hdg : decode cc pc = .ok (.if_icmp .le off, 3)) (ht : (pc : Int) + off = (tgt : Int)) (ha : a < 2 ^ 31) (hb2 : b < 2 ^ 31) (kt : a ≤ b → W p l e R s m args below meth c H locs cells slots Q (F0 m tgt ls rest)) (kf : b < a → W p l e R s m args below meth c H locs cells slots Q (F0 m (pc + 3) ls rest)) : W p l e R s m args below meth c H locs cells slots Q (F0 m pc ls (.int (nI b) :: .int (nI a) :: rest)) :=
  lv_icmp_le hx hb hdg ht (fun h => kt ((nI_leI ha hb2).mp h)) (fun h => kf (Nat.lt_of_not_le (fun z => h ((nI_leI ha hb2).mpr z))))
theorem pq_icmp_eq (hx : p.tables.exec = Jvm.exec) (hb : c.code = cc) {a b : Nat} {off : Int} {tgt : Nat} (hdg : decode cc pc = .ok (.if_icmp .eq off, 3)) (ht : (pc : Int) + off = (tgt : Int)) (ha : a < 2 ^ 31) (hb2 : b < 2 ^ 31) (kt : a = b → W p l e R s m args below meth c H locs cells slots Q (F0 m tgt ls rest)) (kf : a ≠ b → W p l e R s m args below meth c H locs cells slots Q (F0 m (pc + 3) ls rest)) : W p l e R s m args below meth c H locs cells slots Q (F0 m pc ls (.int (nI b) :: .int (nI a) :: rest)) :=
  lv_icmp_eq hx hb hdg ht (fun h => kt ((nI_eq ha hb2).mp h)) (fun h => kf (fun z => h ((nI_eq ha hb2).mpr z)))
theorem pq_icmp_ne (hx : p.tables.exec = Jvm.exec) (hb : c.code = cc) {a b : Nat} {off : Int} {tgt : Nat} (hdg : decode cc pc = .ok (.if_icmp .ne off, 3)) (ht : (pc : Int) + off = (tgt : Int)) (ha : a < 2 ^ 31) (hb2 : b < 2 ^ 31) (kt : a ≠ b → W p l e R s m args below meth c H locs cells slots Q (F0 m tgt ls rest)) (kf : a = b → W p l e R s m args below meth c H locs cells slots Q (F0 m (pc + 3) ls rest)) : W p l e R s m args below meth c H locs cells slots Q (F0 m pc ls (.int (nI b) :: .int (nI a) :: rest)) :=
  lv_icmp_ne hx hb hdg ht (fun h => kt (fun z => h ((nI_eq ha hb2).mpr z))) (fun h => kf ((nI_eq ha hb2).mp h))
theorem pq_if_lt (hx : p.tables.exec = Jvm.exec) (hb : c.code = cc) {a : Nat} {off : Int} (hdg : decode cc pc = .ok (.ifCond .lt off, 3)) {tgt : Nat} (ht : (pc : Int) + off = (tgt : Int)) (ha : a < 2 ^ 31) (kf : W p l e R s m args below meth c H locs cells slots Q (F0 m (pc + 3) ls rest)) : W p l e R s m args below meth c H locs cells slots Q (F0 m pc ls (.int (nI a) :: rest)) :=
  lv_if_lt hx hb hdg ht (fun h => absurd h (nI_pos ha)) (fun _ => kf)
theorem pq_if_ge (hx : p.tables.exec = Jvm.exec) (hb : c.code = cc) {a : Nat} {off : Int} (hdg : decode cc pc = .ok (.ifCond .ge off, 3)) {tgt : Nat} (ht : (pc : Int) + off = (tgt : Int)) (ha : a < 2 ^ 31) (kt : W p l e R s m args below meth c H locs cells slots Q (F0 m tgt ls rest)) : W p l e R s m args below meth c H locs cells slots Q (F0 m pc ls (.int (nI a) :: rest)) :=
  lv_if_ge hx hb hdg ht (fun _ => kt) (fun h => absurd (nI_pos' ha) h)
theorem pq_if_gt (hx : p.tables.exec = Jvm.exec) (hb : c.code = cc) {a : Nat} {off : Int} (hdg : decode cc pc = .ok (.ifCond .gt off, 3)) {tgt : Nat} (ht : (pc : Int) + off = (tgt : Int)) (ha : a < 2 ^ 31) (kt : 0 < a → W p l e R s m args below meth c H locs cells slots Q (F0 m tgt ls rest)) (kf : a = 0 → W p l e R s m args below meth c H locs cells slots Q (F0 m (pc + 3) ls rest)) : W p l e R s m args below meth c H locs cells slots Q (F0 m pc ls (.int (nI a) :: rest)) :=
  lv_if_gt hx hb hdg ht (fun h => kt ((nI_ltI (a := 0) (by decide) ha).mp h)) (fun h => kf (Nat.eq_zero_of_not_pos (fun z => h ((nI_ltI (a := 0) (by decide) ha).mpr z))))
theorem pq_if_le (hx : p.tables.exec = Jvm.exec) (hb : c.code = cc) {a : Nat} {off : Int} (hdg : decode cc pc = .ok (.ifCond .le off, 3)) {tgt : Nat} (ht : (pc : Int) + off = (tgt : Int)) (ha : a < 2 ^ 31) (kt : a = 0 → W p l e R s m args below meth c H locs cells slots Q (F0 m tgt ls rest)) (kf : 0 < a → W p l e R s m args below meth c H locs cells slots Q (F0 m (pc + 3) ls rest)) : W p l e R s m args below meth c H locs cells slots Q (F0 m pc ls (.int (nI a) :: rest)) :=
  lv_if_le hx hb hdg ht (fun h => kt (Nat.le_zero.mp ((nI_leI (b := 0) ha (by decide)).mp h))) (fun h => kf (Nat.pos_of_ne_zero (fun z => h ((nI_leI (b := 0) ha (by decide)).mpr (Nat.le_of_eq z)))))
theorem pq_if_eq (hx : p.tables.exec = Jvm.exec) (hb : c.code = cc) {a : Nat} {off : Int} (hdg : decode cc pc = .ok (.ifCond .eq off, 3)) {tgt : Nat} (ht : (pc : Int) + off = (tgt : Int)) (ha : a < 2 ^ 31) (kt : a = 0 → W p l e R s m args below meth c H locs cells slots Q (F0 m tgt ls rest)) (kf : 0 < a → W p l e R s m args below meth c H locs cells slots Q (F0 m (pc + 3) ls rest)) : W p l e R s m args below meth c H locs cells slots Q (F0 m pc ls (.int (nI a) :: rest)) :=
  lv_if_eq hx hb hdg ht (fun h => kt ((nI_eq (b := 0) ha (by decide)).mp h)) (fun h => kf (Nat.pos_of_ne_zero (fun z => h ((nI_eq (b := 0) ha (by decide)).mpr z))))
theorem pq_if_ne (hx : p.tables.exec = Jvm.exec) (hb : c.code = cc) {a : Nat} {off : Int} (hdg : decode cc pc = .ok (.ifCond .ne off, 3)) {tgt : Nat} (ht : (pc : Int) + off = (tgt : Int)) (ha : a < 2 ^ 31) (kt : 0 < a → W p l e R s m args below meth c H locs cells slots Q (F0 m tgt ls rest)) (kf : a = 0 → W p l e R s m args below meth c H locs cells slots Q (F0 m (pc + 3) ls rest)) : W p l e R s m args below meth c H locs cells slots Q (F0 m pc ls (.int (nI a) :: rest)) :=
  lv_if_ne hx hb hdg ht (fun h => kt (Nat.pos_of_ne_zero (fun z => h ((nI_eq (b := 0) ha (by decide)).mpr z)))) (fun h => kf ((nI_eq (b := 0) ha (by decide)).mp h))
end
theorem pq_max {a b : Nat} (ha : a < 2 ^ 31) (hb : b < 2 ^ 31) : (if nI a < nI b then nI b else nI a) = nI (max a b) := by
  rcases Nat.lt_or_ge a b with h | h
  · rw [if_pos ((nI_ltI ha hb).mpr h), Nat.max_eq_right (by omega)]
  · rw [if_neg (fun z => by have := (nI_ltI ha hb).mp z; omega), Nat.max_eq_left h]
theorem pq_inc (i : Nat) : nI i + Int32.ofInt 1 = nI (i + 1) := nI_1 i
theorem pq_dec (i : Nat) (h : 0 < i) : nI i + Int32.ofInt (-1) = nI (i - 1) := by
  obtain ⟨j, rfl⟩ : ∃ j, i = j + 1 := ⟨i - 1, by omega⟩
  exact pk_m1 j
theorem pq_cl {n : Nat} (h : n < 2 ^ 31) : (nI n).toNatClampNeg = n := nI_clamp h
end
section
-- ===== PART A: goes FIRST, ahead of the names: the tables' words, and 'selects' of the private methods out of them =====
/-- a private method of a class that the tables say can be made, by its rows of tables_1 -/
def lw_okq (q : MethodName × Nat) : Prop := (q.1.cls ≠ "java/lang/invoke/MethodHandle" ∧ q.1.cls ≠ "java/lang/invoke/VarHandle") ∧ Cond.instantiable q.1.cls q.2 ∈ tables_1 ∧ Cond.privateMethod q.1 ∈ tables_1 ∧ Cond.instanceMethod q.1 ∈ tables_1
theorem lw_p0 : lw_okq (⟨"PeriodWords", "keep", "(LPeriodWords$Word;)I"⟩, 2) := ⟨⟨by decide +kernel, by decide +kernel⟩, List.mem_of_getElem? (i := 15) (by decide +kernel), List.mem_of_getElem? (i := 167) (by decide +kernel), List.mem_of_getElem? (i := 168) (by decide +kernel)⟩
theorem lw_p1 : lw_okq (⟨"PeriodWords", "find", "(I)LPeriodWords$Word;"⟩, 2) := ⟨⟨by decide +kernel, by decide +kernel⟩, List.mem_of_getElem? (i := 15) (by decide +kernel), List.mem_of_getElem? (i := 175) (by decide +kernel), List.mem_of_getElem? (i := 176) (by decide +kernel)⟩
theorem lw_p2 : lw_okq (⟨"java/lang/Throwable", "fillInStackTrace", "(I)Ljava/lang/Throwable;"⟩, 6) := ⟨⟨by decide +kernel, by decide +kernel⟩, List.mem_of_getElem? (i := 270) (by decide +kernel), List.mem_of_getElem? (i := 268) (by decide +kernel), List.mem_of_getElem? (i := 269) (by decide +kernel)⟩
theorem lw_p3 : lw_okq (⟨"PeriodWordsModel", "settle", "(II)I"⟩, 9) := ⟨⟨by decide +kernel, by decide +kernel⟩, List.mem_of_getElem? (i := 354) (by decide +kernel), List.mem_of_getElem? (i := 401) (by decide +kernel), List.mem_of_getElem? (i := 402) (by decide +kernel)⟩
theorem lw_p4 : lw_okq (⟨"PeriodWordsModel", "comesBack", "(III)Z"⟩, 9) := ⟨⟨by decide +kernel, by decide +kernel⟩, List.mem_of_getElem? (i := 354) (by decide +kernel), List.mem_of_getElem? (i := 405) (by decide +kernel), List.mem_of_getElem? (i := 406) (by decide +kernel)⟩
theorem lw_p5 : lw_okq (⟨"PeriodWordsModel", "isWord", "(I)Z"⟩, 9) := ⟨⟨by decide +kernel, by decide +kernel⟩, List.mem_of_getElem? (i := 354) (by decide +kernel), List.mem_of_getElem? (i := 413) (by decide +kernel), List.mem_of_getElem? (i := 414) (by decide +kernel)⟩
theorem lw_p6 : lw_okq (⟨"PeriodWordsModel", "inRing", "(I)I"⟩, 9) := ⟨⟨by decide +kernel, by decide +kernel⟩, List.mem_of_getElem? (i := 354) (by decide +kernel), List.mem_of_getElem? (i := 417) (by decide +kernel), List.mem_of_getElem? (i := 418) (by decide +kernel)⟩
theorem lw_p7 : lw_okq (⟨"PeriodWordsModel", "raise", "()I"⟩, 9) := ⟨⟨by decide +kernel, by decide +kernel⟩, List.mem_of_getElem? (i := 354) (by decide +kernel), List.mem_of_getElem? (i := 424) (by decide +kernel), List.mem_of_getElem? (i := 425) (by decide +kernel)⟩
theorem lw_p8 : lw_okq (⟨"PeriodWordsModel", "opposite", "(I)I"⟩, 9) := ⟨⟨by decide +kernel, by decide +kernel⟩, List.mem_of_getElem? (i := 354) (by decide +kernel), List.mem_of_getElem? (i := 428) (by decide +kernel), List.mem_of_getElem? (i := 429) (by decide +kernel)⟩
theorem lw_p9 : lw_okq (⟨"PeriodWordsModel", "has", "(II)Z"⟩, 9) := ⟨⟨by decide +kernel, by decide +kernel⟩, List.mem_of_getElem? (i := 354) (by decide +kernel), List.mem_of_getElem? (i := 432) (by decide +kernel), List.mem_of_getElem? (i := 433) (by decide +kernel)⟩
theorem lw_p10 : lw_okq (⟨"PeriodWordsModel", "on", "(II)I"⟩, 9) := ⟨⟨by decide +kernel, by decide +kernel⟩, List.mem_of_getElem? (i := 354) (by decide +kernel), List.mem_of_getElem? (i := 436) (by decide +kernel), List.mem_of_getElem? (i := 437) (by decide +kernel)⟩
theorem lw_p11 : lw_okq (⟨"PeriodWordsModel", "by", "(II)I"⟩, 9) := ⟨⟨by decide +kernel, by decide +kernel⟩, List.mem_of_getElem? (i := 354) (by decide +kernel), List.mem_of_getElem? (i := 440) (by decide +kernel), List.mem_of_getElem? (i := 441) (by decide +kernel)⟩
theorem lw_p12 : lw_okq (⟨"PeriodWordsModel", "late", "(II)I"⟩, 9) := ⟨⟨by decide +kernel, by decide +kernel⟩, List.mem_of_getElem? (i := 354) (by decide +kernel), List.mem_of_getElem? (i := 447) (by decide +kernel), List.mem_of_getElem? (i := 448) (by decide +kernel)⟩
theorem lw_p13 : lw_okq (⟨"PeriodWordsModel", "halved", "(I)I"⟩, 9) := ⟨⟨by decide +kernel, by decide +kernel⟩, List.mem_of_getElem? (i := 354) (by decide +kernel), List.mem_of_getElem? (i := 451) (by decide +kernel), List.mem_of_getElem? (i := 452) (by decide +kernel)⟩
theorem lw_p14 : lw_okq (⟨"PeriodWordsModel", "joined", "(III)I"⟩, 9) := ⟨⟨by decide +kernel, by decide +kernel⟩, List.mem_of_getElem? (i := 354) (by decide +kernel), List.mem_of_getElem? (i := 455) (by decide +kernel), List.mem_of_getElem? (i := 456) (by decide +kernel)⟩
theorem lw_p15 : lw_okq (⟨"PeriodWordsModel", "onesAhead", "(II)I"⟩, 9) := ⟨⟨by decide +kernel, by decide +kernel⟩, List.mem_of_getElem? (i := 354) (by decide +kernel), List.mem_of_getElem? (i := 475) (by decide +kernel), List.mem_of_getElem? (i := 476) (by decide +kernel)⟩
def lw_privs_1 : List (MethodName × Nat) := [(⟨"PeriodWords", "keep", "(LPeriodWords$Word;)I"⟩, 2), (⟨"PeriodWords", "find", "(I)LPeriodWords$Word;"⟩, 2), (⟨"java/lang/Throwable", "fillInStackTrace", "(I)Ljava/lang/Throwable;"⟩, 6), (⟨"PeriodWordsModel", "settle", "(II)I"⟩, 9), (⟨"PeriodWordsModel", "comesBack", "(III)Z"⟩, 9), (⟨"PeriodWordsModel", "isWord", "(I)Z"⟩, 9), (⟨"PeriodWordsModel", "inRing", "(I)I"⟩, 9), (⟨"PeriodWordsModel", "raise", "()I"⟩, 9), (⟨"PeriodWordsModel", "opposite", "(I)I"⟩, 9), (⟨"PeriodWordsModel", "has", "(II)Z"⟩, 9), (⟨"PeriodWordsModel", "on", "(II)I"⟩, 9), (⟨"PeriodWordsModel", "by", "(II)I"⟩, 9), (⟨"PeriodWordsModel", "late", "(II)I"⟩, 9), (⟨"PeriodWordsModel", "halved", "(I)I"⟩, 9), (⟨"PeriodWordsModel", "joined", "(III)I"⟩, 9), (⟨"PeriodWordsModel", "onesAhead", "(II)I"⟩, 9)]
theorem lw_r1 : ∀ q ∈ lw_privs_1, lw_okq q := List.forall_mem_cons.mpr ⟨lw_p0, List.forall_mem_cons.mpr ⟨lw_p1, List.forall_mem_cons.mpr ⟨lw_p2, List.forall_mem_cons.mpr ⟨lw_p3, List.forall_mem_cons.mpr ⟨lw_p4, List.forall_mem_cons.mpr ⟨lw_p5, List.forall_mem_cons.mpr ⟨lw_p6, List.forall_mem_cons.mpr ⟨lw_p7, List.forall_mem_cons.mpr ⟨lw_p8, List.forall_mem_cons.mpr ⟨lw_p9, List.forall_mem_cons.mpr ⟨lw_p10, List.forall_mem_cons.mpr ⟨lw_p11, List.forall_mem_cons.mpr ⟨lw_p12, List.forall_mem_cons.mpr ⟨lw_p13, List.forall_mem_cons.mpr ⟨lw_p14, List.forall_mem_cons.mpr ⟨lw_p15, fun _ h => absurd h List.not_mem_nil⟩⟩⟩⟩⟩⟩⟩⟩⟩⟩⟩⟩⟩⟩⟩⟩
theorem lw_p16 : lw_okq (⟨"PeriodWordsModel", "place", "(II)I"⟩, 9) := ⟨⟨by decide +kernel, by decide +kernel⟩, List.mem_of_getElem? (i := 354) (by decide +kernel), List.mem_of_getElem? (i := 484) (by decide +kernel), List.mem_of_getElem? (i := 485) (by decide +kernel)⟩
theorem lw_p17 : lw_okq (⟨"PeriodWordsModel", "rates", "(II)I"⟩, 9) := ⟨⟨by decide +kernel, by decide +kernel⟩, List.mem_of_getElem? (i := 354) (by decide +kernel), List.mem_of_getElem? (i := 496) (by decide +kernel), List.mem_of_getElem? (i := 497) (by decide +kernel)⟩
theorem lw_p18 : lw_okq (⟨"PeriodWordsModel", "keep", "(II)V"⟩, 9) := ⟨⟨by decide +kernel, by decide +kernel⟩, List.mem_of_getElem? (i := 354) (by decide +kernel), List.mem_of_getElem? (i := 500) (by decide +kernel), List.mem_of_getElem? (i := 501) (by decide +kernel)⟩
theorem lw_p19 : lw_okq (⟨"PeriodWordsModel", "till", "(II)I"⟩, 9) := ⟨⟨by decide +kernel, by decide +kernel⟩, List.mem_of_getElem? (i := 354) (by decide +kernel), List.mem_of_getElem? (i := 504) (by decide +kernel), List.mem_of_getElem? (i := 505) (by decide +kernel)⟩
theorem lw_p20 : lw_okq (⟨"PeriodWordsModel", "waiting", "(II)I"⟩, 9) := ⟨⟨by decide +kernel, by decide +kernel⟩, List.mem_of_getElem? (i := 354) (by decide +kernel), List.mem_of_getElem? (i := 512) (by decide +kernel), List.mem_of_getElem? (i := 513) (by decide +kernel)⟩
def lw_privs_2 : List (MethodName × Nat) := [(⟨"PeriodWordsModel", "place", "(II)I"⟩, 9), (⟨"PeriodWordsModel", "rates", "(II)I"⟩, 9), (⟨"PeriodWordsModel", "keep", "(II)V"⟩, 9), (⟨"PeriodWordsModel", "till", "(II)I"⟩, 9), (⟨"PeriodWordsModel", "waiting", "(II)I"⟩, 9)]
theorem lw_r2 : ∀ q ∈ lw_privs_2, lw_okq q := List.forall_mem_cons.mpr ⟨lw_p16, List.forall_mem_cons.mpr ⟨lw_p17, List.forall_mem_cons.mpr ⟨lw_p18, List.forall_mem_cons.mpr ⟨lw_p19, List.forall_mem_cons.mpr ⟨lw_p20, fun _ h => absurd h List.not_mem_nil⟩⟩⟩⟩⟩
def lw_privs : List (MethodName × Nat) := lw_privs_1 ++ (lw_privs_2)
def lw_tbl : List Cond := k2_sels lw_privs ++ tables_1
theorem lw_privs_ok : ∀ q ∈ lw_privs, lw_okq q := by
  show ∀ q ∈ lw_privs_1 ++ (lw_privs_2), lw_okq q
  exact List.forall_mem_append.mpr ⟨lw_r1, lw_r2⟩
def R_D : String := "PeriodWords$Draft"
def R_W : String := "PeriodWords$Word"
def R_P : String := "PeriodWords"
def R_M : String := "PeriodWordsModel"
def R_L : String := "PeriodWordsLaw"
def R_JL : String := "java/lang/Long"
def R_JI : String := "java/lang/Integer"
def F_D : u_T := fun k => match k with
  | 0 => ("PeriodWords$Draft", "headLength", "I", true)
  | 1 => ("PeriodWords$Draft", "ringLength", "I", true)
  | 2 => ("PeriodWords$Draft", "how", "I", true)
  | 3 => ("PeriodWords$Draft", "a", "LPeriodWords$Word;", true)
  | 4 => ("PeriodWords$Draft", "b", "LPeriodWords$Word;", true)
  | _ => ("PeriodWords$Draft", "late", "I", true)
def t_D : Nat → FieldType := fun k => match k with
  | 0 => .int
  | 1 => .int
  | 2 => .int
  | 3 => .object "PeriodWords$Word"
  | 4 => .object "PeriodWords$Word"
  | _ => .int
theorem n_D : ∀ a, a < 6 → ∀ b, b < 6 → a ≠ b → (F_D a).2.1 ≠ (F_D b).2.1 := by decide +kernel
theorem t_D_ok : ∀ k, k < 6 → parseFieldDescriptor (F_D k).2.2.1 = some (t_D k) := by decide +kernel
def F_W : u_T := fun k => match k with
  | 0 => ("PeriodWords$Word", "headLength", "I", true)
  | 1 => ("PeriodWords$Word", "headBits", "J", true)
  | 2 => ("PeriodWords$Word", "ringLength", "I", true)
  | 3 => ("PeriodWords$Word", "ringBits", "J", true)
  | 4 => ("PeriodWords$Word", "headOnes", "I", true)
  | 5 => ("PeriodWords$Word", "ringOnes", "I", true)
  | _ => ("PeriodWords$Word", "places", "[I", true)
def t_W : Nat → FieldType := fun k => match k with
  | 0 => .int
  | 1 => .long
  | 2 => .int
  | 3 => .long
  | 4 => .int
  | 5 => .int
  | _ => .array (.int)
theorem n_W : ∀ a, a < 7 → ∀ b, b < 7 → a ≠ b → (F_W a).2.1 ≠ (F_W b).2.1 := by decide +kernel
theorem t_W_ok : ∀ k, k < 7 → parseFieldDescriptor (F_W k).2.2.1 = some (t_W k) := by decide +kernel
def F_P : u_T := fun k => match k with
  | 0 => ("PeriodWords", "words", "[LPeriodWords$Word;", true)
  | _ => ("PeriodWords", "count", "I", false)
def t_P : Nat → FieldType := fun k => match k with
  | 0 => .array (.object "PeriodWords$Word")
  | _ => .int
theorem n_P : ∀ a, a < 2 → ∀ b, b < 2 → a ≠ b → (F_P a).2.1 ≠ (F_P b).2.1 := by decide +kernel
theorem t_P_ok : ∀ k, k < 2 → parseFieldDescriptor (F_P k).2.2.1 = some (t_P k) := by decide +kernel
def F_M : u_T := fun k => match k with
  | 0 => ("PeriodWordsModel", "thrown", "I", false)
  | 1 => ("PeriodWordsModel", "words", "I", false)
  | 2 => ("PeriodWordsModel", "head", "[I", true)
  | 3 => ("PeriodWordsModel", "ring", "[I", true)
  | 4 => ("PeriodWordsModel", "headBits", "[J", true)
  | 5 => ("PeriodWordsModel", "ringBits", "[J", true)
  | 6 => ("PeriodWordsModel", "bits", "[Z", true)
  | 7 => ("PeriodWordsModel", "most", "I", false)
  | _ => ("PeriodWordsModel", "least", "I", false)
def t_M : Nat → FieldType := fun k => match k with
  | 0 => .int
  | 1 => .int
  | 2 => .array (.int)
  | 3 => .array (.int)
  | 4 => .array (.long)
  | 5 => .array (.long)
  | 6 => .array (.boolean)
  | 7 => .int
  | _ => .int
theorem n_M : ∀ a, a < 9 → ∀ b, b < 9 → a ≠ b → (F_M a).2.1 ≠ (F_M b).2.1 := by decide +kernel
theorem t_M_ok : ∀ k, k < 9 → parseFieldDescriptor (F_M k).2.2.1 = some (t_M k) := by decide +kernel
abbrev vwCl : List vw_C := [(R_D, F_D, 6), (R_W, F_W, 7), (R_P, F_P, 2), (R_M, F_M, 9)]
abbrev ciD : Nat := 0
abbrev ciW : Nat := 1
abbrev ciP : Nat := 2
abbrev ciM : Nat := 3
abbrev b_P_init : ByteArray := prog_1_method_1_code
def y_P_init : MethodName := ⟨R_P, "<init>", "()V"⟩
abbrev b_P_word : ByteArray := prog_1_method_2_code
def y_P_word : MethodName := ⟨R_P, "word", "(IIII)I"⟩
abbrev b_P_make : ByteArray := prog_1_method_3_code
def y_P_make : MethodName := ⟨R_P, "make", "(III)I"⟩
abbrev b_P_form : ByteArray := prog_1_method_4_code
def y_P_form : MethodName := ⟨R_P, "form", "(II)I"⟩
abbrev b_P_bit : ByteArray := prog_1_method_5_code
def y_P_bit : MethodName := ⟨R_P, "bit", "(II)I"⟩
abbrev b_P_ones : ByteArray := prog_1_method_6_code
def y_P_ones : MethodName := ⟨R_P, "ones", "(II)I"⟩
abbrev b_P_at : ByteArray := prog_1_method_7_code
def y_P_at : MethodName := ⟨R_P, "at", "(II)I"⟩
abbrev b_P_same : ByteArray := prog_1_method_8_code
def y_P_same : MethodName := ⟨R_P, "same", "(I)I"⟩
abbrev b_P_ahead : ByteArray := prog_1_method_9_code
def y_P_ahead : MethodName := ⟨R_P, "ahead", "(II)Z"⟩
abbrev b_P_between : ByteArray := prog_1_method_10_code
def y_P_between : MethodName := ⟨R_P, "between", "(III)I"⟩
abbrev b_P_clear : ByteArray := prog_1_method_11_code
def y_P_clear : MethodName := ⟨R_P, "clear", "()V"⟩
abbrev b_P_total : ByteArray := prog_1_method_12_code
def y_P_total : MethodName := ⟨R_P, "total", "()I"⟩
abbrev b_P_find : ByteArray := prog_1_method_13_code
def y_P_find : MethodName := ⟨R_P, "find", "(I)LPeriodWords$Word;"⟩
abbrev b_P_keep : ByteArray := prog_1_method_14_code
def y_P_keep : MethodName := ⟨R_P, "keep", "(LPeriodWords$Word;)I"⟩
abbrev b_P_needsTwoWords : ByteArray := prog_1_method_15_code
def y_P_needsTwoWords : MethodName := ⟨R_P, "needsTwoWords", "(I)Z"⟩
abbrev b_P_alike : ByteArray := prog_1_method_16_code
def y_P_alike : MethodName := ⟨R_P, "alike", "(LPeriodWords$Word;LPeriodWords$Word;)Z"⟩
abbrev b_P_draftOf : ByteArray := prog_1_method_17_code
def y_P_draftOf : MethodName := ⟨R_P, "draftOf", "(ILPeriodWords$Word;LPeriodWords$Word;I)LPeriodWords$Draft;"⟩
abbrev b_P_draftOn : ByteArray := prog_1_method_18_code
def y_P_draftOn : MethodName := ⟨R_P, "draftOn", "(LPeriodWords$Word;LPeriodWords$Word;)LPeriodWords$Draft;"⟩
abbrev b_P_draftBy : ByteArray := prog_1_method_19_code
def y_P_draftBy : MethodName := ⟨R_P, "draftBy", "(LPeriodWords$Word;LPeriodWords$Word;)LPeriodWords$Draft;"⟩
abbrev b_P_shortestForm : ByteArray := prog_1_method_20_code
def y_P_shortestForm : MethodName := ⟨R_P, "shortestForm", "(LPeriodWords$Draft;)LPeriodWords$Word;"⟩
abbrev b_P_shortestRing : ByteArray := prog_1_method_21_code
def y_P_shortestRing : MethodName := ⟨R_P, "shortestRing", "(LPeriodWords$Draft;)I"⟩
abbrev b_P_shortestHead : ByteArray := prog_1_method_22_code
def y_P_shortestHead : MethodName := ⟨R_P, "shortestHead", "(LPeriodWords$Draft;I)I"⟩
abbrev b_P_compareRates : ByteArray := prog_1_method_23_code
def y_P_compareRates : MethodName := ⟨R_P, "compareRates", "(LPeriodWords$Word;LPeriodWords$Word;)I"⟩
abbrev b_P_mostKept : ByteArray := prog_1_method_24_code
def y_P_mostKept : MethodName := ⟨R_P, "mostKept", "(LPeriodWords$Word;LPeriodWords$Word;)I"⟩
abbrev b_P_leastWait : ByteArray := prog_1_method_25_code
def y_P_leastWait : MethodName := ⟨R_P, "leastWait", "(LPeriodWords$Word;LPeriodWords$Word;)I"⟩
abbrev b_P_mostBehind : ByteArray := prog_1_method_26_code
def y_P_mostBehind : MethodName := ⟨R_P, "mostBehind", "(LPeriodWords$Word;LPeriodWords$Word;I)I"⟩
abbrev b_P_commonMultiple : ByteArray := prog_1_method_27_code
def y_P_commonMultiple : MethodName := ⟨R_P, "commonMultiple", "(II)I"⟩
abbrev b_P_commonDivisor : ByteArray := prog_1_method_28_code
def y_P_commonDivisor : MethodName := ⟨R_P, "commonDivisor", "(II)I"⟩
abbrev b_M_init : ByteArray := prog_5_method_1_code
def y_M_init : MethodName := ⟨R_M, "<init>", "()V"⟩
abbrev b_M_thrown : ByteArray := prog_5_method_2_code
def y_M_thrown : MethodName := ⟨R_M, "thrown", "()I"⟩
abbrev b_M_raise : ByteArray := prog_5_method_3_code
def y_M_raise : MethodName := ⟨R_M, "raise", "()I"⟩
abbrev b_M_in : ByteArray := prog_5_method_4_code
def y_M_in : MethodName := ⟨R_M, "in", "(III)Z"⟩
abbrev b_M_isWord : ByteArray := prog_5_method_5_code
def y_M_isWord : MethodName := ⟨R_M, "isWord", "(I)Z"⟩
abbrev b_M_has : ByteArray := prog_5_method_6_code
def y_M_has : MethodName := ⟨R_M, "has", "(II)Z"⟩
abbrev b_M_onesOf : ByteArray := prog_5_method_7_code
def y_M_onesOf : MethodName := ⟨R_M, "onesOf", "(JI)I"⟩
abbrev b_M_inRing : ByteArray := prog_5_method_8_code
def y_M_inRing : MethodName := ⟨R_M, "inRing", "(I)I"⟩
abbrev b_M_settle : ByteArray := prog_5_method_9_code
def y_M_settle : MethodName := ⟨R_M, "settle", "(II)I"⟩
abbrev b_M_comesBack : ByteArray := prog_5_method_10_code
def y_M_comesBack : MethodName := ⟨R_M, "comesBack", "(III)Z"⟩
abbrev b_M_word : ByteArray := prog_5_method_11_code
def y_M_word : MethodName := ⟨R_M, "word", "(IIII)I"⟩
abbrev b_M_greater : ByteArray := prog_5_method_12_code
def y_M_greater : MethodName := ⟨R_M, "greater", "(II)I"⟩
abbrev b_M_joined : ByteArray := prog_5_method_13_code
def y_M_joined : MethodName := ⟨R_M, "joined", "(III)I"⟩
abbrev b_M_opposite : ByteArray := prog_5_method_14_code
def y_M_opposite : MethodName := ⟨R_M, "opposite", "(I)I"⟩
abbrev b_M_on : ByteArray := prog_5_method_15_code
def y_M_on : MethodName := ⟨R_M, "on", "(II)I"⟩
abbrev b_M_by : ByteArray := prog_5_method_16_code
def y_M_by : MethodName := ⟨R_M, "by", "(II)I"⟩
abbrev b_M_late : ByteArray := prog_5_method_17_code
def y_M_late : MethodName := ⟨R_M, "late", "(II)I"⟩
abbrev b_M_halved : ByteArray := prog_5_method_18_code
def y_M_halved : MethodName := ⟨R_M, "halved", "(I)I"⟩
abbrev b_M_make : ByteArray := prog_5_method_19_code
def y_M_make : MethodName := ⟨R_M, "make", "(III)I"⟩
abbrev b_M_divisor : ByteArray := prog_5_method_20_code
def y_M_divisor : MethodName := ⟨R_M, "divisor", "(II)I"⟩
abbrev b_M_form : ByteArray := prog_5_method_21_code
def y_M_form : MethodName := ⟨R_M, "form", "(II)I"⟩
abbrev b_M_bit : ByteArray := prog_5_method_22_code
def y_M_bit : MethodName := ⟨R_M, "bit", "(II)I"⟩
abbrev b_M_onesAhead : ByteArray := prog_5_method_23_code
def y_M_onesAhead : MethodName := ⟨R_M, "onesAhead", "(II)I"⟩
abbrev b_M_ones : ByteArray := prog_5_method_24_code
def y_M_ones : MethodName := ⟨R_M, "ones", "(II)I"⟩
abbrev b_M_place : ByteArray := prog_5_method_25_code
def y_M_place : MethodName := ⟨R_M, "place", "(II)I"⟩
abbrev b_M_at : ByteArray := prog_5_method_26_code
def y_M_at : MethodName := ⟨R_M, "at", "(II)I"⟩
abbrev b_M_same : ByteArray := prog_5_method_27_code
def y_M_same : MethodName := ⟨R_M, "same", "(I)I"⟩
abbrev b_M_rates : ByteArray := prog_5_method_28_code
def y_M_rates : MethodName := ⟨R_M, "rates", "(II)I"⟩
abbrev b_M_till : ByteArray := prog_5_method_29_code
def y_M_till : MethodName := ⟨R_M, "till", "(II)I"⟩
abbrev b_M_keep : ByteArray := prog_5_method_30_code
def y_M_keep : MethodName := ⟨R_M, "keep", "(II)V"⟩
abbrev b_M_ahead : ByteArray := prog_5_method_31_code
def y_M_ahead : MethodName := ⟨R_M, "ahead", "(II)Z"⟩
abbrev b_M_waiting : ByteArray := prog_5_method_32_code
def y_M_waiting : MethodName := ⟨R_M, "waiting", "(II)I"⟩
abbrev b_M_between : ByteArray := prog_5_method_33_code
def y_M_between : MethodName := ⟨R_M, "between", "(III)I"⟩
abbrev b_M_clear : ByteArray := prog_5_method_34_code
def y_M_clear : MethodName := ⟨R_M, "clear", "()V"⟩
abbrev b_M_total : ByteArray := prog_5_method_35_code
def y_M_total : MethodName := ⟨R_M, "total", "()I"⟩
abbrev b_D_init : ByteArray := prog_2_method_1_code
def y_D_init : MethodName := ⟨R_D, "<init>", "(ILPeriodWords$Word;LPeriodWords$Word;III)V"⟩
abbrev b_D_bitAt : ByteArray := prog_2_method_2_code
def y_D_bitAt : MethodName := ⟨R_D, "bitAt", "(I)I"⟩
abbrev b_D_bits : ByteArray := prog_2_method_3_code
def y_D_bits : MethodName := ⟨R_D, "bits", "(II)J"⟩
abbrev b_W_init : ByteArray := prog_3_method_1_code
def y_W_init : MethodName := ⟨R_W, "<init>", "(IJIJ)V"⟩
abbrev b_W_lowest : ByteArray := prog_3_method_2_code
def y_W_lowest : MethodName := ⟨R_W, "lowest", "(I)J"⟩
abbrev b_W_writePlaces : ByteArray := prog_3_method_3_code
def y_W_writePlaces : MethodName := ⟨R_W, "writePlaces", "([IIJ)V"⟩
abbrev b_W_bitAt : ByteArray := prog_3_method_4_code
def y_W_bitAt : MethodName := ⟨R_W, "bitAt", "(I)I"⟩
abbrev b_W_onesBefore : ByteArray := prog_3_method_5_code
def y_W_onesBefore : MethodName := ⟨R_W, "onesBefore", "(I)I"⟩
abbrev b_W_hasOne : ByteArray := prog_3_method_6_code
def y_W_hasOne : MethodName := ⟨R_W, "hasOne", "(I)Z"⟩
abbrev b_W_tickOf : ByteArray := prog_3_method_7_code
def y_W_tickOf : MethodName := ⟨R_W, "tickOf", "(I)I"⟩
abbrev b_L_make : ByteArray := method_3_code
def y_L_make : MethodName := ⟨R_L, "make", "(LPeriodWords;III[J)I"⟩
abbrev b_L_at : ByteArray := method_4_code
def y_L_at : MethodName := ⟨R_L, "at", "(LPeriodWords;II[J)I"⟩
abbrev b_L_between : ByteArray := method_5_code
def y_L_between : MethodName := ⟨R_L, "between", "(LPeriodWords;III[J)I"⟩
abbrev b_L_law : ByteArray := code
def y_L_law : MethodName := ⟨R_L, "law", "([I)Z"⟩
abbrev b_JI_compare : ByteArray := prog_9_method_40_code
def y_JI_compare : MethodName := ⟨R_JI, "compare", "(II)I"⟩
abbrev b_JL_bitCount : ByteArray := prog_10_method_50_code
def y_JL_bitCount : MethodName := ⟨R_JL, "bitCount", "(J)I"⟩
/-! the tables' words that stay good under every call -/
def TB : List Cond := lw_tbl.filter goodWord
theorem tb_of {w : Cond} (h : w ∈ lw_tbl) (g : goodWord w = true) : w ∈ TB := List.mem_filter.mpr ⟨h, g⟩
theorem tb_in {w : Cond} (h : w ∈ TB) : w ∈ lw_tbl := (List.mem_filter.mp h).1
theorem gd_w {w : Cond} (h : w ∈ TB) : (w.onTables && w.keeps) = true ∨ ∃ ty, w = .arrayClass ty := good_of_word (List.mem_filter.mp h).2
theorem gd_S {c0 : Cond} {own : String} {idx : Nat} {y : MethodName} {bytes : ByteArray} {maxL : Nat} {ret : Option FieldType} (h1 : Cond.methodLink own idx y ∈ TB) (h2 : Cond.static y ∈ TB) (h3 : Cond.initialized y.cls ∈ TB) (h4 : Cond.code y bytes maxL ret ∈ TB) : GoodIn (c0 :: TB) (va_wsS own idx y (Cond.code y bytes maxL ret :: TB)) := by
  intro w hw
  have hm : w ∈ TB := by
    unfold va_wsS at hw
    rcases List.mem_append.mp hw with q | q
    · simp only [List.mem_cons, List.not_mem_nil, or_false] at q
      rcases q with rfl | rfl | rfl <;> assumption
    · rcases List.mem_cons.mp q with rfl | q
      · exact h4
      · exact q
  exact ⟨List.mem_cons_of_mem _ hm, gd_w hm⟩
theorem gd_V {c0 : Cond} {own C : String} {idx : Nat} {y : MethodName} {bytes : ByteArray} {maxL : Nat} {ret : Option FieldType} (h1 : Cond.methodLink own idx y ∈ TB) (h2 : Cond.instanceMethod y ∈ TB) (h3 : Cond.selects C y y ∈ TB) (h5 : Cond.initialized C ∈ TB) (h4 : Cond.code y bytes maxL ret ∈ TB) : GoodIn (c0 :: TB) (wsV own idx C y (Cond.code y bytes maxL ret :: TB)) := by
  intro w hw
  have hm : w ∈ TB := by
    unfold wsV at hw
    rcases List.mem_append.mp hw with q | q
    · simp only [List.mem_cons, List.not_mem_nil, or_false] at q
      rcases q with rfl | rfl | rfl | rfl <;> assumption
    · rcases List.mem_cons.mp q with rfl | q
      · exact h4
      · exact q
  exact ⟨List.mem_cons_of_mem _ hm, gd_w hm⟩
theorem gd_I {c0 : Cond} {y : MethodName} {bytes : ByteArray} {maxL : Nat} {ret : Option FieldType} (h4 : Cond.code y bytes maxL ret ∈ TB) : GoodIn (c0 :: TB) (Cond.code y bytes maxL ret :: TB) := by
  intro w hw
  have hm : w ∈ TB := by
    rcases List.mem_cons.mp hw with rfl | q
    · exact h4
    · exact q
  exact ⟨List.mem_cons_of_mem _ hm, gd_w hm⟩
def ws_P_init : List Cond := .code y_P_init b_P_init 1 none :: TB
def ws_P_word : List Cond := .code y_P_word b_P_word 6 (some .int) :: TB
def ws_P_make : List Cond := .code y_P_make b_P_make 6 (some .int) :: TB
def ws_P_form : List Cond := .code y_P_form b_P_form 4 (some .int) :: TB
def ws_P_bit : List Cond := .code y_P_bit b_P_bit 4 (some .int) :: TB
def ws_P_ones : List Cond := .code y_P_ones b_P_ones 4 (some .int) :: TB
def ws_P_at : List Cond := .code y_P_at b_P_at 4 (some .int) :: TB
def ws_P_same : List Cond := .code y_P_same b_P_same 4 (some .int) :: TB
def ws_P_ahead : List Cond := .code y_P_ahead b_P_ahead 5 (some .boolean) :: TB
def ws_P_between : List Cond := .code y_P_between b_P_between 7 (some .int) :: TB
def ws_P_clear : List Cond := .code y_P_clear b_P_clear 2 none :: TB
def ws_P_total : List Cond := .code y_P_total b_P_total 1 (some .int) :: TB
def ws_P_find : List Cond := .code y_P_find b_P_find 2 (some (.object "PeriodWords$Word")) :: TB
def ws_P_keep : List Cond := .code y_P_keep b_P_keep 2 (some .int) :: TB
def ws_P_needsTwoWords : List Cond := .code y_P_needsTwoWords b_P_needsTwoWords 1 (some .boolean) :: TB
def ws_P_alike : List Cond := .code y_P_alike b_P_alike 2 (some .boolean) :: TB
def ws_P_draftOf : List Cond := .code y_P_draftOf b_P_draftOf 4 (some (.object "PeriodWords$Draft")) :: TB
def ws_P_draftOn : List Cond := .code y_P_draftOn b_P_draftOn 4 (some (.object "PeriodWords$Draft")) :: TB
def ws_P_draftBy : List Cond := .code y_P_draftBy b_P_draftBy 4 (some (.object "PeriodWords$Draft")) :: TB
def ws_P_shortestForm : List Cond := .code y_P_shortestForm b_P_shortestForm 3 (some (.object "PeriodWords$Word")) :: TB
def ws_P_shortestRing : List Cond := .code y_P_shortestRing b_P_shortestRing 8 (some .int) :: TB
def ws_P_shortestHead : List Cond := .code y_P_shortestHead b_P_shortestHead 3 (some .int) :: TB
def ws_P_compareRates : List Cond := .code y_P_compareRates b_P_compareRates 2 (some .int) :: TB
def ws_P_mostKept : List Cond := .code y_P_mostKept b_P_mostKept 6 (some .int) :: TB
def ws_P_leastWait : List Cond := .code y_P_leastWait b_P_leastWait 3 (some .int) :: TB
def ws_P_mostBehind : List Cond := .code y_P_mostBehind b_P_mostBehind 5 (some .int) :: TB
def ws_P_commonMultiple : List Cond := .code y_P_commonMultiple b_P_commonMultiple 2 (some .int) :: TB
def ws_P_commonDivisor : List Cond := .code y_P_commonDivisor b_P_commonDivisor 6 (some .int) :: TB
def ws_M_init : List Cond := .code y_M_init b_M_init 1 none :: TB
def ws_M_thrown : List Cond := .code y_M_thrown b_M_thrown 1 (some .int) :: TB
def ws_M_raise : List Cond := .code y_M_raise b_M_raise 1 (some .int) :: TB
def ws_M_in : List Cond := .code y_M_in b_M_in 3 (some .boolean) :: TB
def ws_M_isWord : List Cond := .code y_M_isWord b_M_isWord 2 (some .boolean) :: TB
def ws_M_has : List Cond := .code y_M_has b_M_has 3 (some .boolean) :: TB
def ws_M_onesOf : List Cond := .code y_M_onesOf b_M_onesOf 5 (some .int) :: TB
def ws_M_inRing : List Cond := .code y_M_inRing b_M_inRing 2 (some .int) :: TB
def ws_M_settle : List Cond := .code y_M_settle b_M_settle 6 (some .int) :: TB
def ws_M_comesBack : List Cond := .code y_M_comesBack b_M_comesBack 5 (some .boolean) :: TB
def ws_M_word : List Cond := .code y_M_word b_M_word 6 (some .int) :: TB
def ws_M_greater : List Cond := .code y_M_greater b_M_greater 2 (some .int) :: TB
def ws_M_joined : List Cond := .code y_M_joined b_M_joined 7 (some .int) :: TB
def ws_M_opposite : List Cond := .code y_M_opposite b_M_opposite 3 (some .int) :: TB
def ws_M_on : List Cond := .code y_M_on b_M_on 8 (some .int) :: TB
def ws_M_by : List Cond := .code y_M_by b_M_by 8 (some .int) :: TB
def ws_M_late : List Cond := .code y_M_late b_M_late 4 (some .int) :: TB
def ws_M_halved : List Cond := .code y_M_halved b_M_halved 4 (some .int) :: TB
def ws_M_make : List Cond := .code y_M_make b_M_make 5 (some .int) :: TB
def ws_M_divisor : List Cond := .code y_M_divisor b_M_divisor 5 (some .int) :: TB
def ws_M_form : List Cond := .code y_M_form b_M_form 5 (some .int) :: TB
def ws_M_bit : List Cond := .code y_M_bit b_M_bit 3 (some .int) :: TB
def ws_M_onesAhead : List Cond := .code y_M_onesAhead b_M_onesAhead 4 (some .int) :: TB
def ws_M_ones : List Cond := .code y_M_ones b_M_ones 3 (some .int) :: TB
def ws_M_place : List Cond := .code y_M_place b_M_place 8 (some .int) :: TB
def ws_M_at : List Cond := .code y_M_at b_M_at 4 (some .int) :: TB
def ws_M_same : List Cond := .code y_M_same b_M_same 3 (some .int) :: TB
def ws_M_rates : List Cond := .code y_M_rates b_M_rates 3 (some .int) :: TB
def ws_M_till : List Cond := .code y_M_till b_M_till 3 (some .int) :: TB
def ws_M_keep : List Cond := .code y_M_keep b_M_keep 5 none :: TB
def ws_M_ahead : List Cond := .code y_M_ahead b_M_ahead 3 (some .boolean) :: TB
def ws_M_waiting : List Cond := .code y_M_waiting b_M_waiting 8 (some .int) :: TB
def ws_M_between : List Cond := .code y_M_between b_M_between 5 (some .int) :: TB
def ws_M_clear : List Cond := .code y_M_clear b_M_clear 1 none :: TB
def ws_M_total : List Cond := .code y_M_total b_M_total 1 (some .int) :: TB
def ws_D_init : List Cond := .code y_D_init b_D_init 7 none :: TB
def ws_D_bitAt : List Cond := .code y_D_bitAt b_D_bitAt 2 (some .int) :: TB
def ws_D_bits : List Cond := .code y_D_bits b_D_bits 6 (some .long) :: TB
def ws_W_init : List Cond := .code y_W_init b_W_init 7 none :: TB
def ws_W_lowest : List Cond := .code y_W_lowest b_W_lowest 1 (some .long) :: TB
def ws_W_writePlaces : List Cond := .code y_W_writePlaces b_W_writePlaces 6 none :: TB
def ws_W_bitAt : List Cond := .code y_W_bitAt b_W_bitAt 2 (some .int) :: TB
def ws_W_onesBefore : List Cond := .code y_W_onesBefore b_W_onesBefore 4 (some .int) :: TB
def ws_W_hasOne : List Cond := .code y_W_hasOne b_W_hasOne 2 (some .boolean) :: TB
def ws_W_tickOf : List Cond := .code y_W_tickOf b_W_tickOf 3 (some .int) :: TB
def ws_JI_compare : List Cond := .code y_JI_compare b_JI_compare 2 (some .int) :: TB
def ws_JL_bitCount : List Cond := .code y_JL_bitCount b_JL_bitCount 2 (some .int) :: TB
end
section
theorem mb_0 : (.selects "PeriodWords" ⟨"PeriodWords", "keep", "(LPeriodWords$Word;)I"⟩ ⟨"PeriodWords", "keep", "(LPeriodWords$Word;)I"⟩ : Cond) ∈ TB := tb_of (List.mem_of_getElem? (i := 0) (by decide +kernel)) (by decide +kernel)
theorem mb_1 : (.selects "PeriodWords" ⟨"PeriodWords", "find", "(I)LPeriodWords$Word;"⟩ ⟨"PeriodWords", "find", "(I)LPeriodWords$Word;"⟩ : Cond) ∈ TB := tb_of (List.mem_of_getElem? (i := 1) (by decide +kernel)) (by decide +kernel)
theorem mb_3 : (.selects "PeriodWordsModel" ⟨"PeriodWordsModel", "settle", "(II)I"⟩ ⟨"PeriodWordsModel", "settle", "(II)I"⟩ : Cond) ∈ TB := tb_of (List.mem_of_getElem? (i := 3) (by decide +kernel)) (by decide +kernel)
theorem mb_4 : (.selects "PeriodWordsModel" ⟨"PeriodWordsModel", "comesBack", "(III)Z"⟩ ⟨"PeriodWordsModel", "comesBack", "(III)Z"⟩ : Cond) ∈ TB := tb_of (List.mem_of_getElem? (i := 4) (by decide +kernel)) (by decide +kernel)
theorem mb_5 : (.selects "PeriodWordsModel" ⟨"PeriodWordsModel", "isWord", "(I)Z"⟩ ⟨"PeriodWordsModel", "isWord", "(I)Z"⟩ : Cond) ∈ TB := tb_of (List.mem_of_getElem? (i := 5) (by decide +kernel)) (by decide +kernel)
theorem mb_6 : (.selects "PeriodWordsModel" ⟨"PeriodWordsModel", "inRing", "(I)I"⟩ ⟨"PeriodWordsModel", "inRing", "(I)I"⟩ : Cond) ∈ TB := tb_of (List.mem_of_getElem? (i := 6) (by decide +kernel)) (by decide +kernel)
theorem mb_7 : (.selects "PeriodWordsModel" ⟨"PeriodWordsModel", "raise", "()I"⟩ ⟨"PeriodWordsModel", "raise", "()I"⟩ : Cond) ∈ TB := tb_of (List.mem_of_getElem? (i := 7) (by decide +kernel)) (by decide +kernel)
theorem mb_8 : (.selects "PeriodWordsModel" ⟨"PeriodWordsModel", "opposite", "(I)I"⟩ ⟨"PeriodWordsModel", "opposite", "(I)I"⟩ : Cond) ∈ TB := tb_of (List.mem_of_getElem? (i := 8) (by decide +kernel)) (by decide +kernel)
theorem mb_9 : (.selects "PeriodWordsModel" ⟨"PeriodWordsModel", "has", "(II)Z"⟩ ⟨"PeriodWordsModel", "has", "(II)Z"⟩ : Cond) ∈ TB := tb_of (List.mem_of_getElem? (i := 9) (by decide +kernel)) (by decide +kernel)
theorem mb_10 : (.selects "PeriodWordsModel" ⟨"PeriodWordsModel", "on", "(II)I"⟩ ⟨"PeriodWordsModel", "on", "(II)I"⟩ : Cond) ∈ TB := tb_of (List.mem_of_getElem? (i := 10) (by decide +kernel)) (by decide +kernel)
theorem mb_11 : (.selects "PeriodWordsModel" ⟨"PeriodWordsModel", "by", "(II)I"⟩ ⟨"PeriodWordsModel", "by", "(II)I"⟩ : Cond) ∈ TB := tb_of (List.mem_of_getElem? (i := 11) (by decide +kernel)) (by decide +kernel)
theorem mb_12 : (.selects "PeriodWordsModel" ⟨"PeriodWordsModel", "late", "(II)I"⟩ ⟨"PeriodWordsModel", "late", "(II)I"⟩ : Cond) ∈ TB := tb_of (List.mem_of_getElem? (i := 12) (by decide +kernel)) (by decide +kernel)
theorem mb_13 : (.selects "PeriodWordsModel" ⟨"PeriodWordsModel", "halved", "(I)I"⟩ ⟨"PeriodWordsModel", "halved", "(I)I"⟩ : Cond) ∈ TB := tb_of (List.mem_of_getElem? (i := 13) (by decide +kernel)) (by decide +kernel)
theorem mb_14 : (.selects "PeriodWordsModel" ⟨"PeriodWordsModel", "joined", "(III)I"⟩ ⟨"PeriodWordsModel", "joined", "(III)I"⟩ : Cond) ∈ TB := tb_of (List.mem_of_getElem? (i := 14) (by decide +kernel)) (by decide +kernel)
theorem mb_15 : (.selects "PeriodWordsModel" ⟨"PeriodWordsModel", "onesAhead", "(II)I"⟩ ⟨"PeriodWordsModel", "onesAhead", "(II)I"⟩ : Cond) ∈ TB := tb_of (List.mem_of_getElem? (i := 15) (by decide +kernel)) (by decide +kernel)
theorem mb_16 : (.selects "PeriodWordsModel" ⟨"PeriodWordsModel", "place", "(II)I"⟩ ⟨"PeriodWordsModel", "place", "(II)I"⟩ : Cond) ∈ TB := tb_of (List.mem_of_getElem? (i := 16) (by decide +kernel)) (by decide +kernel)
theorem mb_17 : (.selects "PeriodWordsModel" ⟨"PeriodWordsModel", "rates", "(II)I"⟩ ⟨"PeriodWordsModel", "rates", "(II)I"⟩ : Cond) ∈ TB := tb_of (List.mem_of_getElem? (i := 17) (by decide +kernel)) (by decide +kernel)
theorem mb_18 : (.selects "PeriodWordsModel" ⟨"PeriodWordsModel", "keep", "(II)V"⟩ ⟨"PeriodWordsModel", "keep", "(II)V"⟩ : Cond) ∈ TB := tb_of (List.mem_of_getElem? (i := 18) (by decide +kernel)) (by decide +kernel)
theorem mb_19 : (.selects "PeriodWordsModel" ⟨"PeriodWordsModel", "till", "(II)I"⟩ ⟨"PeriodWordsModel", "till", "(II)I"⟩ : Cond) ∈ TB := tb_of (List.mem_of_getElem? (i := 19) (by decide +kernel)) (by decide +kernel)
theorem mb_20 : (.selects "PeriodWordsModel" ⟨"PeriodWordsModel", "waiting", "(II)I"⟩ ⟨"PeriodWordsModel", "waiting", "(II)I"⟩ : Cond) ∈ TB := tb_of (List.mem_of_getElem? (i := 20) (by decide +kernel)) (by decide +kernel)
theorem mb_21 : (.initialized "PeriodWordsLaw" : Cond) ∈ TB := tb_of (List.mem_of_getElem? (i := 21) (by decide +kernel)) (by decide +kernel)
theorem mb_22 : (.initialized "PeriodWords" : Cond) ∈ TB := tb_of (List.mem_of_getElem? (i := 22) (by decide +kernel)) (by decide +kernel)
theorem mb_23 : (.initialized "PeriodWordsModel" : Cond) ∈ TB := tb_of (List.mem_of_getElem? (i := 23) (by decide +kernel)) (by decide +kernel)
theorem mb_24 : (.initialized "PeriodWords$Word" : Cond) ∈ TB := tb_of (List.mem_of_getElem? (i := 24) (by decide +kernel)) (by decide +kernel)
theorem mb_25 : (.initialized "java/lang/Math" : Cond) ∈ TB := tb_of (List.mem_of_getElem? (i := 25) (by decide +kernel)) (by decide +kernel)
theorem mb_26 : (.initialized "java/lang/Long" : Cond) ∈ TB := tb_of (List.mem_of_getElem? (i := 26) (by decide +kernel)) (by decide +kernel)
theorem mb_27 : (.initialized "PeriodWords$Draft" : Cond) ∈ TB := tb_of (List.mem_of_getElem? (i := 27) (by decide +kernel)) (by decide +kernel)
theorem mb_29 : (.initialized "java/lang/Exception" : Cond) ∈ TB := tb_of (List.mem_of_getElem? (i := 29) (by decide +kernel)) (by decide +kernel)
theorem mb_30 : (.initialized "java/lang/RuntimeException" : Cond) ∈ TB := tb_of (List.mem_of_getElem? (i := 30) (by decide +kernel)) (by decide +kernel)
theorem mb_31 : (.initialized "java/lang/IllegalArgumentException" : Cond) ∈ TB := tb_of (List.mem_of_getElem? (i := 31) (by decide +kernel)) (by decide +kernel)
theorem mb_32 : (.initialized "java/util/NoSuchElementException" : Cond) ∈ TB := tb_of (List.mem_of_getElem? (i := 32) (by decide +kernel)) (by decide +kernel)
theorem mb_33 : (.initialized "java/lang/Integer" : Cond) ∈ TB := tb_of (List.mem_of_getElem? (i := 33) (by decide +kernel)) (by decide +kernel)
theorem mb_34 : (.initialized "java/lang/ArithmeticException" : Cond) ∈ TB := tb_of (List.mem_of_getElem? (i := 34) (by decide +kernel)) (by decide +kernel)
theorem mb_35 : (.classLink "PeriodWordsLaw" 8 "PeriodWords" : Cond) ∈ TB := tb_of (List.mem_of_getElem? (i := 35) (by decide +kernel)) (by decide +kernel)
theorem mb_36 : (.instantiable "PeriodWords" 2 : Cond) ∈ TB := tb_of (List.mem_of_getElem? (i := 36) (by decide +kernel)) (by decide +kernel)
theorem mb_37 : (.methodLink "PeriodWordsLaw" 26 ⟨"PeriodWords", "<init>", "()V"⟩ : Cond) ∈ TB := tb_of (List.mem_of_getElem? (i := 37) (by decide +kernel)) (by decide +kernel)
theorem mb_38 : (.instanceMethod ⟨"PeriodWords", "<init>", "()V"⟩ : Cond) ∈ TB := tb_of (List.mem_of_getElem? (i := 38) (by decide +kernel)) (by decide +kernel)
set_option maxRecDepth 20000 in
theorem mb_39 : (.code ⟨"PeriodWords", "<init>", "()V"⟩ prog_1_method_1_code 1 none : Cond) ∈ TB := tb_of (List.mem_of_getElem? (i := 39) rfl) rfl
theorem mb_40 : (.methodLink "PeriodWords" 1 ⟨"java/lang/Object", "<init>", "()V"⟩ : Cond) ∈ TB := tb_of (List.mem_of_getElem? (i := 40) (by decide +kernel)) (by decide +kernel)
theorem mb_41 : (.instanceMethod ⟨"java/lang/Object", "<init>", "()V"⟩ : Cond) ∈ TB := tb_of (List.mem_of_getElem? (i := 41) (by decide +kernel)) (by decide +kernel)
set_option maxRecDepth 20000 in
theorem mb_42 : (.code ⟨"java/lang/Object", "<init>", "()V"⟩ object_method_1_code 1 none : Cond) ∈ TB := tb_of (List.mem_of_getElem? (i := 42) rfl) rfl
theorem mb_43 : (.classLink "PeriodWords" 9 "PeriodWords$Word" : Cond) ∈ TB := tb_of (List.mem_of_getElem? (i := 43) (by decide +kernel)) (by decide +kernel)
theorem mb_45 : (.fieldLink "PeriodWords" 11 "PeriodWords" "words" "[LPeriodWords$Word;" : Cond) ∈ TB := tb_of (List.mem_of_getElem? (i := 45) (by decide +kernel)) (by decide +kernel)
theorem mb_46 : (.fieldLink "PeriodWords" 15 "PeriodWords" "count" "I" : Cond) ∈ TB := tb_of (List.mem_of_getElem? (i := 46) (by decide +kernel)) (by decide +kernel)
theorem mb_52 : (.methodLink "PeriodWordsLaw" 30 ⟨"PeriodWords", "word", "(IIII)I"⟩ : Cond) ∈ TB := tb_of (List.mem_of_getElem? (i := 52) (by decide +kernel)) (by decide +kernel)
theorem mb_53 : (.instanceMethod ⟨"PeriodWords", "word", "(IIII)I"⟩ : Cond) ∈ TB := tb_of (List.mem_of_getElem? (i := 53) (by decide +kernel)) (by decide +kernel)
theorem mb_54 : (.selects "PeriodWords" ⟨"PeriodWords", "word", "(IIII)I"⟩ ⟨"PeriodWords", "word", "(IIII)I"⟩ : Cond) ∈ TB := tb_of (List.mem_of_getElem? (i := 54) (by decide +kernel)) (by decide +kernel)
set_option maxRecDepth 20000 in
theorem mb_55 : (.code ⟨"PeriodWords", "word", "(IIII)I"⟩ prog_1_method_2_code 6 (some .int) : Cond) ∈ TB := tb_of (List.mem_of_getElem? (i := 55) rfl) rfl
theorem mb_56 : (.instantiable "PeriodWords$Word" 7 : Cond) ∈ TB := tb_of (List.mem_of_getElem? (i := 56) (by decide +kernel)) (by decide +kernel)
theorem mb_57 : (.methodLink "PeriodWords" 19 ⟨"PeriodWords$Word", "<init>", "(IJIJ)V"⟩ : Cond) ∈ TB := tb_of (List.mem_of_getElem? (i := 57) (by decide +kernel)) (by decide +kernel)
theorem mb_58 : (.instanceMethod ⟨"PeriodWords$Word", "<init>", "(IJIJ)V"⟩ : Cond) ∈ TB := tb_of (List.mem_of_getElem? (i := 58) (by decide +kernel)) (by decide +kernel)
set_option maxRecDepth 20000 in
theorem mb_59 : (.code ⟨"PeriodWords$Word", "<init>", "(IJIJ)V"⟩ prog_3_method_1_code 7 none : Cond) ∈ TB := tb_of (List.mem_of_getElem? (i := 59) rfl) rfl
theorem mb_60 : (.methodLink "PeriodWords$Word" 3 ⟨"java/lang/Object", "<init>", "()V"⟩ : Cond) ∈ TB := tb_of (List.mem_of_getElem? (i := 60) (by decide +kernel)) (by decide +kernel)
theorem mb_61 : (.methodLink "PeriodWords$Word" 15 ⟨"PeriodWords$Word", "lowest", "(I)J"⟩ : Cond) ∈ TB := tb_of (List.mem_of_getElem? (i := 61) (by decide +kernel)) (by decide +kernel)
theorem mb_62 : (.static ⟨"PeriodWords$Word", "lowest", "(I)J"⟩ : Cond) ∈ TB := tb_of (List.mem_of_getElem? (i := 62) (by decide +kernel)) (by decide +kernel)
set_option maxRecDepth 20000 in
theorem mb_63 : (.code ⟨"PeriodWords$Word", "lowest", "(I)J"⟩ prog_3_method_2_code 1 (some .long) : Cond) ∈ TB := tb_of (List.mem_of_getElem? (i := 63) rfl) rfl
theorem mb_64 : (.methodLink "PeriodWords$Word" 23 ⟨"java/lang/Math", "max", "(II)I"⟩ : Cond) ∈ TB := tb_of (List.mem_of_getElem? (i := 64) (by decide +kernel)) (by decide +kernel)
theorem mb_65 : (.static ⟨"java/lang/Math", "max", "(II)I"⟩ : Cond) ∈ TB := tb_of (List.mem_of_getElem? (i := 65) (by decide +kernel)) (by decide +kernel)
set_option maxRecDepth 20000 in
theorem mb_66 : (.code ⟨"java/lang/Math", "max", "(II)I"⟩ prog_11_method_65_code 2 (some .int) : Cond) ∈ TB := tb_of (List.mem_of_getElem? (i := 66) rfl) rfl
theorem mb_67 : (.methodLink "PeriodWords$Word" 35 ⟨"java/lang/Long", "bitCount", "(J)I"⟩ : Cond) ∈ TB := tb_of (List.mem_of_getElem? (i := 67) (by decide +kernel)) (by decide +kernel)
theorem mb_68 : (.static ⟨"java/lang/Long", "bitCount", "(J)I"⟩ : Cond) ∈ TB := tb_of (List.mem_of_getElem? (i := 68) (by decide +kernel)) (by decide +kernel)
set_option maxRecDepth 20000 in
theorem mb_69 : (.code ⟨"java/lang/Long", "bitCount", "(J)I"⟩ prog_10_method_50_code 2 (some .int) : Cond) ∈ TB := tb_of (List.mem_of_getElem? (i := 69) rfl) rfl
theorem mb_70 : (.constantLong "java/lang/Long" 314 6148914691236517205 : Cond) ∈ TB := tb_of (List.mem_of_getElem? (i := 70) (by decide +kernel)) (by decide +kernel)
theorem mb_71 : (.constantLong "java/lang/Long" 316 3689348814741910323 : Cond) ∈ TB := tb_of (List.mem_of_getElem? (i := 71) (by decide +kernel)) (by decide +kernel)
theorem mb_72 : (.constantLong "java/lang/Long" 318 1085102592571150095 : Cond) ∈ TB := tb_of (List.mem_of_getElem? (i := 72) (by decide +kernel)) (by decide +kernel)
theorem mb_73 : (.methodLink "PeriodWords$Word" 51 ⟨"PeriodWords$Word", "writePlaces", "([IIJ)V"⟩ : Cond) ∈ TB := tb_of (List.mem_of_getElem? (i := 73) (by decide +kernel)) (by decide +kernel)
theorem mb_74 : (.static ⟨"PeriodWords$Word", "writePlaces", "([IIJ)V"⟩ : Cond) ∈ TB := tb_of (List.mem_of_getElem? (i := 74) (by decide +kernel)) (by decide +kernel)
set_option maxRecDepth 20000 in
theorem mb_75 : (.code ⟨"PeriodWords$Word", "writePlaces", "([IIJ)V"⟩ prog_3_method_3_code 6 none : Cond) ∈ TB := tb_of (List.mem_of_getElem? (i := 75) rfl) rfl
theorem mb_76 : (.fieldLink "PeriodWords$Word" 9 "PeriodWords$Word" "headLength" "I" : Cond) ∈ TB := tb_of (List.mem_of_getElem? (i := 76) (by decide +kernel)) (by decide +kernel)
theorem mb_77 : (.fieldLink "PeriodWords" 52 "PeriodWords$Word" "headLength" "I" : Cond) ∈ TB := tb_of (List.mem_of_getElem? (i := 77) (by decide +kernel)) (by decide +kernel)
theorem mb_78 : (.fieldLink "PeriodWords$Word" 19 "PeriodWords$Word" "headBits" "J" : Cond) ∈ TB := tb_of (List.mem_of_getElem? (i := 78) (by decide +kernel)) (by decide +kernel)
theorem mb_79 : (.fieldLink "PeriodWords" 108 "PeriodWords$Word" "headBits" "J" : Cond) ∈ TB := tb_of (List.mem_of_getElem? (i := 79) (by decide +kernel)) (by decide +kernel)
theorem mb_80 : (.fieldLink "PeriodWords$Word" 29 "PeriodWords$Word" "ringLength" "I" : Cond) ∈ TB := tb_of (List.mem_of_getElem? (i := 80) (by decide +kernel)) (by decide +kernel)
theorem mb_81 : (.fieldLink "PeriodWords" 55 "PeriodWords$Word" "ringLength" "I" : Cond) ∈ TB := tb_of (List.mem_of_getElem? (i := 81) (by decide +kernel)) (by decide +kernel)
theorem mb_82 : (.fieldLink "PeriodWords$Word" 32 "PeriodWords$Word" "ringBits" "J" : Cond) ∈ TB := tb_of (List.mem_of_getElem? (i := 82) (by decide +kernel)) (by decide +kernel)
theorem mb_83 : (.fieldLink "PeriodWords" 112 "PeriodWords$Word" "ringBits" "J" : Cond) ∈ TB := tb_of (List.mem_of_getElem? (i := 83) (by decide +kernel)) (by decide +kernel)
theorem mb_84 : (.fieldLink "PeriodWords$Word" 41 "PeriodWords$Word" "headOnes" "I" : Cond) ∈ TB := tb_of (List.mem_of_getElem? (i := 84) (by decide +kernel)) (by decide +kernel)
theorem mb_85 : (.fieldLink "PeriodWords" 62 "PeriodWords$Word" "headOnes" "I" : Cond) ∈ TB := tb_of (List.mem_of_getElem? (i := 85) (by decide +kernel)) (by decide +kernel)
theorem mb_86 : (.fieldLink "PeriodWords$Word" 44 "PeriodWords$Word" "ringOnes" "I" : Cond) ∈ TB := tb_of (List.mem_of_getElem? (i := 86) (by decide +kernel)) (by decide +kernel)
theorem mb_87 : (.fieldLink "PeriodWords" 42 "PeriodWords$Word" "ringOnes" "I" : Cond) ∈ TB := tb_of (List.mem_of_getElem? (i := 87) (by decide +kernel)) (by decide +kernel)
theorem mb_88 : (.fieldLink "PeriodWords$Word" 47 "PeriodWords$Word" "places" "[I" : Cond) ∈ TB := tb_of (List.mem_of_getElem? (i := 88) (by decide +kernel)) (by decide +kernel)
theorem mb_104 : (.arrayClass .int : Cond) ∈ TB := tb_of (List.mem_of_getElem? (i := 104) (by decide +kernel)) (by decide +kernel)
theorem mb_105 : (.methodLink "PeriodWords" 22 ⟨"PeriodWords", "draftOf", "(ILPeriodWords$Word;LPeriodWords$Word;I)LPeriodWords$Draft;"⟩ : Cond) ∈ TB := tb_of (List.mem_of_getElem? (i := 105) (by decide +kernel)) (by decide +kernel)
theorem mb_106 : (.static ⟨"PeriodWords", "draftOf", "(ILPeriodWords$Word;LPeriodWords$Word;I)LPeriodWords$Draft;"⟩ : Cond) ∈ TB := tb_of (List.mem_of_getElem? (i := 106) (by decide +kernel)) (by decide +kernel)
set_option maxRecDepth 20000 in
theorem mb_107 : (.code ⟨"PeriodWords", "draftOf", "(ILPeriodWords$Word;LPeriodWords$Word;I)LPeriodWords$Draft;"⟩ prog_1_method_17_code 4 (some (.object "PeriodWords$Draft")) : Cond) ∈ TB := tb_of (List.mem_of_getElem? (i := 107) rfl) rfl
theorem mb_108 : (.methodLink "PeriodWords" 115 ⟨"PeriodWords", "draftOn", "(LPeriodWords$Word;LPeriodWords$Word;)LPeriodWords$Draft;"⟩ : Cond) ∈ TB := tb_of (List.mem_of_getElem? (i := 108) (by decide +kernel)) (by decide +kernel)
theorem mb_109 : (.static ⟨"PeriodWords", "draftOn", "(LPeriodWords$Word;LPeriodWords$Word;)LPeriodWords$Draft;"⟩ : Cond) ∈ TB := tb_of (List.mem_of_getElem? (i := 109) (by decide +kernel)) (by decide +kernel)
set_option maxRecDepth 20000 in
theorem mb_110 : (.code ⟨"PeriodWords", "draftOn", "(LPeriodWords$Word;LPeriodWords$Word;)LPeriodWords$Draft;"⟩ prog_1_method_18_code 4 (some (.object "PeriodWords$Draft")) : Cond) ∈ TB := tb_of (List.mem_of_getElem? (i := 110) rfl) rfl
theorem mb_111 : (.classLink "PeriodWords" 122 "PeriodWords$Draft" : Cond) ∈ TB := tb_of (List.mem_of_getElem? (i := 111) (by decide +kernel)) (by decide +kernel)
theorem mb_112 : (.instantiable "PeriodWords$Draft" 6 : Cond) ∈ TB := tb_of (List.mem_of_getElem? (i := 112) (by decide +kernel)) (by decide +kernel)
theorem mb_113 : (.methodLink "PeriodWords" 124 ⟨"PeriodWords$Draft", "<init>", "(ILPeriodWords$Word;LPeriodWords$Word;III)V"⟩ : Cond) ∈ TB := tb_of (List.mem_of_getElem? (i := 113) (by decide +kernel)) (by decide +kernel)
theorem mb_114 : (.instanceMethod ⟨"PeriodWords$Draft", "<init>", "(ILPeriodWords$Word;LPeriodWords$Word;III)V"⟩ : Cond) ∈ TB := tb_of (List.mem_of_getElem? (i := 114) (by decide +kernel)) (by decide +kernel)
set_option maxRecDepth 20000 in
theorem mb_115 : (.code ⟨"PeriodWords$Draft", "<init>", "(ILPeriodWords$Word;LPeriodWords$Word;III)V"⟩ prog_2_method_1_code 7 none : Cond) ∈ TB := tb_of (List.mem_of_getElem? (i := 115) rfl) rfl
theorem mb_116 : (.methodLink "PeriodWords$Draft" 3 ⟨"java/lang/Object", "<init>", "()V"⟩ : Cond) ∈ TB := tb_of (List.mem_of_getElem? (i := 116) (by decide +kernel)) (by decide +kernel)
theorem mb_117 : (.fieldLink "PeriodWords$Draft" 25 "PeriodWords$Draft" "headLength" "I" : Cond) ∈ TB := tb_of (List.mem_of_getElem? (i := 117) (by decide +kernel)) (by decide +kernel)
theorem mb_118 : (.fieldLink "PeriodWords" 147 "PeriodWords$Draft" "headLength" "I" : Cond) ∈ TB := tb_of (List.mem_of_getElem? (i := 118) (by decide +kernel)) (by decide +kernel)
theorem mb_119 : (.fieldLink "PeriodWords$Draft" 28 "PeriodWords$Draft" "ringLength" "I" : Cond) ∈ TB := tb_of (List.mem_of_getElem? (i := 119) (by decide +kernel)) (by decide +kernel)
theorem mb_120 : (.fieldLink "PeriodWords" 151 "PeriodWords$Draft" "ringLength" "I" : Cond) ∈ TB := tb_of (List.mem_of_getElem? (i := 120) (by decide +kernel)) (by decide +kernel)
theorem mb_121 : (.fieldLink "PeriodWords$Draft" 9 "PeriodWords$Draft" "how" "I" : Cond) ∈ TB := tb_of (List.mem_of_getElem? (i := 121) (by decide +kernel)) (by decide +kernel)
theorem mb_122 : (.fieldLink "PeriodWords$Draft" 15 "PeriodWords$Draft" "a" "LPeriodWords$Word;" : Cond) ∈ TB := tb_of (List.mem_of_getElem? (i := 122) (by decide +kernel)) (by decide +kernel)
theorem mb_123 : (.fieldLink "PeriodWords$Draft" 19 "PeriodWords$Draft" "b" "LPeriodWords$Word;" : Cond) ∈ TB := tb_of (List.mem_of_getElem? (i := 123) (by decide +kernel)) (by decide +kernel)
theorem mb_124 : (.fieldLink "PeriodWords$Draft" 22 "PeriodWords$Draft" "late" "I" : Cond) ∈ TB := tb_of (List.mem_of_getElem? (i := 124) (by decide +kernel)) (by decide +kernel)
theorem mb_138 : (.methodLink "PeriodWords" 84 ⟨"PeriodWords$Word", "tickOf", "(I)I"⟩ : Cond) ∈ TB := tb_of (List.mem_of_getElem? (i := 138) (by decide +kernel)) (by decide +kernel)
theorem mb_139 : (.instanceMethod ⟨"PeriodWords$Word", "tickOf", "(I)I"⟩ : Cond) ∈ TB := tb_of (List.mem_of_getElem? (i := 139) (by decide +kernel)) (by decide +kernel)
theorem mb_140 : (.selects "PeriodWords$Word" ⟨"PeriodWords$Word", "tickOf", "(I)I"⟩ ⟨"PeriodWords$Word", "tickOf", "(I)I"⟩ : Cond) ∈ TB := tb_of (List.mem_of_getElem? (i := 140) (by decide +kernel)) (by decide +kernel)
set_option maxRecDepth 20000 in
theorem mb_141 : (.code ⟨"PeriodWords$Word", "tickOf", "(I)I"⟩ prog_3_method_7_code 3 (some .int) : Cond) ∈ TB := tb_of (List.mem_of_getElem? (i := 141) rfl) rfl
theorem mb_142 : (.methodLink "PeriodWords$Word" 55 ⟨"PeriodWords$Word", "hasOne", "(I)Z"⟩ : Cond) ∈ TB := tb_of (List.mem_of_getElem? (i := 142) (by decide +kernel)) (by decide +kernel)
theorem mb_143 : (.instanceMethod ⟨"PeriodWords$Word", "hasOne", "(I)Z"⟩ : Cond) ∈ TB := tb_of (List.mem_of_getElem? (i := 143) (by decide +kernel)) (by decide +kernel)
theorem mb_144 : (.selects "PeriodWords$Word" ⟨"PeriodWords$Word", "hasOne", "(I)Z"⟩ ⟨"PeriodWords$Word", "hasOne", "(I)Z"⟩ : Cond) ∈ TB := tb_of (List.mem_of_getElem? (i := 144) (by decide +kernel)) (by decide +kernel)
set_option maxRecDepth 20000 in
theorem mb_145 : (.code ⟨"PeriodWords$Word", "hasOne", "(I)Z"⟩ prog_3_method_6_code 2 (some .boolean) : Cond) ∈ TB := tb_of (List.mem_of_getElem? (i := 145) rfl) rfl
theorem mb_146 : (.methodLink "PeriodWords" 127 ⟨"java/lang/Math", "max", "(II)I"⟩ : Cond) ∈ TB := tb_of (List.mem_of_getElem? (i := 146) (by decide +kernel)) (by decide +kernel)
theorem mb_147 : (.methodLink "PeriodWords" 58 ⟨"PeriodWords", "commonDivisor", "(II)I"⟩ : Cond) ∈ TB := tb_of (List.mem_of_getElem? (i := 147) (by decide +kernel)) (by decide +kernel)
theorem mb_148 : (.static ⟨"PeriodWords", "commonDivisor", "(II)I"⟩ : Cond) ∈ TB := tb_of (List.mem_of_getElem? (i := 148) (by decide +kernel)) (by decide +kernel)
set_option maxRecDepth 20000 in
theorem mb_149 : (.code ⟨"PeriodWords", "commonDivisor", "(II)I"⟩ prog_1_method_28_code 6 (some .int) : Cond) ∈ TB := tb_of (List.mem_of_getElem? (i := 149) rfl) rfl
theorem mb_150 : (.methodLink "PeriodWords" 119 ⟨"PeriodWords", "draftBy", "(LPeriodWords$Word;LPeriodWords$Word;)LPeriodWords$Draft;"⟩ : Cond) ∈ TB := tb_of (List.mem_of_getElem? (i := 150) (by decide +kernel)) (by decide +kernel)
theorem mb_151 : (.static ⟨"PeriodWords", "draftBy", "(LPeriodWords$Word;LPeriodWords$Word;)LPeriodWords$Draft;"⟩ : Cond) ∈ TB := tb_of (List.mem_of_getElem? (i := 151) (by decide +kernel)) (by decide +kernel)
set_option maxRecDepth 20000 in
theorem mb_152 : (.code ⟨"PeriodWords", "draftBy", "(LPeriodWords$Word;LPeriodWords$Word;)LPeriodWords$Draft;"⟩ prog_1_method_19_code 4 (some (.object "PeriodWords$Draft")) : Cond) ∈ TB := tb_of (List.mem_of_getElem? (i := 152) rfl) rfl
theorem mb_153 : (.methodLink "PeriodWords" 70 ⟨"PeriodWords$Word", "onesBefore", "(I)I"⟩ : Cond) ∈ TB := tb_of (List.mem_of_getElem? (i := 153) (by decide +kernel)) (by decide +kernel)
theorem mb_154 : (.instanceMethod ⟨"PeriodWords$Word", "onesBefore", "(I)I"⟩ : Cond) ∈ TB := tb_of (List.mem_of_getElem? (i := 154) (by decide +kernel)) (by decide +kernel)
theorem mb_155 : (.selects "PeriodWords$Word" ⟨"PeriodWords$Word", "onesBefore", "(I)I"⟩ ⟨"PeriodWords$Word", "onesBefore", "(I)I"⟩ : Cond) ∈ TB := tb_of (List.mem_of_getElem? (i := 155) (by decide +kernel)) (by decide +kernel)
set_option maxRecDepth 20000 in
theorem mb_156 : (.code ⟨"PeriodWords$Word", "onesBefore", "(I)I"⟩ prog_3_method_5_code 4 (some .int) : Cond) ∈ TB := tb_of (List.mem_of_getElem? (i := 156) rfl) rfl
theorem mb_157 : (.methodLink "PeriodWords" 132 ⟨"PeriodWords", "commonMultiple", "(II)I"⟩ : Cond) ∈ TB := tb_of (List.mem_of_getElem? (i := 157) (by decide +kernel)) (by decide +kernel)
theorem mb_158 : (.static ⟨"PeriodWords", "commonMultiple", "(II)I"⟩ : Cond) ∈ TB := tb_of (List.mem_of_getElem? (i := 158) (by decide +kernel)) (by decide +kernel)
set_option maxRecDepth 20000 in
theorem mb_159 : (.code ⟨"PeriodWords", "commonMultiple", "(II)I"⟩ prog_1_method_27_code 2 (some .int) : Cond) ∈ TB := tb_of (List.mem_of_getElem? (i := 159) rfl) rfl
theorem mb_160 : (.methodLink "PeriodWords" 26 ⟨"PeriodWords", "shortestForm", "(LPeriodWords$Draft;)LPeriodWords$Word;"⟩ : Cond) ∈ TB := tb_of (List.mem_of_getElem? (i := 160) (by decide +kernel)) (by decide +kernel)
theorem mb_161 : (.static ⟨"PeriodWords", "shortestForm", "(LPeriodWords$Draft;)LPeriodWords$Word;"⟩ : Cond) ∈ TB := tb_of (List.mem_of_getElem? (i := 161) (by decide +kernel)) (by decide +kernel)
set_option maxRecDepth 20000 in
theorem mb_162 : (.code ⟨"PeriodWords", "shortestForm", "(LPeriodWords$Draft;)LPeriodWords$Word;"⟩ prog_1_method_20_code 3 (some (.object "PeriodWords$Word")) : Cond) ∈ TB := tb_of (List.mem_of_getElem? (i := 162) rfl) rfl
theorem mb_163 : (.methodLink "PeriodWords" 135 ⟨"PeriodWords", "shortestRing", "(LPeriodWords$Draft;)I"⟩ : Cond) ∈ TB := tb_of (List.mem_of_getElem? (i := 163) (by decide +kernel)) (by decide +kernel)
theorem mb_164 : (.static ⟨"PeriodWords", "shortestRing", "(LPeriodWords$Draft;)I"⟩ : Cond) ∈ TB := tb_of (List.mem_of_getElem? (i := 164) (by decide +kernel)) (by decide +kernel)
set_option maxRecDepth 20000 in
theorem mb_165 : (.code ⟨"PeriodWords", "shortestRing", "(LPeriodWords$Draft;)I"⟩ prog_1_method_21_code 8 (some .int) : Cond) ∈ TB := tb_of (List.mem_of_getElem? (i := 165) rfl) rfl
theorem mb_166 : (.methodLink "PeriodWords" 148 ⟨"PeriodWords$Draft", "bitAt", "(I)I"⟩ : Cond) ∈ TB := tb_of (List.mem_of_getElem? (i := 166) (by decide +kernel)) (by decide +kernel)
theorem mb_167 : (.instanceMethod ⟨"PeriodWords$Draft", "bitAt", "(I)I"⟩ : Cond) ∈ TB := tb_of (List.mem_of_getElem? (i := 167) (by decide +kernel)) (by decide +kernel)
theorem mb_168 : (.selects "PeriodWords$Draft" ⟨"PeriodWords$Draft", "bitAt", "(I)I"⟩ ⟨"PeriodWords$Draft", "bitAt", "(I)I"⟩ : Cond) ∈ TB := tb_of (List.mem_of_getElem? (i := 168) (by decide +kernel)) (by decide +kernel)
set_option maxRecDepth 20000 in
theorem mb_169 : (.code ⟨"PeriodWords$Draft", "bitAt", "(I)I"⟩ prog_2_method_2_code 2 (some .int) : Cond) ∈ TB := tb_of (List.mem_of_getElem? (i := 169) rfl) rfl
theorem mb_170 : (.methodLink "PeriodWords$Draft" 31 ⟨"PeriodWords$Word", "bitAt", "(I)I"⟩ : Cond) ∈ TB := tb_of (List.mem_of_getElem? (i := 170) (by decide +kernel)) (by decide +kernel)
theorem mb_171 : (.instanceMethod ⟨"PeriodWords$Word", "bitAt", "(I)I"⟩ : Cond) ∈ TB := tb_of (List.mem_of_getElem? (i := 171) (by decide +kernel)) (by decide +kernel)
theorem mb_172 : (.selects "PeriodWords$Word" ⟨"PeriodWords$Word", "bitAt", "(I)I"⟩ ⟨"PeriodWords$Word", "bitAt", "(I)I"⟩ : Cond) ∈ TB := tb_of (List.mem_of_getElem? (i := 172) (by decide +kernel)) (by decide +kernel)
set_option maxRecDepth 20000 in
theorem mb_173 : (.code ⟨"PeriodWords$Word", "bitAt", "(I)I"⟩ prog_3_method_4_code 2 (some .int) : Cond) ∈ TB := tb_of (List.mem_of_getElem? (i := 173) rfl) rfl
theorem mb_174 : (.methodLink "PeriodWords$Draft" 37 ⟨"PeriodWords$Word", "onesBefore", "(I)I"⟩ : Cond) ∈ TB := tb_of (List.mem_of_getElem? (i := 174) (by decide +kernel)) (by decide +kernel)
theorem mb_175 : (.methodLink "PeriodWords$Draft" 40 ⟨"PeriodWords$Word", "tickOf", "(I)I"⟩ : Cond) ∈ TB := tb_of (List.mem_of_getElem? (i := 175) (by decide +kernel)) (by decide +kernel)
theorem mb_176 : (.constantLong "PeriodWords" 149 1152921504606846975 : Cond) ∈ TB := tb_of (List.mem_of_getElem? (i := 176) (by decide +kernel)) (by decide +kernel)
theorem mb_177 : (.constantLong "PeriodWords" 152 (-1) : Cond) ∈ TB := tb_of (List.mem_of_getElem? (i := 177) (by decide +kernel)) (by decide +kernel)
theorem mb_178 : (.methodLink "PeriodWords" 154 ⟨"java/lang/Long", "bitCount", "(J)I"⟩ : Cond) ∈ TB := tb_of (List.mem_of_getElem? (i := 178) (by decide +kernel)) (by decide +kernel)
theorem mb_179 : (.methodLink "PeriodWords" 139 ⟨"PeriodWords", "shortestHead", "(LPeriodWords$Draft;I)I"⟩ : Cond) ∈ TB := tb_of (List.mem_of_getElem? (i := 179) (by decide +kernel)) (by decide +kernel)
theorem mb_180 : (.static ⟨"PeriodWords", "shortestHead", "(LPeriodWords$Draft;I)I"⟩ : Cond) ∈ TB := tb_of (List.mem_of_getElem? (i := 180) (by decide +kernel)) (by decide +kernel)
set_option maxRecDepth 20000 in
theorem mb_181 : (.code ⟨"PeriodWords", "shortestHead", "(LPeriodWords$Draft;I)I"⟩ prog_1_method_22_code 3 (some .int) : Cond) ∈ TB := tb_of (List.mem_of_getElem? (i := 181) rfl) rfl
theorem mb_182 : (.methodLink "PeriodWords" 143 ⟨"PeriodWords$Draft", "bits", "(II)J"⟩ : Cond) ∈ TB := tb_of (List.mem_of_getElem? (i := 182) (by decide +kernel)) (by decide +kernel)
theorem mb_183 : (.instanceMethod ⟨"PeriodWords$Draft", "bits", "(II)J"⟩ : Cond) ∈ TB := tb_of (List.mem_of_getElem? (i := 183) (by decide +kernel)) (by decide +kernel)
theorem mb_184 : (.selects "PeriodWords$Draft" ⟨"PeriodWords$Draft", "bits", "(II)J"⟩ ⟨"PeriodWords$Draft", "bits", "(II)J"⟩ : Cond) ∈ TB := tb_of (List.mem_of_getElem? (i := 184) (by decide +kernel)) (by decide +kernel)
set_option maxRecDepth 20000 in
theorem mb_185 : (.code ⟨"PeriodWords$Draft", "bits", "(II)J"⟩ prog_2_method_3_code 6 (some .long) : Cond) ∈ TB := tb_of (List.mem_of_getElem? (i := 185) rfl) rfl
theorem mb_186 : (.methodLink "PeriodWords$Draft" 43 ⟨"PeriodWords$Draft", "bitAt", "(I)I"⟩ : Cond) ∈ TB := tb_of (List.mem_of_getElem? (i := 186) (by decide +kernel)) (by decide +kernel)
theorem mb_187 : (.methodLink "PeriodWords" 30 ⟨"PeriodWords", "keep", "(LPeriodWords$Word;)I"⟩ : Cond) ∈ TB := tb_of (List.mem_of_getElem? (i := 187) (by decide +kernel)) (by decide +kernel)
theorem mb_189 : (.instanceMethod ⟨"PeriodWords", "keep", "(LPeriodWords$Word;)I"⟩ : Cond) ∈ TB := tb_of (List.mem_of_getElem? (i := 189) (by decide +kernel)) (by decide +kernel)
set_option maxRecDepth 20000 in
theorem mb_190 : (.code ⟨"PeriodWords", "keep", "(LPeriodWords$Word;)I"⟩ prog_1_method_14_code 2 (some .int) : Cond) ∈ TB := tb_of (List.mem_of_getElem? (i := 190) rfl) rfl
theorem mb_191 : (.methodLink "PeriodWordsLaw" 45 ⟨"PeriodWords", "form", "(II)I"⟩ : Cond) ∈ TB := tb_of (List.mem_of_getElem? (i := 191) (by decide +kernel)) (by decide +kernel)
theorem mb_192 : (.instanceMethod ⟨"PeriodWords", "form", "(II)I"⟩ : Cond) ∈ TB := tb_of (List.mem_of_getElem? (i := 192) (by decide +kernel)) (by decide +kernel)
theorem mb_193 : (.selects "PeriodWords" ⟨"PeriodWords", "form", "(II)I"⟩ ⟨"PeriodWords", "form", "(II)I"⟩ : Cond) ∈ TB := tb_of (List.mem_of_getElem? (i := 193) (by decide +kernel)) (by decide +kernel)
set_option maxRecDepth 20000 in
theorem mb_194 : (.code ⟨"PeriodWords", "form", "(II)I"⟩ prog_1_method_4_code 4 (some .int) : Cond) ∈ TB := tb_of (List.mem_of_getElem? (i := 194) rfl) rfl
theorem mb_195 : (.methodLink "PeriodWords" 34 ⟨"PeriodWords", "find", "(I)LPeriodWords$Word;"⟩ : Cond) ∈ TB := tb_of (List.mem_of_getElem? (i := 195) (by decide +kernel)) (by decide +kernel)
theorem mb_197 : (.instanceMethod ⟨"PeriodWords", "find", "(I)LPeriodWords$Word;"⟩ : Cond) ∈ TB := tb_of (List.mem_of_getElem? (i := 197) (by decide +kernel)) (by decide +kernel)
set_option maxRecDepth 20000 in
theorem mb_198 : (.code ⟨"PeriodWords", "find", "(I)LPeriodWords$Word;"⟩ prog_1_method_13_code 2 (some (.object "PeriodWords$Word")) : Cond) ∈ TB := tb_of (List.mem_of_getElem? (i := 198) rfl) rfl
theorem mb_199 : (.methodLink "PeriodWordsLaw" 49 ⟨"PeriodWords", "bit", "(II)I"⟩ : Cond) ∈ TB := tb_of (List.mem_of_getElem? (i := 199) (by decide +kernel)) (by decide +kernel)
theorem mb_200 : (.instanceMethod ⟨"PeriodWords", "bit", "(II)I"⟩ : Cond) ∈ TB := tb_of (List.mem_of_getElem? (i := 200) (by decide +kernel)) (by decide +kernel)
theorem mb_201 : (.selects "PeriodWords" ⟨"PeriodWords", "bit", "(II)I"⟩ ⟨"PeriodWords", "bit", "(II)I"⟩ : Cond) ∈ TB := tb_of (List.mem_of_getElem? (i := 201) (by decide +kernel)) (by decide +kernel)
set_option maxRecDepth 20000 in
theorem mb_202 : (.code ⟨"PeriodWords", "bit", "(II)I"⟩ prog_1_method_5_code 4 (some .int) : Cond) ∈ TB := tb_of (List.mem_of_getElem? (i := 202) rfl) rfl
theorem mb_203 : (.constant "PeriodWords" 65 1000000000 : Cond) ∈ TB := tb_of (List.mem_of_getElem? (i := 203) (by decide +kernel)) (by decide +kernel)
theorem mb_204 : (.methodLink "PeriodWords" 66 ⟨"PeriodWords$Word", "bitAt", "(I)I"⟩ : Cond) ∈ TB := tb_of (List.mem_of_getElem? (i := 204) (by decide +kernel)) (by decide +kernel)
theorem mb_205 : (.methodLink "PeriodWordsLaw" 53 ⟨"PeriodWords", "ones", "(II)I"⟩ : Cond) ∈ TB := tb_of (List.mem_of_getElem? (i := 205) (by decide +kernel)) (by decide +kernel)
theorem mb_206 : (.instanceMethod ⟨"PeriodWords", "ones", "(II)I"⟩ : Cond) ∈ TB := tb_of (List.mem_of_getElem? (i := 206) (by decide +kernel)) (by decide +kernel)
theorem mb_207 : (.selects "PeriodWords" ⟨"PeriodWords", "ones", "(II)I"⟩ ⟨"PeriodWords", "ones", "(II)I"⟩ : Cond) ∈ TB := tb_of (List.mem_of_getElem? (i := 207) (by decide +kernel)) (by decide +kernel)
set_option maxRecDepth 20000 in
theorem mb_208 : (.code ⟨"PeriodWords", "ones", "(II)I"⟩ prog_1_method_6_code 4 (some .int) : Cond) ∈ TB := tb_of (List.mem_of_getElem? (i := 208) rfl) rfl
theorem mb_209 : (.methodLink "PeriodWordsLaw" 61 ⟨"PeriodWords", "same", "(I)I"⟩ : Cond) ∈ TB := tb_of (List.mem_of_getElem? (i := 209) (by decide +kernel)) (by decide +kernel)
theorem mb_210 : (.instanceMethod ⟨"PeriodWords", "same", "(I)I"⟩ : Cond) ∈ TB := tb_of (List.mem_of_getElem? (i := 210) (by decide +kernel)) (by decide +kernel)
theorem mb_211 : (.selects "PeriodWords" ⟨"PeriodWords", "same", "(I)I"⟩ ⟨"PeriodWords", "same", "(I)I"⟩ : Cond) ∈ TB := tb_of (List.mem_of_getElem? (i := 211) (by decide +kernel)) (by decide +kernel)
set_option maxRecDepth 20000 in
theorem mb_212 : (.code ⟨"PeriodWords", "same", "(I)I"⟩ prog_1_method_8_code 4 (some .int) : Cond) ∈ TB := tb_of (List.mem_of_getElem? (i := 212) rfl) rfl
theorem mb_213 : (.methodLink "PeriodWords" 87 ⟨"PeriodWords", "alike", "(LPeriodWords$Word;LPeriodWords$Word;)Z"⟩ : Cond) ∈ TB := tb_of (List.mem_of_getElem? (i := 213) (by decide +kernel)) (by decide +kernel)
theorem mb_214 : (.static ⟨"PeriodWords", "alike", "(LPeriodWords$Word;LPeriodWords$Word;)Z"⟩ : Cond) ∈ TB := tb_of (List.mem_of_getElem? (i := 214) (by decide +kernel)) (by decide +kernel)
set_option maxRecDepth 20000 in
theorem mb_215 : (.code ⟨"PeriodWords", "alike", "(LPeriodWords$Word;LPeriodWords$Word;)Z"⟩ prog_1_method_16_code 2 (some .boolean) : Cond) ∈ TB := tb_of (List.mem_of_getElem? (i := 215) rfl) rfl
theorem mb_216 : (.methodLink "PeriodWordsLaw" 66 ⟨"PeriodWords", "ahead", "(II)Z"⟩ : Cond) ∈ TB := tb_of (List.mem_of_getElem? (i := 216) (by decide +kernel)) (by decide +kernel)
theorem mb_217 : (.instanceMethod ⟨"PeriodWords", "ahead", "(II)Z"⟩ : Cond) ∈ TB := tb_of (List.mem_of_getElem? (i := 217) (by decide +kernel)) (by decide +kernel)
theorem mb_218 : (.selects "PeriodWords" ⟨"PeriodWords", "ahead", "(II)Z"⟩ ⟨"PeriodWords", "ahead", "(II)Z"⟩ : Cond) ∈ TB := tb_of (List.mem_of_getElem? (i := 218) (by decide +kernel)) (by decide +kernel)
set_option maxRecDepth 20000 in
theorem mb_219 : (.code ⟨"PeriodWords", "ahead", "(II)Z"⟩ prog_1_method_9_code 5 (some .boolean) : Cond) ∈ TB := tb_of (List.mem_of_getElem? (i := 219) rfl) rfl
theorem mb_220 : (.methodLink "PeriodWords" 91 ⟨"PeriodWords", "leastWait", "(LPeriodWords$Word;LPeriodWords$Word;)I"⟩ : Cond) ∈ TB := tb_of (List.mem_of_getElem? (i := 220) (by decide +kernel)) (by decide +kernel)
theorem mb_221 : (.static ⟨"PeriodWords", "leastWait", "(LPeriodWords$Word;LPeriodWords$Word;)I"⟩ : Cond) ∈ TB := tb_of (List.mem_of_getElem? (i := 221) (by decide +kernel)) (by decide +kernel)
set_option maxRecDepth 20000 in
theorem mb_222 : (.code ⟨"PeriodWords", "leastWait", "(LPeriodWords$Word;LPeriodWords$Word;)I"⟩ prog_1_method_25_code 3 (some .int) : Cond) ∈ TB := tb_of (List.mem_of_getElem? (i := 222) rfl) rfl
theorem mb_223 : (.methodLink "PeriodWords" 79 ⟨"PeriodWords$Word", "hasOne", "(I)Z"⟩ : Cond) ∈ TB := tb_of (List.mem_of_getElem? (i := 223) (by decide +kernel)) (by decide +kernel)
theorem mb_224 : (.methodLink "PeriodWords" 165 ⟨"PeriodWords", "mostBehind", "(LPeriodWords$Word;LPeriodWords$Word;I)I"⟩ : Cond) ∈ TB := tb_of (List.mem_of_getElem? (i := 224) (by decide +kernel)) (by decide +kernel)
theorem mb_225 : (.static ⟨"PeriodWords", "mostBehind", "(LPeriodWords$Word;LPeriodWords$Word;I)I"⟩ : Cond) ∈ TB := tb_of (List.mem_of_getElem? (i := 225) (by decide +kernel)) (by decide +kernel)
set_option maxRecDepth 20000 in
theorem mb_226 : (.code ⟨"PeriodWords", "mostBehind", "(LPeriodWords$Word;LPeriodWords$Word;I)I"⟩ prog_1_method_26_code 5 (some .int) : Cond) ∈ TB := tb_of (List.mem_of_getElem? (i := 226) rfl) rfl
theorem mb_227 : (.methodLink "PeriodWords" 100 ⟨"PeriodWords", "compareRates", "(LPeriodWords$Word;LPeriodWords$Word;)I"⟩ : Cond) ∈ TB := tb_of (List.mem_of_getElem? (i := 227) (by decide +kernel)) (by decide +kernel)
theorem mb_228 : (.static ⟨"PeriodWords", "compareRates", "(LPeriodWords$Word;LPeriodWords$Word;)I"⟩ : Cond) ∈ TB := tb_of (List.mem_of_getElem? (i := 228) (by decide +kernel)) (by decide +kernel)
set_option maxRecDepth 20000 in
theorem mb_229 : (.code ⟨"PeriodWords", "compareRates", "(LPeriodWords$Word;LPeriodWords$Word;)I"⟩ prog_1_method_23_code 2 (some .int) : Cond) ∈ TB := tb_of (List.mem_of_getElem? (i := 229) rfl) rfl
theorem mb_230 : (.methodLink "PeriodWords" 160 ⟨"java/lang/Integer", "compare", "(II)I"⟩ : Cond) ∈ TB := tb_of (List.mem_of_getElem? (i := 230) (by decide +kernel)) (by decide +kernel)
theorem mb_231 : (.static ⟨"java/lang/Integer", "compare", "(II)I"⟩ : Cond) ∈ TB := tb_of (List.mem_of_getElem? (i := 231) (by decide +kernel)) (by decide +kernel)
set_option maxRecDepth 20000 in
theorem mb_232 : (.code ⟨"java/lang/Integer", "compare", "(II)I"⟩ prog_9_method_40_code 2 (some .int) : Cond) ∈ TB := tb_of (List.mem_of_getElem? (i := 232) rfl) rfl
theorem mb_233 : (.methodLink "PeriodWordsLaw" 74 ⟨"PeriodWords", "clear", "()V"⟩ : Cond) ∈ TB := tb_of (List.mem_of_getElem? (i := 233) (by decide +kernel)) (by decide +kernel)
theorem mb_234 : (.instanceMethod ⟨"PeriodWords", "clear", "()V"⟩ : Cond) ∈ TB := tb_of (List.mem_of_getElem? (i := 234) (by decide +kernel)) (by decide +kernel)
theorem mb_235 : (.selects "PeriodWords" ⟨"PeriodWords", "clear", "()V"⟩ ⟨"PeriodWords", "clear", "()V"⟩ : Cond) ∈ TB := tb_of (List.mem_of_getElem? (i := 235) (by decide +kernel)) (by decide +kernel)
set_option maxRecDepth 20000 in
theorem mb_236 : (.code ⟨"PeriodWords", "clear", "()V"⟩ prog_1_method_11_code 2 none : Cond) ∈ TB := tb_of (List.mem_of_getElem? (i := 236) rfl) rfl
theorem mb_237 : (.methodLink "PeriodWordsLaw" 78 ⟨"PeriodWords", "total", "()I"⟩ : Cond) ∈ TB := tb_of (List.mem_of_getElem? (i := 237) (by decide +kernel)) (by decide +kernel)
theorem mb_238 : (.instanceMethod ⟨"PeriodWords", "total", "()I"⟩ : Cond) ∈ TB := tb_of (List.mem_of_getElem? (i := 238) (by decide +kernel)) (by decide +kernel)
theorem mb_239 : (.selects "PeriodWords" ⟨"PeriodWords", "total", "()I"⟩ ⟨"PeriodWords", "total", "()I"⟩ : Cond) ∈ TB := tb_of (List.mem_of_getElem? (i := 239) (by decide +kernel)) (by decide +kernel)
set_option maxRecDepth 20000 in
theorem mb_240 : (.code ⟨"PeriodWords", "total", "()I"⟩ prog_1_method_12_code 1 (some .int) : Cond) ∈ TB := tb_of (List.mem_of_getElem? (i := 240) rfl) rfl
theorem mb_241 : (.methodLink "PeriodWordsLaw" 35 ⟨"PeriodWordsLaw", "make", "(LPeriodWords;III[J)I"⟩ : Cond) ∈ TB := tb_of (List.mem_of_getElem? (i := 241) (by decide +kernel)) (by decide +kernel)
theorem mb_242 : (.static ⟨"PeriodWordsLaw", "make", "(LPeriodWords;III[J)I"⟩ : Cond) ∈ TB := tb_of (List.mem_of_getElem? (i := 242) (by decide +kernel)) (by decide +kernel)
set_option maxRecDepth 20000 in
theorem mb_243 : (.codeWith ⟨"PeriodWordsLaw", "make", "(LPeriodWords;III[J)I"⟩ method_3_code 6 (some .int) [(0, 12, 15, 13)] : Cond) ∈ TB := tb_of (List.mem_of_getElem? (i := 243) rfl) rfl
theorem mb_244 : (.classLink "PeriodWordsLaw" 13 "java/lang/IllegalArgumentException" : Cond) ∈ TB := tb_of (List.mem_of_getElem? (i := 244) (by decide +kernel)) (by decide +kernel)
theorem mb_245 : (.methodLink "PeriodWordsLaw" 7 ⟨"PeriodWords", "make", "(III)I"⟩ : Cond) ∈ TB := tb_of (List.mem_of_getElem? (i := 245) (by decide +kernel)) (by decide +kernel)
theorem mb_246 : (.instanceMethod ⟨"PeriodWords", "make", "(III)I"⟩ : Cond) ∈ TB := tb_of (List.mem_of_getElem? (i := 246) (by decide +kernel)) (by decide +kernel)
theorem mb_247 : (.selects "PeriodWords" ⟨"PeriodWords", "make", "(III)I"⟩ ⟨"PeriodWords", "make", "(III)I"⟩ : Cond) ∈ TB := tb_of (List.mem_of_getElem? (i := 247) (by decide +kernel)) (by decide +kernel)
set_option maxRecDepth 20000 in
theorem mb_248 : (.code ⟨"PeriodWords", "make", "(III)I"⟩ prog_1_method_3_code 6 (some .int) : Cond) ∈ TB := tb_of (List.mem_of_getElem? (i := 248) rfl) rfl
theorem mb_249 : (.methodLink "PeriodWords" 38 ⟨"PeriodWords", "needsTwoWords", "(I)Z"⟩ : Cond) ∈ TB := tb_of (List.mem_of_getElem? (i := 249) (by decide +kernel)) (by decide +kernel)
theorem mb_250 : (.static ⟨"PeriodWords", "needsTwoWords", "(I)Z"⟩ : Cond) ∈ TB := tb_of (List.mem_of_getElem? (i := 250) (by decide +kernel)) (by decide +kernel)
set_option maxRecDepth 20000 in
theorem mb_251 : (.code ⟨"PeriodWords", "needsTwoWords", "(I)Z"⟩ prog_1_method_15_code 1 (some .boolean) : Cond) ∈ TB := tb_of (List.mem_of_getElem? (i := 251) rfl) rfl
theorem mb_252 : (.classLink "PeriodWords" 45 "java/lang/IllegalArgumentException" : Cond) ∈ TB := tb_of (List.mem_of_getElem? (i := 252) (by decide +kernel)) (by decide +kernel)
theorem mb_253 : (.instantiable "java/lang/IllegalArgumentException" 6 : Cond) ∈ TB := tb_of (List.mem_of_getElem? (i := 253) (by decide +kernel)) (by decide +kernel)
theorem mb_294 : (.methodLink "PeriodWords" 49 ⟨"java/lang/IllegalArgumentException", "<init>", "(Ljava/lang/String;)V"⟩ : Cond) ∈ TB := tb_of (List.mem_of_getElem? (i := 294) (by decide +kernel)) (by decide +kernel)
theorem mb_295 : (.instanceMethod ⟨"java/lang/IllegalArgumentException", "<init>", "(Ljava/lang/String;)V"⟩ : Cond) ∈ TB := tb_of (List.mem_of_getElem? (i := 295) (by decide +kernel)) (by decide +kernel)
set_option maxRecDepth 20000 in
theorem mb_296 : (.code ⟨"java/lang/IllegalArgumentException", "<init>", "(Ljava/lang/String;)V"⟩ prog_8_method_2_code 2 none : Cond) ∈ TB := tb_of (List.mem_of_getElem? (i := 296) rfl) rfl
theorem mb_297 : (.methodLink "java/lang/IllegalArgumentException" 7 ⟨"java/lang/RuntimeException", "<init>", "(Ljava/lang/String;)V"⟩ : Cond) ∈ TB := tb_of (List.mem_of_getElem? (i := 297) (by decide +kernel)) (by decide +kernel)
theorem mb_298 : (.instanceMethod ⟨"java/lang/RuntimeException", "<init>", "(Ljava/lang/String;)V"⟩ : Cond) ∈ TB := tb_of (List.mem_of_getElem? (i := 298) (by decide +kernel)) (by decide +kernel)
set_option maxRecDepth 20000 in
theorem mb_299 : (.code ⟨"java/lang/RuntimeException", "<init>", "(Ljava/lang/String;)V"⟩ prog_12_method_2_code 2 none : Cond) ∈ TB := tb_of (List.mem_of_getElem? (i := 299) rfl) rfl
theorem mb_300 : (.methodLink "java/lang/RuntimeException" 7 ⟨"java/lang/Exception", "<init>", "(Ljava/lang/String;)V"⟩ : Cond) ∈ TB := tb_of (List.mem_of_getElem? (i := 300) (by decide +kernel)) (by decide +kernel)
theorem mb_301 : (.instanceMethod ⟨"java/lang/Exception", "<init>", "(Ljava/lang/String;)V"⟩ : Cond) ∈ TB := tb_of (List.mem_of_getElem? (i := 301) (by decide +kernel)) (by decide +kernel)
set_option maxRecDepth 20000 in
theorem mb_302 : (.code ⟨"java/lang/Exception", "<init>", "(Ljava/lang/String;)V"⟩ prog_7_method_2_code 2 none : Cond) ∈ TB := tb_of (List.mem_of_getElem? (i := 302) rfl) rfl
theorem mb_319 : (.arrayClass .byte : Cond) ∈ TB := tb_of (List.mem_of_getElem? (i := 319) (by decide +kernel)) (by decide +kernel)
theorem mb_320 : (.methodLink "PeriodWordsLaw" 57 ⟨"PeriodWordsLaw", "at", "(LPeriodWords;II[J)I"⟩ : Cond) ∈ TB := tb_of (List.mem_of_getElem? (i := 320) (by decide +kernel)) (by decide +kernel)
theorem mb_321 : (.static ⟨"PeriodWordsLaw", "at", "(LPeriodWords;II[J)I"⟩ : Cond) ∈ TB := tb_of (List.mem_of_getElem? (i := 321) (by decide +kernel)) (by decide +kernel)
set_option maxRecDepth 20000 in
theorem mb_322 : (.codeWith ⟨"PeriodWordsLaw", "at", "(LPeriodWords;II[J)I"⟩ method_4_code 5 (some .int) [(0, 10, 13, 19)] : Cond) ∈ TB := tb_of (List.mem_of_getElem? (i := 322) rfl) rfl
theorem mb_323 : (.classLink "PeriodWordsLaw" 19 "java/util/NoSuchElementException" : Cond) ∈ TB := tb_of (List.mem_of_getElem? (i := 323) (by decide +kernel)) (by decide +kernel)
theorem mb_324 : (.methodLink "PeriodWordsLaw" 15 ⟨"PeriodWords", "at", "(II)I"⟩ : Cond) ∈ TB := tb_of (List.mem_of_getElem? (i := 324) (by decide +kernel)) (by decide +kernel)
theorem mb_325 : (.instanceMethod ⟨"PeriodWords", "at", "(II)I"⟩ : Cond) ∈ TB := tb_of (List.mem_of_getElem? (i := 325) (by decide +kernel)) (by decide +kernel)
theorem mb_326 : (.selects "PeriodWords" ⟨"PeriodWords", "at", "(II)I"⟩ ⟨"PeriodWords", "at", "(II)I"⟩ : Cond) ∈ TB := tb_of (List.mem_of_getElem? (i := 326) (by decide +kernel)) (by decide +kernel)
set_option maxRecDepth 20000 in
theorem mb_327 : (.code ⟨"PeriodWords", "at", "(II)I"⟩ prog_1_method_7_code 4 (some .int) : Cond) ∈ TB := tb_of (List.mem_of_getElem? (i := 327) rfl) rfl
theorem mb_328 : (.classLink "PeriodWords" 73 "java/util/NoSuchElementException" : Cond) ∈ TB := tb_of (List.mem_of_getElem? (i := 328) (by decide +kernel)) (by decide +kernel)
theorem mb_329 : (.instantiable "java/util/NoSuchElementException" 6 : Cond) ∈ TB := tb_of (List.mem_of_getElem? (i := 329) (by decide +kernel)) (by decide +kernel)
theorem mb_338 : (.methodLink "PeriodWords" 77 ⟨"java/util/NoSuchElementException", "<init>", "(Ljava/lang/String;)V"⟩ : Cond) ∈ TB := tb_of (List.mem_of_getElem? (i := 338) (by decide +kernel)) (by decide +kernel)
theorem mb_339 : (.instanceMethod ⟨"java/util/NoSuchElementException", "<init>", "(Ljava/lang/String;)V"⟩ : Cond) ∈ TB := tb_of (List.mem_of_getElem? (i := 339) (by decide +kernel)) (by decide +kernel)
set_option maxRecDepth 20000 in
theorem mb_340 : (.code ⟨"java/util/NoSuchElementException", "<init>", "(Ljava/lang/String;)V"⟩ prog_15_method_4_code 2 none : Cond) ∈ TB := tb_of (List.mem_of_getElem? (i := 340) rfl) rfl
theorem mb_341 : (.methodLink "java/util/NoSuchElementException" 13 ⟨"java/lang/RuntimeException", "<init>", "(Ljava/lang/String;)V"⟩ : Cond) ∈ TB := tb_of (List.mem_of_getElem? (i := 341) (by decide +kernel)) (by decide +kernel)
theorem mb_344 : (.constant "PeriodWords" 78 1000000 : Cond) ∈ TB := tb_of (List.mem_of_getElem? (i := 344) (by decide +kernel)) (by decide +kernel)
theorem mb_346 : (.methodLink "PeriodWordsLaw" 71 ⟨"PeriodWordsLaw", "between", "(LPeriodWords;III[J)I"⟩ : Cond) ∈ TB := tb_of (List.mem_of_getElem? (i := 346) (by decide +kernel)) (by decide +kernel)
theorem mb_347 : (.static ⟨"PeriodWordsLaw", "between", "(LPeriodWords;III[J)I"⟩ : Cond) ∈ TB := tb_of (List.mem_of_getElem? (i := 347) (by decide +kernel)) (by decide +kernel)
set_option maxRecDepth 20000 in
theorem mb_348 : (.codeWith ⟨"PeriodWordsLaw", "between", "(LPeriodWords;III[J)I"⟩ method_5_code 6 (some .int) [(0, 12, 15, 24)] : Cond) ∈ TB := tb_of (List.mem_of_getElem? (i := 348) rfl) rfl
theorem mb_349 : (.classLink "PeriodWordsLaw" 24 "java/lang/ArithmeticException" : Cond) ∈ TB := tb_of (List.mem_of_getElem? (i := 349) (by decide +kernel)) (by decide +kernel)
theorem mb_350 : (.methodLink "PeriodWordsLaw" 21 ⟨"PeriodWords", "between", "(III)I"⟩ : Cond) ∈ TB := tb_of (List.mem_of_getElem? (i := 350) (by decide +kernel)) (by decide +kernel)
theorem mb_351 : (.instanceMethod ⟨"PeriodWords", "between", "(III)I"⟩ : Cond) ∈ TB := tb_of (List.mem_of_getElem? (i := 351) (by decide +kernel)) (by decide +kernel)
theorem mb_352 : (.selects "PeriodWords" ⟨"PeriodWords", "between", "(III)I"⟩ ⟨"PeriodWords", "between", "(III)I"⟩ : Cond) ∈ TB := tb_of (List.mem_of_getElem? (i := 352) (by decide +kernel)) (by decide +kernel)
set_option maxRecDepth 20000 in
theorem mb_353 : (.code ⟨"PeriodWords", "between", "(III)I"⟩ prog_1_method_10_code 7 (some .int) : Cond) ∈ TB := tb_of (List.mem_of_getElem? (i := 353) rfl) rfl
theorem mb_354 : (.classLink "PeriodWords" 95 "java/lang/ArithmeticException" : Cond) ∈ TB := tb_of (List.mem_of_getElem? (i := 354) (by decide +kernel)) (by decide +kernel)
theorem mb_355 : (.instantiable "java/lang/ArithmeticException" 6 : Cond) ∈ TB := tb_of (List.mem_of_getElem? (i := 355) (by decide +kernel)) (by decide +kernel)
theorem mb_364 : (.methodLink "PeriodWords" 99 ⟨"java/lang/ArithmeticException", "<init>", "(Ljava/lang/String;)V"⟩ : Cond) ∈ TB := tb_of (List.mem_of_getElem? (i := 364) (by decide +kernel)) (by decide +kernel)
theorem mb_365 : (.instanceMethod ⟨"java/lang/ArithmeticException", "<init>", "(Ljava/lang/String;)V"⟩ : Cond) ∈ TB := tb_of (List.mem_of_getElem? (i := 365) (by decide +kernel)) (by decide +kernel)
set_option maxRecDepth 20000 in
theorem mb_366 : (.code ⟨"java/lang/ArithmeticException", "<init>", "(Ljava/lang/String;)V"⟩ prog_6_method_2_code 2 none : Cond) ∈ TB := tb_of (List.mem_of_getElem? (i := 366) rfl) rfl
theorem mb_367 : (.methodLink "java/lang/ArithmeticException" 7 ⟨"java/lang/RuntimeException", "<init>", "(Ljava/lang/String;)V"⟩ : Cond) ∈ TB := tb_of (List.mem_of_getElem? (i := 367) (by decide +kernel)) (by decide +kernel)
theorem mb_371 : (.methodLink "PeriodWords" 105 ⟨"PeriodWords", "mostKept", "(LPeriodWords$Word;LPeriodWords$Word;)I"⟩ : Cond) ∈ TB := tb_of (List.mem_of_getElem? (i := 371) (by decide +kernel)) (by decide +kernel)
theorem mb_372 : (.static ⟨"PeriodWords", "mostKept", "(LPeriodWords$Word;LPeriodWords$Word;)I"⟩ : Cond) ∈ TB := tb_of (List.mem_of_getElem? (i := 372) (by decide +kernel)) (by decide +kernel)
set_option maxRecDepth 20000 in
theorem mb_373 : (.code ⟨"PeriodWords", "mostKept", "(LPeriodWords$Word;LPeriodWords$Word;)I"⟩ prog_1_method_24_code 6 (some .int) : Cond) ∈ TB := tb_of (List.mem_of_getElem? (i := 373) rfl) rfl
theorem mb_374 : (.classLink "PeriodWordsLaw" 27 "PeriodWordsModel" : Cond) ∈ TB := tb_of (List.mem_of_getElem? (i := 374) (by decide +kernel)) (by decide +kernel)
theorem mb_375 : (.instantiable "PeriodWordsModel" 9 : Cond) ∈ TB := tb_of (List.mem_of_getElem? (i := 375) (by decide +kernel)) (by decide +kernel)
theorem mb_376 : (.methodLink "PeriodWordsLaw" 29 ⟨"PeriodWordsModel", "<init>", "()V"⟩ : Cond) ∈ TB := tb_of (List.mem_of_getElem? (i := 376) (by decide +kernel)) (by decide +kernel)
theorem mb_377 : (.instanceMethod ⟨"PeriodWordsModel", "<init>", "()V"⟩ : Cond) ∈ TB := tb_of (List.mem_of_getElem? (i := 377) (by decide +kernel)) (by decide +kernel)
set_option maxRecDepth 20000 in
theorem mb_378 : (.code ⟨"PeriodWordsModel", "<init>", "()V"⟩ prog_5_method_1_code 1 none : Cond) ∈ TB := tb_of (List.mem_of_getElem? (i := 378) rfl) rfl
theorem mb_379 : (.methodLink "PeriodWordsModel" 1 ⟨"java/lang/Object", "<init>", "()V"⟩ : Cond) ∈ TB := tb_of (List.mem_of_getElem? (i := 379) (by decide +kernel)) (by decide +kernel)
theorem mb_380 : (.fieldLink "PeriodWordsModel" 27 "PeriodWordsModel" "thrown" "I" : Cond) ∈ TB := tb_of (List.mem_of_getElem? (i := 380) (by decide +kernel)) (by decide +kernel)
theorem mb_381 : (.fieldLink "PeriodWordsModel" 31 "PeriodWordsModel" "words" "I" : Cond) ∈ TB := tb_of (List.mem_of_getElem? (i := 381) (by decide +kernel)) (by decide +kernel)
theorem mb_382 : (.fieldLink "PeriodWordsModel" 7 "PeriodWordsModel" "head" "[I" : Cond) ∈ TB := tb_of (List.mem_of_getElem? (i := 382) (by decide +kernel)) (by decide +kernel)
theorem mb_383 : (.fieldLink "PeriodWordsModel" 13 "PeriodWordsModel" "ring" "[I" : Cond) ∈ TB := tb_of (List.mem_of_getElem? (i := 383) (by decide +kernel)) (by decide +kernel)
theorem mb_384 : (.fieldLink "PeriodWordsModel" 16 "PeriodWordsModel" "headBits" "[J" : Cond) ∈ TB := tb_of (List.mem_of_getElem? (i := 384) (by decide +kernel)) (by decide +kernel)
theorem mb_385 : (.fieldLink "PeriodWordsModel" 20 "PeriodWordsModel" "ringBits" "[J" : Cond) ∈ TB := tb_of (List.mem_of_getElem? (i := 385) (by decide +kernel)) (by decide +kernel)
theorem mb_386 : (.fieldLink "PeriodWordsModel" 23 "PeriodWordsModel" "bits" "[Z" : Cond) ∈ TB := tb_of (List.mem_of_getElem? (i := 386) (by decide +kernel)) (by decide +kernel)
theorem mb_387 : (.fieldLink "PeriodWordsModel" 98 "PeriodWordsModel" "most" "I" : Cond) ∈ TB := tb_of (List.mem_of_getElem? (i := 387) (by decide +kernel)) (by decide +kernel)
theorem mb_388 : (.fieldLink "PeriodWordsModel" 101 "PeriodWordsModel" "least" "I" : Cond) ∈ TB := tb_of (List.mem_of_getElem? (i := 388) (by decide +kernel)) (by decide +kernel)
theorem mb_408 : (.arrayClass .long : Cond) ∈ TB := tb_of (List.mem_of_getElem? (i := 408) (by decide +kernel)) (by decide +kernel)
theorem mb_409 : (.arrayClass .boolean : Cond) ∈ TB := tb_of (List.mem_of_getElem? (i := 409) (by decide +kernel)) (by decide +kernel)
theorem mb_410 : (.methodLink "PeriodWordsLaw" 41 ⟨"PeriodWordsModel", "thrown", "()I"⟩ : Cond) ∈ TB := tb_of (List.mem_of_getElem? (i := 410) (by decide +kernel)) (by decide +kernel)
theorem mb_411 : (.instanceMethod ⟨"PeriodWordsModel", "thrown", "()I"⟩ : Cond) ∈ TB := tb_of (List.mem_of_getElem? (i := 411) (by decide +kernel)) (by decide +kernel)
theorem mb_412 : (.selects "PeriodWordsModel" ⟨"PeriodWordsModel", "thrown", "()I"⟩ ⟨"PeriodWordsModel", "thrown", "()I"⟩ : Cond) ∈ TB := tb_of (List.mem_of_getElem? (i := 412) (by decide +kernel)) (by decide +kernel)
set_option maxRecDepth 20000 in
theorem mb_413 : (.code ⟨"PeriodWordsModel", "thrown", "()I"⟩ prog_5_method_2_code 1 (some .int) : Cond) ∈ TB := tb_of (List.mem_of_getElem? (i := 413) rfl) rfl
theorem mb_414 : (.methodLink "PeriodWordsLaw" 34 ⟨"PeriodWordsModel", "word", "(IIII)I"⟩ : Cond) ∈ TB := tb_of (List.mem_of_getElem? (i := 414) (by decide +kernel)) (by decide +kernel)
theorem mb_415 : (.instanceMethod ⟨"PeriodWordsModel", "word", "(IIII)I"⟩ : Cond) ∈ TB := tb_of (List.mem_of_getElem? (i := 415) (by decide +kernel)) (by decide +kernel)
theorem mb_416 : (.selects "PeriodWordsModel" ⟨"PeriodWordsModel", "word", "(IIII)I"⟩ ⟨"PeriodWordsModel", "word", "(IIII)I"⟩ : Cond) ∈ TB := tb_of (List.mem_of_getElem? (i := 416) (by decide +kernel)) (by decide +kernel)
set_option maxRecDepth 20000 in
theorem mb_417 : (.code ⟨"PeriodWordsModel", "word", "(IIII)I"⟩ prog_5_method_11_code 6 (some .int) : Cond) ∈ TB := tb_of (List.mem_of_getElem? (i := 417) rfl) rfl
theorem mb_418 : (.methodLink "PeriodWordsModel" 34 ⟨"PeriodWordsModel", "in", "(III)Z"⟩ : Cond) ∈ TB := tb_of (List.mem_of_getElem? (i := 418) (by decide +kernel)) (by decide +kernel)
theorem mb_419 : (.static ⟨"PeriodWordsModel", "in", "(III)Z"⟩ : Cond) ∈ TB := tb_of (List.mem_of_getElem? (i := 419) (by decide +kernel)) (by decide +kernel)
set_option maxRecDepth 20000 in
theorem mb_420 : (.code ⟨"PeriodWordsModel", "in", "(III)Z"⟩ prog_5_method_4_code 3 (some .boolean) : Cond) ∈ TB := tb_of (List.mem_of_getElem? (i := 420) rfl) rfl
theorem mb_421 : (.methodLink "PeriodWordsModel" 45 ⟨"PeriodWordsModel", "settle", "(II)I"⟩ : Cond) ∈ TB := tb_of (List.mem_of_getElem? (i := 421) (by decide +kernel)) (by decide +kernel)
theorem mb_423 : (.instanceMethod ⟨"PeriodWordsModel", "settle", "(II)I"⟩ : Cond) ∈ TB := tb_of (List.mem_of_getElem? (i := 423) (by decide +kernel)) (by decide +kernel)
set_option maxRecDepth 20000 in
theorem mb_424 : (.code ⟨"PeriodWordsModel", "settle", "(II)I"⟩ prog_5_method_9_code 6 (some .int) : Cond) ∈ TB := tb_of (List.mem_of_getElem? (i := 424) rfl) rfl
theorem mb_425 : (.methodLink "PeriodWordsModel" 42 ⟨"PeriodWordsModel", "comesBack", "(III)Z"⟩ : Cond) ∈ TB := tb_of (List.mem_of_getElem? (i := 425) (by decide +kernel)) (by decide +kernel)
theorem mb_427 : (.instanceMethod ⟨"PeriodWordsModel", "comesBack", "(III)Z"⟩ : Cond) ∈ TB := tb_of (List.mem_of_getElem? (i := 427) (by decide +kernel)) (by decide +kernel)
set_option maxRecDepth 20000 in
theorem mb_428 : (.code ⟨"PeriodWordsModel", "comesBack", "(III)Z"⟩ prog_5_method_10_code 5 (some .boolean) : Cond) ∈ TB := tb_of (List.mem_of_getElem? (i := 428) rfl) rfl
theorem mb_429 : (.methodLink "PeriodWordsLaw" 40 ⟨"PeriodWordsModel", "make", "(III)I"⟩ : Cond) ∈ TB := tb_of (List.mem_of_getElem? (i := 429) (by decide +kernel)) (by decide +kernel)
theorem mb_430 : (.instanceMethod ⟨"PeriodWordsModel", "make", "(III)I"⟩ : Cond) ∈ TB := tb_of (List.mem_of_getElem? (i := 430) (by decide +kernel)) (by decide +kernel)
theorem mb_431 : (.selects "PeriodWordsModel" ⟨"PeriodWordsModel", "make", "(III)I"⟩ ⟨"PeriodWordsModel", "make", "(III)I"⟩ : Cond) ∈ TB := tb_of (List.mem_of_getElem? (i := 431) (by decide +kernel)) (by decide +kernel)
set_option maxRecDepth 20000 in
theorem mb_432 : (.code ⟨"PeriodWordsModel", "make", "(III)I"⟩ prog_5_method_19_code 5 (some .int) : Cond) ∈ TB := tb_of (List.mem_of_getElem? (i := 432) rfl) rfl
theorem mb_433 : (.methodLink "PeriodWordsModel" 60 ⟨"PeriodWordsModel", "isWord", "(I)Z"⟩ : Cond) ∈ TB := tb_of (List.mem_of_getElem? (i := 433) (by decide +kernel)) (by decide +kernel)
theorem mb_435 : (.instanceMethod ⟨"PeriodWordsModel", "isWord", "(I)Z"⟩ : Cond) ∈ TB := tb_of (List.mem_of_getElem? (i := 435) (by decide +kernel)) (by decide +kernel)
set_option maxRecDepth 20000 in
theorem mb_436 : (.code ⟨"PeriodWordsModel", "isWord", "(I)Z"⟩ prog_5_method_5_code 2 (some .boolean) : Cond) ∈ TB := tb_of (List.mem_of_getElem? (i := 436) rfl) rfl
theorem mb_437 : (.methodLink "PeriodWordsModel" 56 ⟨"PeriodWordsModel", "inRing", "(I)I"⟩ : Cond) ∈ TB := tb_of (List.mem_of_getElem? (i := 437) (by decide +kernel)) (by decide +kernel)
theorem mb_439 : (.instanceMethod ⟨"PeriodWordsModel", "inRing", "(I)I"⟩ : Cond) ∈ TB := tb_of (List.mem_of_getElem? (i := 439) (by decide +kernel)) (by decide +kernel)
set_option maxRecDepth 20000 in
theorem mb_440 : (.code ⟨"PeriodWordsModel", "inRing", "(I)I"⟩ prog_5_method_8_code 2 (some .int) : Cond) ∈ TB := tb_of (List.mem_of_getElem? (i := 440) rfl) rfl
theorem mb_441 : (.methodLink "PeriodWordsModel" 38 ⟨"PeriodWordsModel", "onesOf", "(JI)I"⟩ : Cond) ∈ TB := tb_of (List.mem_of_getElem? (i := 441) (by decide +kernel)) (by decide +kernel)
theorem mb_442 : (.static ⟨"PeriodWordsModel", "onesOf", "(JI)I"⟩ : Cond) ∈ TB := tb_of (List.mem_of_getElem? (i := 442) (by decide +kernel)) (by decide +kernel)
set_option maxRecDepth 20000 in
theorem mb_443 : (.code ⟨"PeriodWordsModel", "onesOf", "(JI)I"⟩ prog_5_method_7_code 5 (some .int) : Cond) ∈ TB := tb_of (List.mem_of_getElem? (i := 443) rfl) rfl
theorem mb_444 : (.methodLink "PeriodWordsModel" 64 ⟨"PeriodWordsModel", "raise", "()I"⟩ : Cond) ∈ TB := tb_of (List.mem_of_getElem? (i := 444) (by decide +kernel)) (by decide +kernel)
theorem mb_446 : (.instanceMethod ⟨"PeriodWordsModel", "raise", "()I"⟩ : Cond) ∈ TB := tb_of (List.mem_of_getElem? (i := 446) (by decide +kernel)) (by decide +kernel)
set_option maxRecDepth 20000 in
theorem mb_447 : (.code ⟨"PeriodWordsModel", "raise", "()I"⟩ prog_5_method_3_code 1 (some .int) : Cond) ∈ TB := tb_of (List.mem_of_getElem? (i := 447) rfl) rfl
theorem mb_448 : (.methodLink "PeriodWordsModel" 68 ⟨"PeriodWordsModel", "opposite", "(I)I"⟩ : Cond) ∈ TB := tb_of (List.mem_of_getElem? (i := 448) (by decide +kernel)) (by decide +kernel)
theorem mb_450 : (.instanceMethod ⟨"PeriodWordsModel", "opposite", "(I)I"⟩ : Cond) ∈ TB := tb_of (List.mem_of_getElem? (i := 450) (by decide +kernel)) (by decide +kernel)
set_option maxRecDepth 20000 in
theorem mb_451 : (.code ⟨"PeriodWordsModel", "opposite", "(I)I"⟩ prog_5_method_14_code 3 (some .int) : Cond) ∈ TB := tb_of (List.mem_of_getElem? (i := 451) rfl) rfl
theorem mb_452 : (.methodLink "PeriodWordsModel" 52 ⟨"PeriodWordsModel", "has", "(II)Z"⟩ : Cond) ∈ TB := tb_of (List.mem_of_getElem? (i := 452) (by decide +kernel)) (by decide +kernel)
theorem mb_454 : (.instanceMethod ⟨"PeriodWordsModel", "has", "(II)Z"⟩ : Cond) ∈ TB := tb_of (List.mem_of_getElem? (i := 454) (by decide +kernel)) (by decide +kernel)
set_option maxRecDepth 20000 in
theorem mb_455 : (.code ⟨"PeriodWordsModel", "has", "(II)Z"⟩ prog_5_method_6_code 3 (some .boolean) : Cond) ∈ TB := tb_of (List.mem_of_getElem? (i := 455) rfl) rfl
theorem mb_456 : (.methodLink "PeriodWordsModel" 71 ⟨"PeriodWordsModel", "on", "(II)I"⟩ : Cond) ∈ TB := tb_of (List.mem_of_getElem? (i := 456) (by decide +kernel)) (by decide +kernel)
theorem mb_458 : (.instanceMethod ⟨"PeriodWordsModel", "on", "(II)I"⟩ : Cond) ∈ TB := tb_of (List.mem_of_getElem? (i := 458) (by decide +kernel)) (by decide +kernel)
set_option maxRecDepth 20000 in
theorem mb_459 : (.code ⟨"PeriodWordsModel", "on", "(II)I"⟩ prog_5_method_15_code 8 (some .int) : Cond) ∈ TB := tb_of (List.mem_of_getElem? (i := 459) rfl) rfl
theorem mb_460 : (.methodLink "PeriodWordsModel" 74 ⟨"PeriodWordsModel", "by", "(II)I"⟩ : Cond) ∈ TB := tb_of (List.mem_of_getElem? (i := 460) (by decide +kernel)) (by decide +kernel)
theorem mb_462 : (.instanceMethod ⟨"PeriodWordsModel", "by", "(II)I"⟩ : Cond) ∈ TB := tb_of (List.mem_of_getElem? (i := 462) (by decide +kernel)) (by decide +kernel)
set_option maxRecDepth 20000 in
theorem mb_463 : (.code ⟨"PeriodWordsModel", "by", "(II)I"⟩ prog_5_method_16_code 8 (some .int) : Cond) ∈ TB := tb_of (List.mem_of_getElem? (i := 463) rfl) rfl
theorem mb_464 : (.methodLink "PeriodWordsModel" 49 ⟨"PeriodWordsModel", "greater", "(II)I"⟩ : Cond) ∈ TB := tb_of (List.mem_of_getElem? (i := 464) (by decide +kernel)) (by decide +kernel)
theorem mb_465 : (.static ⟨"PeriodWordsModel", "greater", "(II)I"⟩ : Cond) ∈ TB := tb_of (List.mem_of_getElem? (i := 465) (by decide +kernel)) (by decide +kernel)
set_option maxRecDepth 20000 in
theorem mb_466 : (.code ⟨"PeriodWordsModel", "greater", "(II)I"⟩ prog_5_method_12_code 2 (some .int) : Cond) ∈ TB := tb_of (List.mem_of_getElem? (i := 466) rfl) rfl
theorem mb_467 : (.methodLink "PeriodWordsModel" 77 ⟨"PeriodWordsModel", "late", "(II)I"⟩ : Cond) ∈ TB := tb_of (List.mem_of_getElem? (i := 467) (by decide +kernel)) (by decide +kernel)
theorem mb_469 : (.instanceMethod ⟨"PeriodWordsModel", "late", "(II)I"⟩ : Cond) ∈ TB := tb_of (List.mem_of_getElem? (i := 469) (by decide +kernel)) (by decide +kernel)
set_option maxRecDepth 20000 in
theorem mb_470 : (.code ⟨"PeriodWordsModel", "late", "(II)I"⟩ prog_5_method_17_code 4 (some .int) : Cond) ∈ TB := tb_of (List.mem_of_getElem? (i := 470) rfl) rfl
theorem mb_471 : (.methodLink "PeriodWordsModel" 80 ⟨"PeriodWordsModel", "halved", "(I)I"⟩ : Cond) ∈ TB := tb_of (List.mem_of_getElem? (i := 471) (by decide +kernel)) (by decide +kernel)
theorem mb_473 : (.instanceMethod ⟨"PeriodWordsModel", "halved", "(I)I"⟩ : Cond) ∈ TB := tb_of (List.mem_of_getElem? (i := 473) (by decide +kernel)) (by decide +kernel)
set_option maxRecDepth 20000 in
theorem mb_474 : (.code ⟨"PeriodWordsModel", "halved", "(I)I"⟩ prog_5_method_18_code 4 (some .int) : Cond) ∈ TB := tb_of (List.mem_of_getElem? (i := 474) rfl) rfl
theorem mb_475 : (.methodLink "PeriodWordsModel" 83 ⟨"PeriodWordsModel", "joined", "(III)I"⟩ : Cond) ∈ TB := tb_of (List.mem_of_getElem? (i := 475) (by decide +kernel)) (by decide +kernel)
theorem mb_477 : (.instanceMethod ⟨"PeriodWordsModel", "joined", "(III)I"⟩ : Cond) ∈ TB := tb_of (List.mem_of_getElem? (i := 477) (by decide +kernel)) (by decide +kernel)
set_option maxRecDepth 20000 in
theorem mb_478 : (.code ⟨"PeriodWordsModel", "joined", "(III)I"⟩ prog_5_method_13_code 7 (some .int) : Cond) ∈ TB := tb_of (List.mem_of_getElem? (i := 478) rfl) rfl
theorem mb_479 : (.methodLink "PeriodWordsLaw" 48 ⟨"PeriodWordsModel", "form", "(II)I"⟩ : Cond) ∈ TB := tb_of (List.mem_of_getElem? (i := 479) (by decide +kernel)) (by decide +kernel)
theorem mb_480 : (.instanceMethod ⟨"PeriodWordsModel", "form", "(II)I"⟩ : Cond) ∈ TB := tb_of (List.mem_of_getElem? (i := 480) (by decide +kernel)) (by decide +kernel)
theorem mb_481 : (.selects "PeriodWordsModel" ⟨"PeriodWordsModel", "form", "(II)I"⟩ ⟨"PeriodWordsModel", "form", "(II)I"⟩ : Cond) ∈ TB := tb_of (List.mem_of_getElem? (i := 481) (by decide +kernel)) (by decide +kernel)
set_option maxRecDepth 20000 in
theorem mb_482 : (.code ⟨"PeriodWordsModel", "form", "(II)I"⟩ prog_5_method_21_code 5 (some .int) : Cond) ∈ TB := tb_of (List.mem_of_getElem? (i := 482) rfl) rfl
theorem mb_483 : (.methodLink "PeriodWordsModel" 87 ⟨"PeriodWordsModel", "divisor", "(II)I"⟩ : Cond) ∈ TB := tb_of (List.mem_of_getElem? (i := 483) (by decide +kernel)) (by decide +kernel)
theorem mb_484 : (.static ⟨"PeriodWordsModel", "divisor", "(II)I"⟩ : Cond) ∈ TB := tb_of (List.mem_of_getElem? (i := 484) (by decide +kernel)) (by decide +kernel)
set_option maxRecDepth 20000 in
theorem mb_485 : (.code ⟨"PeriodWordsModel", "divisor", "(II)I"⟩ prog_5_method_20_code 5 (some .int) : Cond) ∈ TB := tb_of (List.mem_of_getElem? (i := 485) rfl) rfl
theorem mb_486 : (.methodLink "PeriodWordsLaw" 52 ⟨"PeriodWordsModel", "bit", "(II)I"⟩ : Cond) ∈ TB := tb_of (List.mem_of_getElem? (i := 486) (by decide +kernel)) (by decide +kernel)
theorem mb_487 : (.instanceMethod ⟨"PeriodWordsModel", "bit", "(II)I"⟩ : Cond) ∈ TB := tb_of (List.mem_of_getElem? (i := 487) (by decide +kernel)) (by decide +kernel)
theorem mb_488 : (.selects "PeriodWordsModel" ⟨"PeriodWordsModel", "bit", "(II)I"⟩ ⟨"PeriodWordsModel", "bit", "(II)I"⟩ : Cond) ∈ TB := tb_of (List.mem_of_getElem? (i := 488) (by decide +kernel)) (by decide +kernel)
set_option maxRecDepth 20000 in
theorem mb_489 : (.code ⟨"PeriodWordsModel", "bit", "(II)I"⟩ prog_5_method_22_code 3 (some .int) : Cond) ∈ TB := tb_of (List.mem_of_getElem? (i := 489) rfl) rfl
theorem mb_490 : (.constant "PeriodWordsModel" 90 1000000000 : Cond) ∈ TB := tb_of (List.mem_of_getElem? (i := 490) (by decide +kernel)) (by decide +kernel)
theorem mb_491 : (.methodLink "PeriodWordsLaw" 56 ⟨"PeriodWordsModel", "ones", "(II)I"⟩ : Cond) ∈ TB := tb_of (List.mem_of_getElem? (i := 491) (by decide +kernel)) (by decide +kernel)
theorem mb_492 : (.instanceMethod ⟨"PeriodWordsModel", "ones", "(II)I"⟩ : Cond) ∈ TB := tb_of (List.mem_of_getElem? (i := 492) (by decide +kernel)) (by decide +kernel)
theorem mb_493 : (.selects "PeriodWordsModel" ⟨"PeriodWordsModel", "ones", "(II)I"⟩ ⟨"PeriodWordsModel", "ones", "(II)I"⟩ : Cond) ∈ TB := tb_of (List.mem_of_getElem? (i := 493) (by decide +kernel)) (by decide +kernel)
set_option maxRecDepth 20000 in
theorem mb_494 : (.code ⟨"PeriodWordsModel", "ones", "(II)I"⟩ prog_5_method_24_code 3 (some .int) : Cond) ∈ TB := tb_of (List.mem_of_getElem? (i := 494) rfl) rfl
theorem mb_495 : (.methodLink "PeriodWordsModel" 91 ⟨"PeriodWordsModel", "onesAhead", "(II)I"⟩ : Cond) ∈ TB := tb_of (List.mem_of_getElem? (i := 495) (by decide +kernel)) (by decide +kernel)
theorem mb_497 : (.instanceMethod ⟨"PeriodWordsModel", "onesAhead", "(II)I"⟩ : Cond) ∈ TB := tb_of (List.mem_of_getElem? (i := 497) (by decide +kernel)) (by decide +kernel)
set_option maxRecDepth 20000 in
theorem mb_498 : (.code ⟨"PeriodWordsModel", "onesAhead", "(II)I"⟩ prog_5_method_23_code 4 (some .int) : Cond) ∈ TB := tb_of (List.mem_of_getElem? (i := 498) rfl) rfl
theorem mb_499 : (.methodLink "PeriodWordsLaw" 60 ⟨"PeriodWordsModel", "at", "(II)I"⟩ : Cond) ∈ TB := tb_of (List.mem_of_getElem? (i := 499) (by decide +kernel)) (by decide +kernel)
theorem mb_500 : (.instanceMethod ⟨"PeriodWordsModel", "at", "(II)I"⟩ : Cond) ∈ TB := tb_of (List.mem_of_getElem? (i := 500) (by decide +kernel)) (by decide +kernel)
theorem mb_501 : (.selects "PeriodWordsModel" ⟨"PeriodWordsModel", "at", "(II)I"⟩ ⟨"PeriodWordsModel", "at", "(II)I"⟩ : Cond) ∈ TB := tb_of (List.mem_of_getElem? (i := 501) (by decide +kernel)) (by decide +kernel)
set_option maxRecDepth 20000 in
theorem mb_502 : (.code ⟨"PeriodWordsModel", "at", "(II)I"⟩ prog_5_method_26_code 4 (some .int) : Cond) ∈ TB := tb_of (List.mem_of_getElem? (i := 502) rfl) rfl
theorem mb_503 : (.constant "PeriodWordsModel" 94 1000000 : Cond) ∈ TB := tb_of (List.mem_of_getElem? (i := 503) (by decide +kernel)) (by decide +kernel)
theorem mb_504 : (.methodLink "PeriodWordsModel" 95 ⟨"PeriodWordsModel", "place", "(II)I"⟩ : Cond) ∈ TB := tb_of (List.mem_of_getElem? (i := 504) (by decide +kernel)) (by decide +kernel)
theorem mb_506 : (.instanceMethod ⟨"PeriodWordsModel", "place", "(II)I"⟩ : Cond) ∈ TB := tb_of (List.mem_of_getElem? (i := 506) (by decide +kernel)) (by decide +kernel)
set_option maxRecDepth 20000 in
theorem mb_507 : (.code ⟨"PeriodWordsModel", "place", "(II)I"⟩ prog_5_method_25_code 8 (some .int) : Cond) ∈ TB := tb_of (List.mem_of_getElem? (i := 507) rfl) rfl
theorem mb_508 : (.methodLink "PeriodWordsLaw" 65 ⟨"PeriodWordsModel", "same", "(I)I"⟩ : Cond) ∈ TB := tb_of (List.mem_of_getElem? (i := 508) (by decide +kernel)) (by decide +kernel)
theorem mb_509 : (.instanceMethod ⟨"PeriodWordsModel", "same", "(I)I"⟩ : Cond) ∈ TB := tb_of (List.mem_of_getElem? (i := 509) (by decide +kernel)) (by decide +kernel)
theorem mb_510 : (.selects "PeriodWordsModel" ⟨"PeriodWordsModel", "same", "(I)I"⟩ ⟨"PeriodWordsModel", "same", "(I)I"⟩ : Cond) ∈ TB := tb_of (List.mem_of_getElem? (i := 510) (by decide +kernel)) (by decide +kernel)
set_option maxRecDepth 20000 in
theorem mb_511 : (.code ⟨"PeriodWordsModel", "same", "(I)I"⟩ prog_5_method_27_code 3 (some .int) : Cond) ∈ TB := tb_of (List.mem_of_getElem? (i := 511) rfl) rfl
theorem mb_512 : (.methodLink "PeriodWordsLaw" 70 ⟨"PeriodWordsModel", "ahead", "(II)Z"⟩ : Cond) ∈ TB := tb_of (List.mem_of_getElem? (i := 512) (by decide +kernel)) (by decide +kernel)
theorem mb_513 : (.instanceMethod ⟨"PeriodWordsModel", "ahead", "(II)Z"⟩ : Cond) ∈ TB := tb_of (List.mem_of_getElem? (i := 513) (by decide +kernel)) (by decide +kernel)
theorem mb_514 : (.selects "PeriodWordsModel" ⟨"PeriodWordsModel", "ahead", "(II)Z"⟩ ⟨"PeriodWordsModel", "ahead", "(II)Z"⟩ : Cond) ∈ TB := tb_of (List.mem_of_getElem? (i := 514) (by decide +kernel)) (by decide +kernel)
set_option maxRecDepth 20000 in
theorem mb_515 : (.code ⟨"PeriodWordsModel", "ahead", "(II)Z"⟩ prog_5_method_31_code 3 (some .boolean) : Cond) ∈ TB := tb_of (List.mem_of_getElem? (i := 515) rfl) rfl
theorem mb_516 : (.methodLink "PeriodWordsModel" 107 ⟨"PeriodWordsModel", "rates", "(II)I"⟩ : Cond) ∈ TB := tb_of (List.mem_of_getElem? (i := 516) (by decide +kernel)) (by decide +kernel)
theorem mb_518 : (.instanceMethod ⟨"PeriodWordsModel", "rates", "(II)I"⟩ : Cond) ∈ TB := tb_of (List.mem_of_getElem? (i := 518) (by decide +kernel)) (by decide +kernel)
set_option maxRecDepth 20000 in
theorem mb_519 : (.code ⟨"PeriodWordsModel", "rates", "(II)I"⟩ prog_5_method_28_code 3 (some .int) : Cond) ∈ TB := tb_of (List.mem_of_getElem? (i := 519) rfl) rfl
theorem mb_520 : (.methodLink "PeriodWordsModel" 110 ⟨"PeriodWordsModel", "keep", "(II)V"⟩ : Cond) ∈ TB := tb_of (List.mem_of_getElem? (i := 520) (by decide +kernel)) (by decide +kernel)
theorem mb_522 : (.instanceMethod ⟨"PeriodWordsModel", "keep", "(II)V"⟩ : Cond) ∈ TB := tb_of (List.mem_of_getElem? (i := 522) (by decide +kernel)) (by decide +kernel)
set_option maxRecDepth 20000 in
theorem mb_523 : (.code ⟨"PeriodWordsModel", "keep", "(II)V"⟩ prog_5_method_30_code 5 none : Cond) ∈ TB := tb_of (List.mem_of_getElem? (i := 523) rfl) rfl
theorem mb_524 : (.methodLink "PeriodWordsModel" 104 ⟨"PeriodWordsModel", "till", "(II)I"⟩ : Cond) ∈ TB := tb_of (List.mem_of_getElem? (i := 524) (by decide +kernel)) (by decide +kernel)
theorem mb_526 : (.instanceMethod ⟨"PeriodWordsModel", "till", "(II)I"⟩ : Cond) ∈ TB := tb_of (List.mem_of_getElem? (i := 526) (by decide +kernel)) (by decide +kernel)
set_option maxRecDepth 20000 in
theorem mb_527 : (.code ⟨"PeriodWordsModel", "till", "(II)I"⟩ prog_5_method_29_code 3 (some .int) : Cond) ∈ TB := tb_of (List.mem_of_getElem? (i := 527) rfl) rfl
theorem mb_528 : (.methodLink "PeriodWordsLaw" 73 ⟨"PeriodWordsModel", "between", "(III)I"⟩ : Cond) ∈ TB := tb_of (List.mem_of_getElem? (i := 528) (by decide +kernel)) (by decide +kernel)
theorem mb_529 : (.instanceMethod ⟨"PeriodWordsModel", "between", "(III)I"⟩ : Cond) ∈ TB := tb_of (List.mem_of_getElem? (i := 529) (by decide +kernel)) (by decide +kernel)
theorem mb_530 : (.selects "PeriodWordsModel" ⟨"PeriodWordsModel", "between", "(III)I"⟩ ⟨"PeriodWordsModel", "between", "(III)I"⟩ : Cond) ∈ TB := tb_of (List.mem_of_getElem? (i := 530) (by decide +kernel)) (by decide +kernel)
set_option maxRecDepth 20000 in
theorem mb_531 : (.code ⟨"PeriodWordsModel", "between", "(III)I"⟩ prog_5_method_33_code 5 (some .int) : Cond) ∈ TB := tb_of (List.mem_of_getElem? (i := 531) rfl) rfl
theorem mb_532 : (.methodLink "PeriodWordsModel" 114 ⟨"PeriodWordsModel", "waiting", "(II)I"⟩ : Cond) ∈ TB := tb_of (List.mem_of_getElem? (i := 532) (by decide +kernel)) (by decide +kernel)
theorem mb_534 : (.instanceMethod ⟨"PeriodWordsModel", "waiting", "(II)I"⟩ : Cond) ∈ TB := tb_of (List.mem_of_getElem? (i := 534) (by decide +kernel)) (by decide +kernel)
set_option maxRecDepth 20000 in
theorem mb_535 : (.code ⟨"PeriodWordsModel", "waiting", "(II)I"⟩ prog_5_method_32_code 8 (some .int) : Cond) ∈ TB := tb_of (List.mem_of_getElem? (i := 535) rfl) rfl
theorem mb_536 : (.methodLink "PeriodWordsLaw" 77 ⟨"PeriodWordsModel", "clear", "()V"⟩ : Cond) ∈ TB := tb_of (List.mem_of_getElem? (i := 536) (by decide +kernel)) (by decide +kernel)
theorem mb_537 : (.instanceMethod ⟨"PeriodWordsModel", "clear", "()V"⟩ : Cond) ∈ TB := tb_of (List.mem_of_getElem? (i := 537) (by decide +kernel)) (by decide +kernel)
theorem mb_538 : (.selects "PeriodWordsModel" ⟨"PeriodWordsModel", "clear", "()V"⟩ ⟨"PeriodWordsModel", "clear", "()V"⟩ : Cond) ∈ TB := tb_of (List.mem_of_getElem? (i := 538) (by decide +kernel)) (by decide +kernel)
set_option maxRecDepth 20000 in
theorem mb_539 : (.code ⟨"PeriodWordsModel", "clear", "()V"⟩ prog_5_method_34_code 1 none : Cond) ∈ TB := tb_of (List.mem_of_getElem? (i := 539) rfl) rfl
theorem mb_540 : (.methodLink "PeriodWordsLaw" 81 ⟨"PeriodWordsModel", "total", "()I"⟩ : Cond) ∈ TB := tb_of (List.mem_of_getElem? (i := 540) (by decide +kernel)) (by decide +kernel)
theorem mb_541 : (.instanceMethod ⟨"PeriodWordsModel", "total", "()I"⟩ : Cond) ∈ TB := tb_of (List.mem_of_getElem? (i := 541) (by decide +kernel)) (by decide +kernel)
theorem mb_542 : (.selects "PeriodWordsModel" ⟨"PeriodWordsModel", "total", "()I"⟩ ⟨"PeriodWordsModel", "total", "()I"⟩ : Cond) ∈ TB := tb_of (List.mem_of_getElem? (i := 542) (by decide +kernel)) (by decide +kernel)
set_option maxRecDepth 20000 in
theorem mb_543 : (.code ⟨"PeriodWordsModel", "total", "()I"⟩ prog_5_method_35_code 1 (some .int) : Cond) ∈ TB := tb_of (List.mem_of_getElem? (i := 543) rfl) rfl
theorem in_D : ∀ w ∈ u_ws R_D F_D 6, w ∈ TB := by
  show ∀ w ∈ [u_lay R_D F_D 0, u_lay R_D F_D 1, u_lay R_D F_D 2, u_lay R_D F_D 3, u_lay R_D F_D 4, u_lay R_D F_D 5], w ∈ TB
  exact List.forall_mem_cons.mpr ⟨tb_of (List.mem_of_getElem? (i := 125) (by decide +kernel)) (by decide +kernel), List.forall_mem_cons.mpr ⟨tb_of (List.mem_of_getElem? (i := 127) (by decide +kernel)) (by decide +kernel), List.forall_mem_cons.mpr ⟨tb_of (List.mem_of_getElem? (i := 129) (by decide +kernel)) (by decide +kernel), List.forall_mem_cons.mpr ⟨tb_of (List.mem_of_getElem? (i := 131) (by decide +kernel)) (by decide +kernel), List.forall_mem_cons.mpr ⟨tb_of (List.mem_of_getElem? (i := 133) (by decide +kernel)) (by decide +kernel), List.forall_mem_cons.mpr ⟨tb_of (List.mem_of_getElem? (i := 135) (by decide +kernel)) (by decide +kernel), fun _ h => absurd h List.not_mem_nil⟩⟩⟩⟩⟩⟩
theorem in_W : ∀ w ∈ u_ws R_W F_W 7, w ∈ TB := by
  show ∀ w ∈ [u_lay R_W F_W 0, u_lay R_W F_W 1, u_lay R_W F_W 2, u_lay R_W F_W 3, u_lay R_W F_W 4, u_lay R_W F_W 5, u_lay R_W F_W 6], w ∈ TB
  exact List.forall_mem_cons.mpr ⟨tb_of (List.mem_of_getElem? (i := 89) (by decide +kernel)) (by decide +kernel), List.forall_mem_cons.mpr ⟨tb_of (List.mem_of_getElem? (i := 91) (by decide +kernel)) (by decide +kernel), List.forall_mem_cons.mpr ⟨tb_of (List.mem_of_getElem? (i := 93) (by decide +kernel)) (by decide +kernel), List.forall_mem_cons.mpr ⟨tb_of (List.mem_of_getElem? (i := 95) (by decide +kernel)) (by decide +kernel), List.forall_mem_cons.mpr ⟨tb_of (List.mem_of_getElem? (i := 97) (by decide +kernel)) (by decide +kernel), List.forall_mem_cons.mpr ⟨tb_of (List.mem_of_getElem? (i := 99) (by decide +kernel)) (by decide +kernel), List.forall_mem_cons.mpr ⟨tb_of (List.mem_of_getElem? (i := 101) (by decide +kernel)) (by decide +kernel), fun _ h => absurd h List.not_mem_nil⟩⟩⟩⟩⟩⟩⟩
theorem in_P : ∀ w ∈ u_ws R_P F_P 2, w ∈ TB := by
  show ∀ w ∈ [u_lay R_P F_P 0, u_lay R_P F_P 1], w ∈ TB
  exact List.forall_mem_cons.mpr ⟨tb_of (List.mem_of_getElem? (i := 47) (by decide +kernel)) (by decide +kernel), List.forall_mem_cons.mpr ⟨tb_of (List.mem_of_getElem? (i := 49) (by decide +kernel)) (by decide +kernel), fun _ h => absurd h List.not_mem_nil⟩⟩
theorem in_M : ∀ w ∈ u_ws R_M F_M 9, w ∈ TB := by
  show ∀ w ∈ [u_lay R_M F_M 0, u_lay R_M F_M 1, u_lay R_M F_M 2, u_lay R_M F_M 3, u_lay R_M F_M 4, u_lay R_M F_M 5, u_lay R_M F_M 6, u_lay R_M F_M 7, u_lay R_M F_M 8], w ∈ TB
  exact List.forall_mem_cons.mpr ⟨tb_of (List.mem_of_getElem? (i := 389) (by decide +kernel)) (by decide +kernel), List.forall_mem_cons.mpr ⟨tb_of (List.mem_of_getElem? (i := 391) (by decide +kernel)) (by decide +kernel), List.forall_mem_cons.mpr ⟨tb_of (List.mem_of_getElem? (i := 393) (by decide +kernel)) (by decide +kernel), List.forall_mem_cons.mpr ⟨tb_of (List.mem_of_getElem? (i := 395) (by decide +kernel)) (by decide +kernel), List.forall_mem_cons.mpr ⟨tb_of (List.mem_of_getElem? (i := 397) (by decide +kernel)) (by decide +kernel), List.forall_mem_cons.mpr ⟨tb_of (List.mem_of_getElem? (i := 399) (by decide +kernel)) (by decide +kernel), List.forall_mem_cons.mpr ⟨tb_of (List.mem_of_getElem? (i := 401) (by decide +kernel)) (by decide +kernel), List.forall_mem_cons.mpr ⟨tb_of (List.mem_of_getElem? (i := 403) (by decide +kernel)) (by decide +kernel), List.forall_mem_cons.mpr ⟨tb_of (List.mem_of_getElem? (i := 405) (by decide +kernel)) (by decide +kernel), fun _ h => absurd h List.not_mem_nil⟩⟩⟩⟩⟩⟩⟩⟩⟩
end
section
theorem d_W_init_0 : decode b_W_init 0 = .ok (.aload_n 0, 1) := by decide +kernel
theorem d_W_init_1 : decode b_W_init 1 = .ok (.invokespecial 3, 3) := by decide +kernel
theorem d_W_init_4 : decode b_W_init 4 = .ok (.aload_n 0, 1) := by decide +kernel
theorem d_W_init_5 : decode b_W_init 5 = .ok (.iload_n 1, 1) := by decide +kernel
theorem d_W_init_6 : decode b_W_init 6 = .ok (.putfield 9, 3) := by decide +kernel
theorem d_W_init_9 : decode b_W_init 9 = .ok (.aload_n 0, 1) := by decide +kernel
theorem d_W_init_10 : decode b_W_init 10 = .ok (.lload_n 2, 1) := by decide +kernel
theorem d_W_init_11 : decode b_W_init 11 = .ok (.iload_n 1, 1) := by decide +kernel
theorem d_W_init_12 : decode b_W_init 12 = .ok (.invokestatic 15, 3) := by decide +kernel
theorem d_W_init_15 : decode b_W_init 15 = .ok (.land, 1) := by decide +kernel
theorem d_W_init_16 : decode b_W_init 16 = .ok (.putfield 19, 3) := by decide +kernel
theorem d_W_init_19 : decode b_W_init 19 = .ok (.aload_n 0, 1) := by decide +kernel
theorem d_W_init_20 : decode b_W_init 20 = .ok (.iconst 1, 1) := by decide +kernel
theorem d_W_init_21 : decode b_W_init 21 = .ok (.iload 4, 2) := by decide +kernel
theorem d_W_init_23 : decode b_W_init 23 = .ok (.invokestatic 23, 3) := by decide +kernel
theorem d_W_init_26 : decode b_W_init 26 = .ok (.putfield 29, 3) := by decide +kernel
theorem d_W_init_29 : decode b_W_init 29 = .ok (.aload_n 0, 1) := by decide +kernel
theorem d_W_init_30 : decode b_W_init 30 = .ok (.lload 5, 2) := by decide +kernel
theorem d_W_init_32 : decode b_W_init 32 = .ok (.aload_n 0, 1) := by decide +kernel
theorem d_W_init_33 : decode b_W_init 33 = .ok (.getfield 29, 3) := by decide +kernel
theorem d_W_init_36 : decode b_W_init 36 = .ok (.invokestatic 15, 3) := by decide +kernel
theorem d_W_init_39 : decode b_W_init 39 = .ok (.land, 1) := by decide +kernel
theorem d_W_init_40 : decode b_W_init 40 = .ok (.putfield 32, 3) := by decide +kernel
theorem d_W_init_43 : decode b_W_init 43 = .ok (.aload_n 0, 1) := by decide +kernel
theorem d_W_init_44 : decode b_W_init 44 = .ok (.aload_n 0, 1) := by decide +kernel
theorem d_W_init_45 : decode b_W_init 45 = .ok (.getfield 19, 3) := by decide +kernel
theorem d_W_init_48 : decode b_W_init 48 = .ok (.invokestatic 35, 3) := by decide +kernel
theorem d_W_init_51 : decode b_W_init 51 = .ok (.putfield 41, 3) := by decide +kernel
theorem d_W_init_54 : decode b_W_init 54 = .ok (.aload_n 0, 1) := by decide +kernel
theorem d_W_init_55 : decode b_W_init 55 = .ok (.aload_n 0, 1) := by decide +kernel
theorem d_W_init_56 : decode b_W_init 56 = .ok (.getfield 32, 3) := by decide +kernel
theorem d_W_init_59 : decode b_W_init 59 = .ok (.invokestatic 35, 3) := by decide +kernel
theorem d_W_init_62 : decode b_W_init 62 = .ok (.putfield 44, 3) := by decide +kernel
theorem d_W_init_65 : decode b_W_init 65 = .ok (.aload_n 0, 1) := by decide +kernel
theorem d_W_init_66 : decode b_W_init 66 = .ok (.aload_n 0, 1) := by decide +kernel
theorem d_W_init_67 : decode b_W_init 67 = .ok (.getfield 41, 3) := by decide +kernel
theorem d_W_init_70 : decode b_W_init 70 = .ok (.aload_n 0, 1) := by decide +kernel
theorem d_W_init_71 : decode b_W_init 71 = .ok (.getfield 44, 3) := by decide +kernel
theorem d_W_init_74 : decode b_W_init 74 = .ok (.iadd, 1) := by decide +kernel
theorem d_W_init_75 : decode b_W_init 75 = .ok (.newarray .int, 2) := by decide +kernel
theorem d_W_init_77 : decode b_W_init 77 = .ok (.putfield 47, 3) := by decide +kernel
theorem d_W_init_80 : decode b_W_init 80 = .ok (.aload_n 0, 1) := by decide +kernel
theorem d_W_init_81 : decode b_W_init 81 = .ok (.getfield 47, 3) := by decide +kernel
theorem d_W_init_84 : decode b_W_init 84 = .ok (.iconst 0, 1) := by decide +kernel
theorem d_W_init_85 : decode b_W_init 85 = .ok (.aload_n 0, 1) := by decide +kernel
theorem d_W_init_86 : decode b_W_init 86 = .ok (.getfield 19, 3) := by decide +kernel
theorem d_W_init_89 : decode b_W_init 89 = .ok (.invokestatic 51, 3) := by decide +kernel
theorem d_W_init_92 : decode b_W_init 92 = .ok (.aload_n 0, 1) := by decide +kernel
theorem d_W_init_93 : decode b_W_init 93 = .ok (.getfield 47, 3) := by decide +kernel
theorem d_W_init_96 : decode b_W_init 96 = .ok (.aload_n 0, 1) := by decide +kernel
theorem d_W_init_97 : decode b_W_init 97 = .ok (.getfield 41, 3) := by decide +kernel
theorem d_W_init_100 : decode b_W_init 100 = .ok (.aload_n 0, 1) := by decide +kernel
theorem d_W_init_101 : decode b_W_init 101 = .ok (.getfield 32, 3) := by decide +kernel
theorem d_W_init_104 : decode b_W_init 104 = .ok (.invokestatic 51, 3) := by decide +kernel
theorem d_W_init_107 : decode b_W_init 107 = .ok (.return_, 1) := by decide +kernel
theorem d_W_lowest_0 : decode b_W_lowest 0 = .ok (.lconst 1, 1) := by decide +kernel
theorem d_W_lowest_1 : decode b_W_lowest 1 = .ok (.iload_n 0, 1) := by decide +kernel
theorem d_W_lowest_2 : decode b_W_lowest 2 = .ok (.lshl, 1) := by decide +kernel
theorem d_W_lowest_3 : decode b_W_lowest 3 = .ok (.lconst 1, 1) := by decide +kernel
theorem d_W_lowest_4 : decode b_W_lowest 4 = .ok (.lsub, 1) := by decide +kernel
theorem d_W_lowest_5 : decode b_W_lowest 5 = .ok (.lreturn, 1) := by decide +kernel
theorem d_W_writePlaces_0 : decode b_W_writePlaces 0 = .ok (.iload_n 1, 1) := by decide +kernel
theorem d_W_writePlaces_1 : decode b_W_writePlaces 1 = .ok (.istore 4, 2) := by decide +kernel
theorem d_W_writePlaces_3 : decode b_W_writePlaces 3 = .ok (.iconst 0, 1) := by decide +kernel
theorem d_W_writePlaces_4 : decode b_W_writePlaces 4 = .ok (.istore 5, 2) := by decide +kernel
theorem d_W_writePlaces_6 : decode b_W_writePlaces 6 = .ok (.iload 5, 2) := by decide +kernel
theorem d_W_writePlaces_8 : decode b_W_writePlaces 8 = .ok (.bipush 60, 2) := by decide +kernel
theorem d_W_writePlaces_10 : decode b_W_writePlaces 10 = .ok (.if_icmp .ge 36, 3) := by decide +kernel
theorem d_W_writePlaces_13 : decode b_W_writePlaces 13 = .ok (.lload_n 2, 1) := by decide +kernel
theorem d_W_writePlaces_14 : decode b_W_writePlaces 14 = .ok (.iload 5, 2) := by decide +kernel
theorem d_W_writePlaces_16 : decode b_W_writePlaces 16 = .ok (.lushr, 1) := by decide +kernel
theorem d_W_writePlaces_17 : decode b_W_writePlaces 17 = .ok (.lconst 1, 1) := by decide +kernel
theorem d_W_writePlaces_18 : decode b_W_writePlaces 18 = .ok (.land, 1) := by decide +kernel
theorem d_W_writePlaces_19 : decode b_W_writePlaces 19 = .ok (.lconst 1, 1) := by decide +kernel
theorem d_W_writePlaces_20 : decode b_W_writePlaces 20 = .ok (.lcmp, 1) := by decide +kernel
theorem d_W_writePlaces_21 : decode b_W_writePlaces 21 = .ok (.ifCond .ne 19, 3) := by decide +kernel
theorem d_W_writePlaces_24 : decode b_W_writePlaces 24 = .ok (.iload 4, 2) := by decide +kernel
theorem d_W_writePlaces_26 : decode b_W_writePlaces 26 = .ok (.aload_n 0, 1) := by decide +kernel
theorem d_W_writePlaces_27 : decode b_W_writePlaces 27 = .ok (.arraylength, 1) := by decide +kernel
theorem d_W_writePlaces_28 : decode b_W_writePlaces 28 = .ok (.if_icmp .ge 12, 3) := by decide +kernel
theorem d_W_writePlaces_31 : decode b_W_writePlaces 31 = .ok (.aload_n 0, 1) := by decide +kernel
theorem d_W_writePlaces_32 : decode b_W_writePlaces 32 = .ok (.iload 4, 2) := by decide +kernel
theorem d_W_writePlaces_34 : decode b_W_writePlaces 34 = .ok (.iload 5, 2) := by decide +kernel
theorem d_W_writePlaces_36 : decode b_W_writePlaces 36 = .ok (.iastore, 1) := by decide +kernel
theorem d_W_writePlaces_37 : decode b_W_writePlaces 37 = .ok (.iinc 4 1, 3) := by decide +kernel
theorem d_W_writePlaces_40 : decode b_W_writePlaces 40 = .ok (.iinc 5 1, 3) := by decide +kernel
theorem d_W_writePlaces_43 : decode b_W_writePlaces 43 = .ok (.goto (-37), 3) := by decide +kernel
theorem d_W_writePlaces_46 : decode b_W_writePlaces 46 = .ok (.return_, 1) := by decide +kernel
theorem d_W_bitAt_0 : decode b_W_bitAt 0 = .ok (.iload_n 1, 1) := by decide +kernel
theorem d_W_bitAt_1 : decode b_W_bitAt 1 = .ok (.aload_n 0, 1) := by decide +kernel
theorem d_W_bitAt_2 : decode b_W_bitAt 2 = .ok (.getfield 9, 3) := by decide +kernel
theorem d_W_bitAt_5 : decode b_W_bitAt 5 = .ok (.if_icmp .ge 13, 3) := by decide +kernel
theorem d_W_bitAt_8 : decode b_W_bitAt 8 = .ok (.aload_n 0, 1) := by decide +kernel
theorem d_W_bitAt_9 : decode b_W_bitAt 9 = .ok (.getfield 19, 3) := by decide +kernel
theorem d_W_bitAt_12 : decode b_W_bitAt 12 = .ok (.iload_n 1, 1) := by decide +kernel
theorem d_W_bitAt_13 : decode b_W_bitAt 13 = .ok (.lushr, 1) := by decide +kernel
theorem d_W_bitAt_14 : decode b_W_bitAt 14 = .ok (.l2i, 1) := by decide +kernel
theorem d_W_bitAt_15 : decode b_W_bitAt 15 = .ok (.iconst 1, 1) := by decide +kernel
theorem d_W_bitAt_16 : decode b_W_bitAt 16 = .ok (.iand, 1) := by decide +kernel
theorem d_W_bitAt_17 : decode b_W_bitAt 17 = .ok (.ireturn, 1) := by decide +kernel
theorem d_W_bitAt_18 : decode b_W_bitAt 18 = .ok (.aload_n 0, 1) := by decide +kernel
theorem d_W_bitAt_19 : decode b_W_bitAt 19 = .ok (.getfield 32, 3) := by decide +kernel
theorem d_W_bitAt_22 : decode b_W_bitAt 22 = .ok (.iload_n 1, 1) := by decide +kernel
theorem d_W_bitAt_23 : decode b_W_bitAt 23 = .ok (.aload_n 0, 1) := by decide +kernel
theorem d_W_bitAt_24 : decode b_W_bitAt 24 = .ok (.getfield 9, 3) := by decide +kernel
theorem d_W_bitAt_27 : decode b_W_bitAt 27 = .ok (.isub, 1) := by decide +kernel
theorem d_W_bitAt_28 : decode b_W_bitAt 28 = .ok (.aload_n 0, 1) := by decide +kernel
theorem d_W_bitAt_29 : decode b_W_bitAt 29 = .ok (.getfield 29, 3) := by decide +kernel
theorem d_W_bitAt_32 : decode b_W_bitAt 32 = .ok (.irem, 1) := by decide +kernel
theorem d_W_bitAt_33 : decode b_W_bitAt 33 = .ok (.lushr, 1) := by decide +kernel
theorem d_W_bitAt_34 : decode b_W_bitAt 34 = .ok (.l2i, 1) := by decide +kernel
theorem d_W_bitAt_35 : decode b_W_bitAt 35 = .ok (.iconst 1, 1) := by decide +kernel
theorem d_W_bitAt_36 : decode b_W_bitAt 36 = .ok (.iand, 1) := by decide +kernel
theorem d_W_bitAt_37 : decode b_W_bitAt 37 = .ok (.ireturn, 1) := by decide +kernel
theorem d_W_onesBefore_0 : decode b_W_onesBefore 0 = .ok (.iload_n 1, 1) := by decide +kernel
theorem d_W_onesBefore_1 : decode b_W_onesBefore 1 = .ok (.aload_n 0, 1) := by decide +kernel
theorem d_W_onesBefore_2 : decode b_W_onesBefore 2 = .ok (.getfield 9, 3) := by decide +kernel
theorem d_W_onesBefore_5 : decode b_W_onesBefore 5 = .ok (.if_icmp .gt 16, 3) := by decide +kernel
theorem d_W_onesBefore_8 : decode b_W_onesBefore 8 = .ok (.aload_n 0, 1) := by decide +kernel
theorem d_W_onesBefore_9 : decode b_W_onesBefore 9 = .ok (.getfield 19, 3) := by decide +kernel
theorem d_W_onesBefore_12 : decode b_W_onesBefore 12 = .ok (.iload_n 1, 1) := by decide +kernel
theorem d_W_onesBefore_13 : decode b_W_onesBefore 13 = .ok (.invokestatic 15, 3) := by decide +kernel
theorem d_W_onesBefore_16 : decode b_W_onesBefore 16 = .ok (.land, 1) := by decide +kernel
theorem d_W_onesBefore_17 : decode b_W_onesBefore 17 = .ok (.invokestatic 35, 3) := by decide +kernel
theorem d_W_onesBefore_20 : decode b_W_onesBefore 20 = .ok (.ireturn, 1) := by decide +kernel
theorem d_W_onesBefore_21 : decode b_W_onesBefore 21 = .ok (.iload_n 1, 1) := by decide +kernel
theorem d_W_onesBefore_22 : decode b_W_onesBefore 22 = .ok (.aload_n 0, 1) := by decide +kernel
theorem d_W_onesBefore_23 : decode b_W_onesBefore 23 = .ok (.getfield 9, 3) := by decide +kernel
theorem d_W_onesBefore_26 : decode b_W_onesBefore 26 = .ok (.isub, 1) := by decide +kernel
theorem d_W_onesBefore_27 : decode b_W_onesBefore 27 = .ok (.istore_n 2, 1) := by decide +kernel
theorem d_W_onesBefore_28 : decode b_W_onesBefore 28 = .ok (.aload_n 0, 1) := by decide +kernel
theorem d_W_onesBefore_29 : decode b_W_onesBefore 29 = .ok (.getfield 32, 3) := by decide +kernel
theorem d_W_onesBefore_32 : decode b_W_onesBefore 32 = .ok (.iload_n 2, 1) := by decide +kernel
theorem d_W_onesBefore_33 : decode b_W_onesBefore 33 = .ok (.aload_n 0, 1) := by decide +kernel
theorem d_W_onesBefore_34 : decode b_W_onesBefore 34 = .ok (.getfield 29, 3) := by decide +kernel
theorem d_W_onesBefore_37 : decode b_W_onesBefore 37 = .ok (.irem, 1) := by decide +kernel
theorem d_W_onesBefore_38 : decode b_W_onesBefore 38 = .ok (.invokestatic 15, 3) := by decide +kernel
theorem d_W_onesBefore_41 : decode b_W_onesBefore 41 = .ok (.land, 1) := by decide +kernel
theorem d_W_onesBefore_42 : decode b_W_onesBefore 42 = .ok (.invokestatic 35, 3) := by decide +kernel
theorem d_W_onesBefore_45 : decode b_W_onesBefore 45 = .ok (.istore_n 3, 1) := by decide +kernel
theorem d_W_onesBefore_46 : decode b_W_onesBefore 46 = .ok (.aload_n 0, 1) := by decide +kernel
theorem d_W_onesBefore_47 : decode b_W_onesBefore 47 = .ok (.getfield 41, 3) := by decide +kernel
theorem d_W_onesBefore_50 : decode b_W_onesBefore 50 = .ok (.iload_n 2, 1) := by decide +kernel
theorem d_W_onesBefore_51 : decode b_W_onesBefore 51 = .ok (.aload_n 0, 1) := by decide +kernel
theorem d_W_onesBefore_52 : decode b_W_onesBefore 52 = .ok (.getfield 29, 3) := by decide +kernel
theorem d_W_onesBefore_55 : decode b_W_onesBefore 55 = .ok (.idiv, 1) := by decide +kernel
theorem d_W_onesBefore_56 : decode b_W_onesBefore 56 = .ok (.aload_n 0, 1) := by decide +kernel
theorem d_W_onesBefore_57 : decode b_W_onesBefore 57 = .ok (.getfield 44, 3) := by decide +kernel
theorem d_W_onesBefore_60 : decode b_W_onesBefore 60 = .ok (.imul, 1) := by decide +kernel
theorem d_W_onesBefore_61 : decode b_W_onesBefore 61 = .ok (.iadd, 1) := by decide +kernel
theorem d_W_onesBefore_62 : decode b_W_onesBefore 62 = .ok (.iload_n 3, 1) := by decide +kernel
theorem d_W_onesBefore_63 : decode b_W_onesBefore 63 = .ok (.iadd, 1) := by decide +kernel
theorem d_W_onesBefore_64 : decode b_W_onesBefore 64 = .ok (.ireturn, 1) := by decide +kernel
theorem d_W_hasOne_0 : decode b_W_hasOne 0 = .ok (.aload_n 0, 1) := by decide +kernel
theorem d_W_hasOne_1 : decode b_W_hasOne 1 = .ok (.getfield 44, 3) := by decide +kernel
theorem d_W_hasOne_4 : decode b_W_hasOne 4 = .ok (.ifCond .gt 11, 3) := by decide +kernel
theorem d_W_hasOne_7 : decode b_W_hasOne 7 = .ok (.iload_n 1, 1) := by decide +kernel
theorem d_W_hasOne_8 : decode b_W_hasOne 8 = .ok (.aload_n 0, 1) := by decide +kernel
theorem d_W_hasOne_9 : decode b_W_hasOne 9 = .ok (.getfield 41, 3) := by decide +kernel
theorem d_W_hasOne_12 : decode b_W_hasOne 12 = .ok (.if_icmp .gt 7, 3) := by decide +kernel
theorem d_W_hasOne_15 : decode b_W_hasOne 15 = .ok (.iconst 1, 1) := by decide +kernel
theorem d_W_hasOne_16 : decode b_W_hasOne 16 = .ok (.goto 4, 3) := by decide +kernel
theorem d_W_hasOne_19 : decode b_W_hasOne 19 = .ok (.iconst 0, 1) := by decide +kernel
theorem d_W_hasOne_20 : decode b_W_hasOne 20 = .ok (.ireturn, 1) := by decide +kernel
theorem d_W_tickOf_0 : decode b_W_tickOf 0 = .ok (.iload_n 1, 1) := by decide +kernel
theorem d_W_tickOf_1 : decode b_W_tickOf 1 = .ok (.iconst 1, 1) := by decide +kernel
theorem d_W_tickOf_2 : decode b_W_tickOf 2 = .ok (.if_icmp .lt 11, 3) := by decide +kernel
theorem d_W_tickOf_5 : decode b_W_tickOf 5 = .ok (.aload_n 0, 1) := by decide +kernel
theorem d_W_tickOf_6 : decode b_W_tickOf 6 = .ok (.iload_n 1, 1) := by decide +kernel
theorem d_W_tickOf_7 : decode b_W_tickOf 7 = .ok (.invokevirtual 55, 3) := by decide +kernel
theorem d_W_tickOf_10 : decode b_W_tickOf 10 = .ok (.ifCond .ne 5, 3) := by decide +kernel
theorem d_W_tickOf_13 : decode b_W_tickOf 13 = .ok (.iconst (-1), 1) := by decide +kernel
theorem d_W_tickOf_14 : decode b_W_tickOf 14 = .ok (.ireturn, 1) := by decide +kernel
theorem d_W_tickOf_15 : decode b_W_tickOf 15 = .ok (.iload_n 1, 1) := by decide +kernel
theorem d_W_tickOf_16 : decode b_W_tickOf 16 = .ok (.aload_n 0, 1) := by decide +kernel
theorem d_W_tickOf_17 : decode b_W_tickOf 17 = .ok (.getfield 41, 3) := by decide +kernel
theorem d_W_tickOf_20 : decode b_W_tickOf 20 = .ok (.if_icmp .gt 12, 3) := by decide +kernel
theorem d_W_tickOf_23 : decode b_W_tickOf 23 = .ok (.aload_n 0, 1) := by decide +kernel
theorem d_W_tickOf_24 : decode b_W_tickOf 24 = .ok (.getfield 47, 3) := by decide +kernel
theorem d_W_tickOf_27 : decode b_W_tickOf 27 = .ok (.iload_n 1, 1) := by decide +kernel
theorem d_W_tickOf_28 : decode b_W_tickOf 28 = .ok (.iconst 1, 1) := by decide +kernel
theorem d_W_tickOf_29 : decode b_W_tickOf 29 = .ok (.isub, 1) := by decide +kernel
theorem d_W_tickOf_30 : decode b_W_tickOf 30 = .ok (.iaload, 1) := by decide +kernel
theorem d_W_tickOf_31 : decode b_W_tickOf 31 = .ok (.ireturn, 1) := by decide +kernel
theorem d_W_tickOf_32 : decode b_W_tickOf 32 = .ok (.iload_n 1, 1) := by decide +kernel
theorem d_W_tickOf_33 : decode b_W_tickOf 33 = .ok (.aload_n 0, 1) := by decide +kernel
theorem d_W_tickOf_34 : decode b_W_tickOf 34 = .ok (.getfield 41, 3) := by decide +kernel
theorem d_W_tickOf_37 : decode b_W_tickOf 37 = .ok (.isub, 1) := by decide +kernel
theorem d_W_tickOf_38 : decode b_W_tickOf 38 = .ok (.iconst 1, 1) := by decide +kernel
theorem d_W_tickOf_39 : decode b_W_tickOf 39 = .ok (.isub, 1) := by decide +kernel
theorem d_W_tickOf_40 : decode b_W_tickOf 40 = .ok (.istore_n 2, 1) := by decide +kernel
theorem d_W_tickOf_41 : decode b_W_tickOf 41 = .ok (.aload_n 0, 1) := by decide +kernel
theorem d_W_tickOf_42 : decode b_W_tickOf 42 = .ok (.getfield 9, 3) := by decide +kernel
theorem d_W_tickOf_45 : decode b_W_tickOf 45 = .ok (.iload_n 2, 1) := by decide +kernel
theorem d_W_tickOf_46 : decode b_W_tickOf 46 = .ok (.aload_n 0, 1) := by decide +kernel
theorem d_W_tickOf_47 : decode b_W_tickOf 47 = .ok (.getfield 44, 3) := by decide +kernel
theorem d_W_tickOf_50 : decode b_W_tickOf 50 = .ok (.idiv, 1) := by decide +kernel
theorem d_W_tickOf_51 : decode b_W_tickOf 51 = .ok (.aload_n 0, 1) := by decide +kernel
theorem d_W_tickOf_52 : decode b_W_tickOf 52 = .ok (.getfield 29, 3) := by decide +kernel
theorem d_W_tickOf_55 : decode b_W_tickOf 55 = .ok (.imul, 1) := by decide +kernel
theorem d_W_tickOf_56 : decode b_W_tickOf 56 = .ok (.iadd, 1) := by decide +kernel
theorem d_W_tickOf_57 : decode b_W_tickOf 57 = .ok (.aload_n 0, 1) := by decide +kernel
theorem d_W_tickOf_58 : decode b_W_tickOf 58 = .ok (.getfield 47, 3) := by decide +kernel
theorem d_W_tickOf_61 : decode b_W_tickOf 61 = .ok (.aload_n 0, 1) := by decide +kernel
theorem d_W_tickOf_62 : decode b_W_tickOf 62 = .ok (.getfield 41, 3) := by decide +kernel
theorem d_W_tickOf_65 : decode b_W_tickOf 65 = .ok (.iload_n 2, 1) := by decide +kernel
theorem d_W_tickOf_66 : decode b_W_tickOf 66 = .ok (.aload_n 0, 1) := by decide +kernel
theorem d_W_tickOf_67 : decode b_W_tickOf 67 = .ok (.getfield 44, 3) := by decide +kernel
theorem d_W_tickOf_70 : decode b_W_tickOf 70 = .ok (.irem, 1) := by decide +kernel
theorem d_W_tickOf_71 : decode b_W_tickOf 71 = .ok (.iadd, 1) := by decide +kernel
theorem d_W_tickOf_72 : decode b_W_tickOf 72 = .ok (.iaload, 1) := by decide +kernel
theorem d_W_tickOf_73 : decode b_W_tickOf 73 = .ok (.iadd, 1) := by decide +kernel
theorem d_W_tickOf_74 : decode b_W_tickOf 74 = .ok (.ireturn, 1) := by decide +kernel
theorem d_JI_compare_0 : decode b_JI_compare 0 = .ok (.iload_n 0, 1) := by decide +kernel
theorem d_JI_compare_1 : decode b_JI_compare 1 = .ok (.iload_n 1, 1) := by decide +kernel
theorem d_JI_compare_2 : decode b_JI_compare 2 = .ok (.if_icmp .ge 7, 3) := by decide +kernel
theorem d_JI_compare_5 : decode b_JI_compare 5 = .ok (.iconst (-1), 1) := by decide +kernel
theorem d_JI_compare_6 : decode b_JI_compare 6 = .ok (.goto 13, 3) := by decide +kernel
theorem d_JI_compare_9 : decode b_JI_compare 9 = .ok (.iload_n 0, 1) := by decide +kernel
theorem d_JI_compare_10 : decode b_JI_compare 10 = .ok (.iload_n 1, 1) := by decide +kernel
theorem d_JI_compare_11 : decode b_JI_compare 11 = .ok (.if_icmp .ne 7, 3) := by decide +kernel
theorem d_JI_compare_14 : decode b_JI_compare 14 = .ok (.iconst 0, 1) := by decide +kernel
theorem d_JI_compare_15 : decode b_JI_compare 15 = .ok (.goto 4, 3) := by decide +kernel
theorem d_JI_compare_18 : decode b_JI_compare 18 = .ok (.iconst 1, 1) := by decide +kernel
theorem d_JI_compare_19 : decode b_JI_compare 19 = .ok (.ireturn, 1) := by decide +kernel
theorem d_JL_bitCount_0 : decode b_JL_bitCount 0 = .ok (.lload_n 0, 1) := by decide +kernel
theorem d_JL_bitCount_1 : decode b_JL_bitCount 1 = .ok (.lload_n 0, 1) := by decide +kernel
theorem d_JL_bitCount_2 : decode b_JL_bitCount 2 = .ok (.iconst 1, 1) := by decide +kernel
theorem d_JL_bitCount_3 : decode b_JL_bitCount 3 = .ok (.lushr, 1) := by decide +kernel
theorem d_JL_bitCount_4 : decode b_JL_bitCount 4 = .ok (.ldc2_w 314, 3) := by decide +kernel
theorem d_JL_bitCount_7 : decode b_JL_bitCount 7 = .ok (.land, 1) := by decide +kernel
theorem d_JL_bitCount_8 : decode b_JL_bitCount 8 = .ok (.lsub, 1) := by decide +kernel
theorem d_JL_bitCount_9 : decode b_JL_bitCount 9 = .ok (.lstore_n 0, 1) := by decide +kernel
theorem d_JL_bitCount_10 : decode b_JL_bitCount 10 = .ok (.lload_n 0, 1) := by decide +kernel
theorem d_JL_bitCount_11 : decode b_JL_bitCount 11 = .ok (.ldc2_w 316, 3) := by decide +kernel
theorem d_JL_bitCount_14 : decode b_JL_bitCount 14 = .ok (.land, 1) := by decide +kernel
theorem d_JL_bitCount_15 : decode b_JL_bitCount 15 = .ok (.lload_n 0, 1) := by decide +kernel
theorem d_JL_bitCount_16 : decode b_JL_bitCount 16 = .ok (.iconst 2, 1) := by decide +kernel
theorem d_JL_bitCount_17 : decode b_JL_bitCount 17 = .ok (.lushr, 1) := by decide +kernel
theorem d_JL_bitCount_18 : decode b_JL_bitCount 18 = .ok (.ldc2_w 316, 3) := by decide +kernel
theorem d_JL_bitCount_21 : decode b_JL_bitCount 21 = .ok (.land, 1) := by decide +kernel
theorem d_JL_bitCount_22 : decode b_JL_bitCount 22 = .ok (.ladd, 1) := by decide +kernel
theorem d_JL_bitCount_23 : decode b_JL_bitCount 23 = .ok (.lstore_n 0, 1) := by decide +kernel
theorem d_JL_bitCount_24 : decode b_JL_bitCount 24 = .ok (.lload_n 0, 1) := by decide +kernel
theorem d_JL_bitCount_25 : decode b_JL_bitCount 25 = .ok (.lload_n 0, 1) := by decide +kernel
theorem d_JL_bitCount_26 : decode b_JL_bitCount 26 = .ok (.iconst 4, 1) := by decide +kernel
theorem d_JL_bitCount_27 : decode b_JL_bitCount 27 = .ok (.lushr, 1) := by decide +kernel
theorem d_JL_bitCount_28 : decode b_JL_bitCount 28 = .ok (.ladd, 1) := by decide +kernel
theorem d_JL_bitCount_29 : decode b_JL_bitCount 29 = .ok (.ldc2_w 318, 3) := by decide +kernel
theorem d_JL_bitCount_32 : decode b_JL_bitCount 32 = .ok (.land, 1) := by decide +kernel
theorem d_JL_bitCount_33 : decode b_JL_bitCount 33 = .ok (.lstore_n 0, 1) := by decide +kernel
theorem d_JL_bitCount_34 : decode b_JL_bitCount 34 = .ok (.lload_n 0, 1) := by decide +kernel
theorem d_JL_bitCount_35 : decode b_JL_bitCount 35 = .ok (.lload_n 0, 1) := by decide +kernel
theorem d_JL_bitCount_36 : decode b_JL_bitCount 36 = .ok (.bipush 8, 2) := by decide +kernel
theorem d_JL_bitCount_38 : decode b_JL_bitCount 38 = .ok (.lushr, 1) := by decide +kernel
theorem d_JL_bitCount_39 : decode b_JL_bitCount 39 = .ok (.ladd, 1) := by decide +kernel
theorem d_JL_bitCount_40 : decode b_JL_bitCount 40 = .ok (.lstore_n 0, 1) := by decide +kernel
theorem d_JL_bitCount_41 : decode b_JL_bitCount 41 = .ok (.lload_n 0, 1) := by decide +kernel
theorem d_JL_bitCount_42 : decode b_JL_bitCount 42 = .ok (.lload_n 0, 1) := by decide +kernel
theorem d_JL_bitCount_43 : decode b_JL_bitCount 43 = .ok (.bipush 16, 2) := by decide +kernel
theorem d_JL_bitCount_45 : decode b_JL_bitCount 45 = .ok (.lushr, 1) := by decide +kernel
theorem d_JL_bitCount_46 : decode b_JL_bitCount 46 = .ok (.ladd, 1) := by decide +kernel
theorem d_JL_bitCount_47 : decode b_JL_bitCount 47 = .ok (.lstore_n 0, 1) := by decide +kernel
theorem d_JL_bitCount_48 : decode b_JL_bitCount 48 = .ok (.lload_n 0, 1) := by decide +kernel
theorem d_JL_bitCount_49 : decode b_JL_bitCount 49 = .ok (.lload_n 0, 1) := by decide +kernel
theorem d_JL_bitCount_50 : decode b_JL_bitCount 50 = .ok (.bipush 32, 2) := by decide +kernel
theorem d_JL_bitCount_52 : decode b_JL_bitCount 52 = .ok (.lushr, 1) := by decide +kernel
theorem d_JL_bitCount_53 : decode b_JL_bitCount 53 = .ok (.ladd, 1) := by decide +kernel
theorem d_JL_bitCount_54 : decode b_JL_bitCount 54 = .ok (.lstore_n 0, 1) := by decide +kernel
theorem d_JL_bitCount_55 : decode b_JL_bitCount 55 = .ok (.lload_n 0, 1) := by decide +kernel
theorem d_JL_bitCount_56 : decode b_JL_bitCount 56 = .ok (.l2i, 1) := by decide +kernel
theorem d_JL_bitCount_57 : decode b_JL_bitCount 57 = .ok (.bipush 127, 2) := by decide +kernel
theorem d_JL_bitCount_59 : decode b_JL_bitCount 59 = .ok (.iand, 1) := by decide +kernel
theorem d_JL_bitCount_60 : decode b_JL_bitCount 60 = .ok (.ireturn, 1) := by decide +kernel
end
section
/-! what a contract's start is where nothing is written: cells and tables -/
def pw_R (av : List Value) (dC : Nat → ClassId) (dI : Nat → Nat → Nat) (tys : List (ClassId × FieldType)) (ws : va_W) : Array Value → State → Prop := va_Pc av (fun U => va_P (dC, dI) vwCl ws U.heap ∧ va_K (dC, dI) vwCl tys U)
theorem pw_R_blind {av : List Value} {dC : Nat → ClassId} {dI : Nat → Nat → Nat} {tys : List (ClassId × FieldType)} {ws : va_W} : FrameBlind (pw_R av dC dI tys ws) := fun a U g mk q => by
  obtain ⟨q0, qP, qK⟩ := q
  exact ⟨q0, qP, va_K.moved (u := U) (U := U.calling g mk a) (Vm.Alike.refl U.vm) qK⟩
theorem pw_R_S {dC : Nat → ClassId} {dI : Nat → Nat → Nat} {tys : List (ClassId × FieldType)} {ws : va_W} {s : State} {H : Heap} {As : List Value} (hP : va_P (dC, dI) vwCl ws H) (hK : va_K (dC, dI) vwCl tys s) : PreS s H (pw_R As dC dI tys ws) As :=
  ⟨pw_R_blind, fun U hU hW => ⟨rfl, by rw [hU]; exact hP, va_K.moved hW.alike hK⟩⟩
theorem pw_R_V {dC : Nat → ClassId} {dI : Nat → Nat → Nat} {tys : List (ClassId × FieldType)} {ws : va_W} {s : State} {H : Heap} {As : List Value} {b : Nat} {C : String} (hrec : ∃ cellB : Cell, H[b]? = some cellB ∧ cellB.vm.isStatics = false ∧ s.vm.findClass C = some cellB.cls) (hP : va_P (dC, dI) vwCl ws H) (hK : va_K (dC, dI) vwCl tys s) : PreV s H C b (pw_R (.ref b :: As) dC dI tys ws) As :=
  ⟨pw_R_blind, hrec, fun U hU hW => ⟨rfl, by rw [hU]; exact hP, va_K.moved hW.alike hK⟩⟩
theorem pw_P0 {dC : Nat → ClassId} {dI : Nat → Nat → Nat} {H : Heap} : va_P (dC, dI) vwCl [] H := fun k q h => by simp at h
/-! a word in the class: its cell, and the places of its 1s -/
def wd_ok (h pp : Nat) (f : Nat → Bool) : Prop := h ≤ 60 ∧ 0 < pp ∧ pp ≤ 60 ∧ pw_E f h pp
def wd_pl (h pp : Nat) (f : Nat → Bool) (pl : Nat → Int32) : Prop := (∀ j, j < pw_c f h → ∃ t, t < h ∧ pl j = nI t ∧ pw_N f (j + 1) t) ∧ ∀ j, j < pw_o f h pp → ∃ t, t < pp ∧ pl (pw_c f h + j) = nI t ∧ f (h + t) = true ∧ pw_c (fun i => f (h + i)) t = j
abbrev wd (a q : Nat) (cA : ClassId) (h pp : Nat) (f : Nat → Bool) (pl : Nat → Int32) : va_W := [(a, .inr (ciW, [.int (nI h), .long (lN (pw_b f 0 h)), .int (nI pp), .long (lN (pw_b f h pp)), .int (nI (pw_c f h)), .int (nI (pw_o f h pp)), .ref q])), (q, .inl (cA, pw_c f h + pw_o f h pp, .inl pl))]
theorem pw_at {f : Nat → Bool} {h p t : Nat} (E : pw_E f h p) (ht : h ≤ t) : f (h + (t - h) % p) = f t := by
  have e := Nat.mod_add_div (t - h) p
  rw [Nat.mul_comm] at e
  have a := pw_E_mul E ((t - h) / p) (h + (t - h) % p) (by omega)
  rw [← a]
  congr 1
  omega
theorem pw_nz (b : Bool) : narrow .boolean (.int (nI b.toNat)) = .int (nI b.toNat) := by cases b <;> decide
theorem pw_tk_le {f : Nat → Bool} {h p n : Nat} (E : pw_E f h p) (hp : 0 < p) (hn : 0 < n) (hex : 0 < pw_o f h p ∨ n ≤ pw_c f h) : pw_tk f n < h + n * p := by
  rcases Nat.eq_zero_or_pos (pw_o f h p) with z | z
  · obtain ⟨t, ht, N⟩ := pw_N_of (f := f) (T := h) hn (by omega)
    rw [pw_tk_of N]
    omega
  · have a := pw_c_per E hp n (Nat.le_refl h)
    have b : n ≤ n * pw_o f h p := Nat.le_mul_of_pos_right n z
    obtain ⟨t, ht, N⟩ := pw_N_of (f := f) (T := h + n * p) hn (by omega)
    rw [pw_tk_of N]
    exact ht
set_option maxHeartbeats 400000 in
theorem pq_kept (a b x y : Nat) : (nI a - nI b) + (nI x - nI y) = nI (a + x) - nI (b + y) := by
  rw [← nI_add, ← nI_add, Int32.sub_eq_add_neg, Int32.sub_eq_add_neg, Int32.sub_eq_add_neg, Int32.neg_add]
  rw [Int32.sub_eq_add_neg]
  ac_rfl
set_option maxHeartbeats 400000 in
theorem pq_maxs {m a b : Nat} (hm : m < 1073741824) (ha : a < 1073741824) (hb : b < 1073741824) : (if nI m < nI a - nI b then nI a - nI b else nI m) = nI (max m (a - b)) := by
  rcases Nat.lt_or_ge a b with h | h
  · have hn := pk_sneg hb h
    rw [if_neg, show a - b = 0 by omega, Nat.max_eq_left (Nat.zero_le m)]
    intro z
    have z0 := nI_pos' (n := m) (by omega)
    rw [Int32.lt_iff_toInt_lt] at z hn
    rw [Int32.le_iff_toInt_le] at z0
    omega
  · rw [pk_sub h, pq_max (by omega) (by omega)]
end
section
/-! what Long.bitCount's steps need -/
theorem pq_ushr {n k q : Nat} (hn : n < 2 ^ 64) (hk : k < 64) (hq : 2 ^ k = q) : ((lN n).toUInt64 >>> ((nI k).toInt64.toUInt64 &&& Int64.toUInt64 63)).toInt64 = lN (n / q) := by rw [← hq]; exact pq_lushr hn hk
theorem pw_bd {x : Nat} (hx : x < 2 ^ 64) : (x / 2 &&& pw_m5 8) ≤ x ∧ pw_y 8 x < 2 ^ 64 ∧ pw_z 8 (pw_y 8 x) < 2 ^ 64 ∧ pw_z 8 (pw_y 8 x) + pw_z 8 (pw_y 8 x) / 16 < 2 ^ 64 ∧ pw_q 8 x < 2 ^ 60 := by
  have h3 : pw_m3 8 = 3689348814741910323 := by decide +kernel
  have a1 : (x / 2 &&& pw_m5 8) ≤ x := Nat.le_trans Nat.and_le_left (Nat.div_le_self _ _)
  have a2 : pw_y 8 x ≤ x := Nat.sub_le _ _
  have a3 : pw_z 8 (pw_y 8 x) ≤ 3689348814741910323 + 3689348814741910323 := by
    unfold pw_z
    exact Nat.add_le_add (by rw [← h3]; exact Nat.and_le_right) (by rw [← h3]; exact Nat.and_le_right)
  have a4 := (pw_pop hx rfl).1
  refine ⟨a1, by omega, by omega, by omega, by omega⟩
theorem pw_mm : pw_m5 8 < 2 ^ 64 ∧ pw_m3 8 < 2 ^ 64 ∧ pw_mf 8 < 2 ^ 64 := by decide +kernel
theorem pq_127 (a : Nat) : nI a &&& nI 127 = nI (a % 128) := by rw [nx_and, show (127 : Nat) = 2 ^ 7 - 1 from rfl, Nat.and_two_pow_sub_one_eq_mod]
theorem pw_bt (b : Bool) : (b.toNat = 1 ∧ b = true) ∨ (b.toNat = 0 ∧ b = false) := by cases b <;> simp
end
section
theorem d_D_init_0 : decode b_D_init 0 = .ok (.aload_n 0, 1) := by decide +kernel
theorem d_D_init_1 : decode b_D_init 1 = .ok (.invokespecial 3, 3) := by decide +kernel
theorem d_D_init_4 : decode b_D_init 4 = .ok (.aload_n 0, 1) := by decide +kernel
theorem d_D_init_5 : decode b_D_init 5 = .ok (.iload_n 1, 1) := by decide +kernel
theorem d_D_init_6 : decode b_D_init 6 = .ok (.putfield 9, 3) := by decide +kernel
theorem d_D_init_9 : decode b_D_init 9 = .ok (.aload_n 0, 1) := by decide +kernel
theorem d_D_init_10 : decode b_D_init 10 = .ok (.aload_n 2, 1) := by decide +kernel
theorem d_D_init_11 : decode b_D_init 11 = .ok (.putfield 15, 3) := by decide +kernel
theorem d_D_init_14 : decode b_D_init 14 = .ok (.aload_n 0, 1) := by decide +kernel
theorem d_D_init_15 : decode b_D_init 15 = .ok (.aload_n 3, 1) := by decide +kernel
theorem d_D_init_16 : decode b_D_init 16 = .ok (.putfield 19, 3) := by decide +kernel
theorem d_D_init_19 : decode b_D_init 19 = .ok (.aload_n 0, 1) := by decide +kernel
theorem d_D_init_20 : decode b_D_init 20 = .ok (.iload 4, 2) := by decide +kernel
theorem d_D_init_22 : decode b_D_init 22 = .ok (.putfield 22, 3) := by decide +kernel
theorem d_D_init_25 : decode b_D_init 25 = .ok (.aload_n 0, 1) := by decide +kernel
theorem d_D_init_26 : decode b_D_init 26 = .ok (.iload 5, 2) := by decide +kernel
theorem d_D_init_28 : decode b_D_init 28 = .ok (.putfield 25, 3) := by decide +kernel
theorem d_D_init_31 : decode b_D_init 31 = .ok (.aload_n 0, 1) := by decide +kernel
theorem d_D_init_32 : decode b_D_init 32 = .ok (.iload 6, 2) := by decide +kernel
theorem d_D_init_34 : decode b_D_init 34 = .ok (.putfield 28, 3) := by decide +kernel
theorem d_D_init_37 : decode b_D_init 37 = .ok (.return_, 1) := by decide +kernel
theorem d_D_bitAt_0 : decode b_D_bitAt 0 = .ok (.aload_n 0, 1) := by decide +kernel
theorem d_D_bitAt_1 : decode b_D_bitAt 1 = .ok (.getfield 9, 3) := by decide +kernel
theorem d_D_bitAt_4 : decode b_D_bitAt 4 = .ok (.tableswitch 184 0 6 #[44, 62, 80, 98, 109, 140, 158], 44) := by decide +kernel
theorem d_D_bitAt_48 : decode b_D_bitAt 48 = .ok (.aload_n 0, 1) := by decide +kernel
theorem d_D_bitAt_49 : decode b_D_bitAt 49 = .ok (.getfield 15, 3) := by decide +kernel
theorem d_D_bitAt_52 : decode b_D_bitAt 52 = .ok (.iload_n 1, 1) := by decide +kernel
theorem d_D_bitAt_53 : decode b_D_bitAt 53 = .ok (.invokevirtual 31, 3) := by decide +kernel
theorem d_D_bitAt_56 : decode b_D_bitAt 56 = .ok (.aload_n 0, 1) := by decide +kernel
theorem d_D_bitAt_57 : decode b_D_bitAt 57 = .ok (.getfield 19, 3) := by decide +kernel
theorem d_D_bitAt_60 : decode b_D_bitAt 60 = .ok (.iload_n 1, 1) := by decide +kernel
theorem d_D_bitAt_61 : decode b_D_bitAt 61 = .ok (.invokevirtual 31, 3) := by decide +kernel
theorem d_D_bitAt_64 : decode b_D_bitAt 64 = .ok (.iand, 1) := by decide +kernel
theorem d_D_bitAt_65 : decode b_D_bitAt 65 = .ok (.ireturn, 1) := by decide +kernel
theorem d_D_bitAt_66 : decode b_D_bitAt 66 = .ok (.aload_n 0, 1) := by decide +kernel
theorem d_D_bitAt_67 : decode b_D_bitAt 67 = .ok (.getfield 15, 3) := by decide +kernel
theorem d_D_bitAt_70 : decode b_D_bitAt 70 = .ok (.iload_n 1, 1) := by decide +kernel
theorem d_D_bitAt_71 : decode b_D_bitAt 71 = .ok (.invokevirtual 31, 3) := by decide +kernel
theorem d_D_bitAt_74 : decode b_D_bitAt 74 = .ok (.aload_n 0, 1) := by decide +kernel
theorem d_D_bitAt_75 : decode b_D_bitAt 75 = .ok (.getfield 19, 3) := by decide +kernel
theorem d_D_bitAt_78 : decode b_D_bitAt 78 = .ok (.iload_n 1, 1) := by decide +kernel
theorem d_D_bitAt_79 : decode b_D_bitAt 79 = .ok (.invokevirtual 31, 3) := by decide +kernel
theorem d_D_bitAt_82 : decode b_D_bitAt 82 = .ok (.ior, 1) := by decide +kernel
theorem d_D_bitAt_83 : decode b_D_bitAt 83 = .ok (.ireturn, 1) := by decide +kernel
theorem d_D_bitAt_84 : decode b_D_bitAt 84 = .ok (.aload_n 0, 1) := by decide +kernel
theorem d_D_bitAt_85 : decode b_D_bitAt 85 = .ok (.getfield 15, 3) := by decide +kernel
theorem d_D_bitAt_88 : decode b_D_bitAt 88 = .ok (.iload_n 1, 1) := by decide +kernel
theorem d_D_bitAt_89 : decode b_D_bitAt 89 = .ok (.invokevirtual 31, 3) := by decide +kernel
theorem d_D_bitAt_92 : decode b_D_bitAt 92 = .ok (.aload_n 0, 1) := by decide +kernel
theorem d_D_bitAt_93 : decode b_D_bitAt 93 = .ok (.getfield 19, 3) := by decide +kernel
theorem d_D_bitAt_96 : decode b_D_bitAt 96 = .ok (.iload_n 1, 1) := by decide +kernel
theorem d_D_bitAt_97 : decode b_D_bitAt 97 = .ok (.invokevirtual 31, 3) := by decide +kernel
theorem d_D_bitAt_100 : decode b_D_bitAt 100 = .ok (.ixor, 1) := by decide +kernel
theorem d_D_bitAt_101 : decode b_D_bitAt 101 = .ok (.ireturn, 1) := by decide +kernel
theorem d_D_bitAt_102 : decode b_D_bitAt 102 = .ok (.iconst 1, 1) := by decide +kernel
theorem d_D_bitAt_103 : decode b_D_bitAt 103 = .ok (.aload_n 0, 1) := by decide +kernel
theorem d_D_bitAt_104 : decode b_D_bitAt 104 = .ok (.getfield 15, 3) := by decide +kernel
theorem d_D_bitAt_107 : decode b_D_bitAt 107 = .ok (.iload_n 1, 1) := by decide +kernel
theorem d_D_bitAt_108 : decode b_D_bitAt 108 = .ok (.invokevirtual 31, 3) := by decide +kernel
theorem d_D_bitAt_111 : decode b_D_bitAt 111 = .ok (.isub, 1) := by decide +kernel
theorem d_D_bitAt_112 : decode b_D_bitAt 112 = .ok (.ireturn, 1) := by decide +kernel
theorem d_D_bitAt_113 : decode b_D_bitAt 113 = .ok (.aload_n 0, 1) := by decide +kernel
theorem d_D_bitAt_114 : decode b_D_bitAt 114 = .ok (.getfield 15, 3) := by decide +kernel
theorem d_D_bitAt_117 : decode b_D_bitAt 117 = .ok (.iload_n 1, 1) := by decide +kernel
theorem d_D_bitAt_118 : decode b_D_bitAt 118 = .ok (.invokevirtual 31, 3) := by decide +kernel
theorem d_D_bitAt_121 : decode b_D_bitAt 121 = .ok (.ifCond .ne 7, 3) := by decide +kernel
theorem d_D_bitAt_124 : decode b_D_bitAt 124 = .ok (.iconst 0, 1) := by decide +kernel
theorem d_D_bitAt_125 : decode b_D_bitAt 125 = .ok (.goto 18, 3) := by decide +kernel
theorem d_D_bitAt_128 : decode b_D_bitAt 128 = .ok (.aload_n 0, 1) := by decide +kernel
theorem d_D_bitAt_129 : decode b_D_bitAt 129 = .ok (.getfield 19, 3) := by decide +kernel
theorem d_D_bitAt_132 : decode b_D_bitAt 132 = .ok (.aload_n 0, 1) := by decide +kernel
theorem d_D_bitAt_133 : decode b_D_bitAt 133 = .ok (.getfield 15, 3) := by decide +kernel
theorem d_D_bitAt_136 : decode b_D_bitAt 136 = .ok (.iload_n 1, 1) := by decide +kernel
theorem d_D_bitAt_137 : decode b_D_bitAt 137 = .ok (.invokevirtual 37, 3) := by decide +kernel
theorem d_D_bitAt_140 : decode b_D_bitAt 140 = .ok (.invokevirtual 31, 3) := by decide +kernel
theorem d_D_bitAt_143 : decode b_D_bitAt 143 = .ok (.ireturn, 1) := by decide +kernel
theorem d_D_bitAt_144 : decode b_D_bitAt 144 = .ok (.aload_n 0, 1) := by decide +kernel
theorem d_D_bitAt_145 : decode b_D_bitAt 145 = .ok (.getfield 15, 3) := by decide +kernel
theorem d_D_bitAt_148 : decode b_D_bitAt 148 = .ok (.aload_n 0, 1) := by decide +kernel
theorem d_D_bitAt_149 : decode b_D_bitAt 149 = .ok (.getfield 19, 3) := by decide +kernel
theorem d_D_bitAt_152 : decode b_D_bitAt 152 = .ok (.iload_n 1, 1) := by decide +kernel
theorem d_D_bitAt_153 : decode b_D_bitAt 153 = .ok (.iconst 1, 1) := by decide +kernel
theorem d_D_bitAt_154 : decode b_D_bitAt 154 = .ok (.iadd, 1) := by decide +kernel
theorem d_D_bitAt_155 : decode b_D_bitAt 155 = .ok (.invokevirtual 40, 3) := by decide +kernel
theorem d_D_bitAt_158 : decode b_D_bitAt 158 = .ok (.invokevirtual 31, 3) := by decide +kernel
theorem d_D_bitAt_161 : decode b_D_bitAt 161 = .ok (.ireturn, 1) := by decide +kernel
theorem d_D_bitAt_162 : decode b_D_bitAt 162 = .ok (.iload_n 1, 1) := by decide +kernel
theorem d_D_bitAt_163 : decode b_D_bitAt 163 = .ok (.aload_n 0, 1) := by decide +kernel
theorem d_D_bitAt_164 : decode b_D_bitAt 164 = .ok (.getfield 22, 3) := by decide +kernel
theorem d_D_bitAt_167 : decode b_D_bitAt 167 = .ok (.if_icmp .ge 7, 3) := by decide +kernel
theorem d_D_bitAt_170 : decode b_D_bitAt 170 = .ok (.iconst 0, 1) := by decide +kernel
theorem d_D_bitAt_171 : decode b_D_bitAt 171 = .ok (.goto 16, 3) := by decide +kernel
theorem d_D_bitAt_174 : decode b_D_bitAt 174 = .ok (.aload_n 0, 1) := by decide +kernel
theorem d_D_bitAt_175 : decode b_D_bitAt 175 = .ok (.getfield 15, 3) := by decide +kernel
theorem d_D_bitAt_178 : decode b_D_bitAt 178 = .ok (.iload_n 1, 1) := by decide +kernel
theorem d_D_bitAt_179 : decode b_D_bitAt 179 = .ok (.aload_n 0, 1) := by decide +kernel
theorem d_D_bitAt_180 : decode b_D_bitAt 180 = .ok (.getfield 22, 3) := by decide +kernel
theorem d_D_bitAt_183 : decode b_D_bitAt 183 = .ok (.isub, 1) := by decide +kernel
theorem d_D_bitAt_184 : decode b_D_bitAt 184 = .ok (.invokevirtual 31, 3) := by decide +kernel
theorem d_D_bitAt_187 : decode b_D_bitAt 187 = .ok (.ireturn, 1) := by decide +kernel
theorem d_D_bitAt_188 : decode b_D_bitAt 188 = .ok (.aload_n 0, 1) := by decide +kernel
theorem d_D_bitAt_189 : decode b_D_bitAt 189 = .ok (.getfield 15, 3) := by decide +kernel
theorem d_D_bitAt_192 : decode b_D_bitAt 192 = .ok (.iload_n 1, 1) := by decide +kernel
theorem d_D_bitAt_193 : decode b_D_bitAt 193 = .ok (.invokevirtual 31, 3) := by decide +kernel
theorem d_D_bitAt_196 : decode b_D_bitAt 196 = .ok (.aload_n 0, 1) := by decide +kernel
theorem d_D_bitAt_197 : decode b_D_bitAt 197 = .ok (.getfield 15, 3) := by decide +kernel
theorem d_D_bitAt_200 : decode b_D_bitAt 200 = .ok (.iload_n 1, 1) := by decide +kernel
theorem d_D_bitAt_201 : decode b_D_bitAt 201 = .ok (.invokevirtual 37, 3) := by decide +kernel
theorem d_D_bitAt_204 : decode b_D_bitAt 204 = .ok (.iconst (-1), 1) := by decide +kernel
theorem d_D_bitAt_205 : decode b_D_bitAt 205 = .ok (.ixor, 1) := by decide +kernel
theorem d_D_bitAt_206 : decode b_D_bitAt 206 = .ok (.iand, 1) := by decide +kernel
theorem d_D_bitAt_207 : decode b_D_bitAt 207 = .ok (.ireturn, 1) := by decide +kernel
theorem d_D_bits_0 : decode b_D_bits 0 = .ok (.lconst 0, 1) := by decide +kernel
theorem d_D_bits_1 : decode b_D_bits 1 = .ok (.lstore_n 3, 1) := by decide +kernel
theorem d_D_bits_2 : decode b_D_bits 2 = .ok (.iconst 0, 1) := by decide +kernel
theorem d_D_bits_3 : decode b_D_bits 3 = .ok (.istore 5, 2) := by decide +kernel
theorem d_D_bits_5 : decode b_D_bits 5 = .ok (.iload 5, 2) := by decide +kernel
theorem d_D_bits_7 : decode b_D_bits 7 = .ok (.iload_n 2, 1) := by decide +kernel
theorem d_D_bits_8 : decode b_D_bits 8 = .ok (.if_icmp .ge 24, 3) := by decide +kernel
theorem d_D_bits_11 : decode b_D_bits 11 = .ok (.lload_n 3, 1) := by decide +kernel
theorem d_D_bits_12 : decode b_D_bits 12 = .ok (.aload_n 0, 1) := by decide +kernel
theorem d_D_bits_13 : decode b_D_bits 13 = .ok (.iload_n 1, 1) := by decide +kernel
theorem d_D_bits_14 : decode b_D_bits 14 = .ok (.iload 5, 2) := by decide +kernel
theorem d_D_bits_16 : decode b_D_bits 16 = .ok (.iadd, 1) := by decide +kernel
theorem d_D_bits_17 : decode b_D_bits 17 = .ok (.invokevirtual 43, 3) := by decide +kernel
theorem d_D_bits_20 : decode b_D_bits 20 = .ok (.i2l, 1) := by decide +kernel
theorem d_D_bits_21 : decode b_D_bits 21 = .ok (.iload 5, 2) := by decide +kernel
theorem d_D_bits_23 : decode b_D_bits 23 = .ok (.lshl, 1) := by decide +kernel
theorem d_D_bits_24 : decode b_D_bits 24 = .ok (.lor, 1) := by decide +kernel
theorem d_D_bits_25 : decode b_D_bits 25 = .ok (.lstore_n 3, 1) := by decide +kernel
theorem d_D_bits_26 : decode b_D_bits 26 = .ok (.iinc 5 1, 3) := by decide +kernel
theorem d_D_bits_29 : decode b_D_bits 29 = .ok (.goto (-24), 3) := by decide +kernel
theorem d_D_bits_32 : decode b_D_bits 32 = .ok (.lload_n 3, 1) := by decide +kernel
theorem d_D_bits_33 : decode b_D_bits 33 = .ok (.lreturn, 1) := by decide +kernel
end
section
theorem d_P_init_0 : decode b_P_init 0 = .ok (.aload_n 0, 1) := by decide +kernel
theorem d_P_init_1 : decode b_P_init 1 = .ok (.invokespecial 1, 3) := by decide +kernel
theorem d_P_init_4 : decode b_P_init 4 = .ok (.aload_n 0, 1) := by decide +kernel
theorem d_P_init_5 : decode b_P_init 5 = .ok (.bipush 40, 2) := by decide +kernel
theorem d_P_init_7 : decode b_P_init 7 = .ok (.anewarray 9, 3) := by decide +kernel
theorem d_P_init_10 : decode b_P_init 10 = .ok (.putfield 11, 3) := by decide +kernel
theorem d_P_init_13 : decode b_P_init 13 = .ok (.aload_n 0, 1) := by decide +kernel
theorem d_P_init_14 : decode b_P_init 14 = .ok (.iconst 0, 1) := by decide +kernel
theorem d_P_init_15 : decode b_P_init 15 = .ok (.putfield 15, 3) := by decide +kernel
theorem d_P_init_18 : decode b_P_init 18 = .ok (.return_, 1) := by decide +kernel
theorem d_P_word_0 : decode b_P_word 0 = .ok (.iload_n 1, 1) := by decide +kernel
theorem d_P_word_1 : decode b_P_word 1 = .ok (.ifCond .lt 20, 3) := by decide +kernel
theorem d_P_word_4 : decode b_P_word 4 = .ok (.iload_n 1, 1) := by decide +kernel
theorem d_P_word_5 : decode b_P_word 5 = .ok (.bipush 30, 2) := by decide +kernel
theorem d_P_word_7 : decode b_P_word 7 = .ok (.if_icmp .gt 14, 3) := by decide +kernel
theorem d_P_word_10 : decode b_P_word 10 = .ok (.iload_n 3, 1) := by decide +kernel
theorem d_P_word_11 : decode b_P_word 11 = .ok (.iconst 1, 1) := by decide +kernel
theorem d_P_word_12 : decode b_P_word 12 = .ok (.if_icmp .lt 9, 3) := by decide +kernel
theorem d_P_word_15 : decode b_P_word 15 = .ok (.iload_n 3, 1) := by decide +kernel
theorem d_P_word_16 : decode b_P_word 16 = .ok (.bipush 30, 2) := by decide +kernel
theorem d_P_word_18 : decode b_P_word 18 = .ok (.if_icmp .le 5, 3) := by decide +kernel
theorem d_P_word_21 : decode b_P_word 21 = .ok (.iconst (-1), 1) := by decide +kernel
theorem d_P_word_22 : decode b_P_word 22 = .ok (.ireturn, 1) := by decide +kernel
theorem d_P_word_23 : decode b_P_word 23 = .ok (.aload_n 0, 1) := by decide +kernel
theorem d_P_word_24 : decode b_P_word 24 = .ok (.getfield 15, 3) := by decide +kernel
theorem d_P_word_27 : decode b_P_word 27 = .ok (.bipush 40, 2) := by decide +kernel
theorem d_P_word_29 : decode b_P_word 29 = .ok (.if_icmp .lt 5, 3) := by decide +kernel
theorem d_P_word_32 : decode b_P_word 32 = .ok (.iconst (-1), 1) := by decide +kernel
theorem d_P_word_33 : decode b_P_word 33 = .ok (.ireturn, 1) := by decide +kernel
theorem d_P_word_34 : decode b_P_word 34 = .ok (.new 9, 3) := by decide +kernel
theorem d_P_word_37 : decode b_P_word 37 = .ok (.dup, 1) := by decide +kernel
theorem d_P_word_38 : decode b_P_word 38 = .ok (.iload_n 1, 1) := by decide +kernel
theorem d_P_word_39 : decode b_P_word 39 = .ok (.iload_n 2, 1) := by decide +kernel
theorem d_P_word_40 : decode b_P_word 40 = .ok (.i2l, 1) := by decide +kernel
theorem d_P_word_41 : decode b_P_word 41 = .ok (.iload_n 3, 1) := by decide +kernel
theorem d_P_word_42 : decode b_P_word 42 = .ok (.iload 4, 2) := by decide +kernel
theorem d_P_word_44 : decode b_P_word 44 = .ok (.i2l, 1) := by decide +kernel
theorem d_P_word_45 : decode b_P_word 45 = .ok (.invokespecial 19, 3) := by decide +kernel
theorem d_P_word_48 : decode b_P_word 48 = .ok (.astore 5, 2) := by decide +kernel
theorem d_P_word_50 : decode b_P_word 50 = .ok (.aload_n 0, 1) := by decide +kernel
theorem d_P_word_51 : decode b_P_word 51 = .ok (.bipush 6, 2) := by decide +kernel
theorem d_P_word_53 : decode b_P_word 53 = .ok (.aload 5, 2) := by decide +kernel
theorem d_P_word_55 : decode b_P_word 55 = .ok (.aload 5, 2) := by decide +kernel
theorem d_P_word_57 : decode b_P_word 57 = .ok (.iconst 0, 1) := by decide +kernel
theorem d_P_word_58 : decode b_P_word 58 = .ok (.invokestatic 22, 3) := by decide +kernel
theorem d_P_word_61 : decode b_P_word 61 = .ok (.invokestatic 26, 3) := by decide +kernel
theorem d_P_word_64 : decode b_P_word 64 = .ok (.invokevirtual 30, 3) := by decide +kernel
theorem d_P_word_67 : decode b_P_word 67 = .ok (.ireturn, 1) := by decide +kernel
theorem d_P_make_0 : decode b_P_make 0 = .ok (.iload_n 1, 1) := by decide +kernel
theorem d_P_make_1 : decode b_P_make 1 = .ok (.ifCond .lt 18, 3) := by decide +kernel
theorem d_P_make_4 : decode b_P_make 4 = .ok (.iload_n 1, 1) := by decide +kernel
theorem d_P_make_5 : decode b_P_make 5 = .ok (.bipush 7, 2) := by decide +kernel
theorem d_P_make_7 : decode b_P_make 7 = .ok (.if_icmp .gt 12, 3) := by decide +kernel
theorem d_P_make_10 : decode b_P_make 10 = .ok (.aload_n 0, 1) := by decide +kernel
theorem d_P_make_11 : decode b_P_make 11 = .ok (.getfield 15, 3) := by decide +kernel
theorem d_P_make_14 : decode b_P_make 14 = .ok (.bipush 40, 2) := by decide +kernel
theorem d_P_make_16 : decode b_P_make 16 = .ok (.if_icmp .lt 5, 3) := by decide +kernel
theorem d_P_make_19 : decode b_P_make 19 = .ok (.iconst (-1), 1) := by decide +kernel
theorem d_P_make_20 : decode b_P_make 20 = .ok (.ireturn, 1) := by decide +kernel
theorem d_P_make_21 : decode b_P_make 21 = .ok (.aload_n 0, 1) := by decide +kernel
theorem d_P_make_22 : decode b_P_make 22 = .ok (.iload_n 2, 1) := by decide +kernel
theorem d_P_make_23 : decode b_P_make 23 = .ok (.invokevirtual 34, 3) := by decide +kernel
theorem d_P_make_26 : decode b_P_make 26 = .ok (.astore 4, 2) := by decide +kernel
theorem d_P_make_28 : decode b_P_make 28 = .ok (.iload_n 1, 1) := by decide +kernel
theorem d_P_make_29 : decode b_P_make 29 = .ok (.invokestatic 38, 3) := by decide +kernel
theorem d_P_make_32 : decode b_P_make 32 = .ok (.ifCond .eq 11, 3) := by decide +kernel
theorem d_P_make_35 : decode b_P_make 35 = .ok (.aload_n 0, 1) := by decide +kernel
theorem d_P_make_36 : decode b_P_make 36 = .ok (.iload_n 3, 1) := by decide +kernel
theorem d_P_make_37 : decode b_P_make 37 = .ok (.invokevirtual 34, 3) := by decide +kernel
theorem d_P_make_40 : decode b_P_make 40 = .ok (.goto 5, 3) := by decide +kernel
theorem d_P_make_43 : decode b_P_make 43 = .ok (.aload 4, 2) := by decide +kernel
theorem d_P_make_45 : decode b_P_make 45 = .ok (.astore 5, 2) := by decide +kernel
theorem d_P_make_47 : decode b_P_make 47 = .ok (.aload 4, 2) := by decide +kernel
theorem d_P_make_49 : decode b_P_make 49 = .ok (.ifnull 8, 3) := by decide +kernel
theorem d_P_make_52 : decode b_P_make 52 = .ok (.aload 5, 2) := by decide +kernel
theorem d_P_make_54 : decode b_P_make 54 = .ok (.ifnonnull 5, 3) := by decide +kernel
theorem d_P_make_57 : decode b_P_make 57 = .ok (.iconst (-1), 1) := by decide +kernel
theorem d_P_make_58 : decode b_P_make 58 = .ok (.ireturn, 1) := by decide +kernel
theorem d_P_make_59 : decode b_P_make 59 = .ok (.iload_n 1, 1) := by decide +kernel
theorem d_P_make_60 : decode b_P_make 60 = .ok (.bipush 6, 2) := by decide +kernel
theorem d_P_make_62 : decode b_P_make 62 = .ok (.if_icmp .ne 15, 3) := by decide +kernel
theorem d_P_make_65 : decode b_P_make 65 = .ok (.iload_n 3, 1) := by decide +kernel
theorem d_P_make_66 : decode b_P_make 66 = .ok (.ifCond .lt 9, 3) := by decide +kernel
theorem d_P_make_69 : decode b_P_make 69 = .ok (.iload_n 3, 1) := by decide +kernel
theorem d_P_make_70 : decode b_P_make 70 = .ok (.bipush 30, 2) := by decide +kernel
theorem d_P_make_72 : decode b_P_make 72 = .ok (.if_icmp .le 5, 3) := by decide +kernel
theorem d_P_make_75 : decode b_P_make 75 = .ok (.iconst (-1), 1) := by decide +kernel
theorem d_P_make_76 : decode b_P_make 76 = .ok (.ireturn, 1) := by decide +kernel
theorem d_P_make_77 : decode b_P_make 77 = .ok (.iload_n 1, 1) := by decide +kernel
theorem d_P_make_78 : decode b_P_make 78 = .ok (.iconst 5, 1) := by decide +kernel
theorem d_P_make_79 : decode b_P_make 79 = .ok (.if_icmp .ne 21, 3) := by decide +kernel
theorem d_P_make_82 : decode b_P_make 82 = .ok (.aload 5, 2) := by decide +kernel
theorem d_P_make_84 : decode b_P_make 84 = .ok (.getfield 42, 3) := by decide +kernel
theorem d_P_make_87 : decode b_P_make 87 = .ok (.ifCond .ne 13, 3) := by decide +kernel
theorem d_P_make_90 : decode b_P_make 90 = .ok (.new 45, 3) := by decide +kernel
theorem d_P_make_93 : decode b_P_make 93 = .ok (.dup, 1) := by decide +kernel
theorem d_P_make_94 : decode b_P_make 94 = .ok (.ldc 47, 2) := by decide +kernel
theorem d_P_make_96 : decode b_P_make 96 = .ok (.invokespecial 49, 3) := by decide +kernel
theorem d_P_make_99 : decode b_P_make 99 = .ok (.athrow, 1) := by decide +kernel
theorem d_P_make_100 : decode b_P_make 100 = .ok (.aload_n 0, 1) := by decide +kernel
theorem d_P_make_101 : decode b_P_make 101 = .ok (.iload_n 1, 1) := by decide +kernel
theorem d_P_make_102 : decode b_P_make 102 = .ok (.aload 4, 2) := by decide +kernel
theorem d_P_make_104 : decode b_P_make 104 = .ok (.aload 5, 2) := by decide +kernel
theorem d_P_make_106 : decode b_P_make 106 = .ok (.iload_n 3, 1) := by decide +kernel
theorem d_P_make_107 : decode b_P_make 107 = .ok (.invokestatic 22, 3) := by decide +kernel
theorem d_P_make_110 : decode b_P_make 110 = .ok (.invokestatic 26, 3) := by decide +kernel
theorem d_P_make_113 : decode b_P_make 113 = .ok (.invokevirtual 30, 3) := by decide +kernel
theorem d_P_make_116 : decode b_P_make 116 = .ok (.ireturn, 1) := by decide +kernel
theorem d_P_form_0 : decode b_P_form 0 = .ok (.aload_n 0, 1) := by decide +kernel
theorem d_P_form_1 : decode b_P_form 1 = .ok (.iload_n 1, 1) := by decide +kernel
theorem d_P_form_2 : decode b_P_form 2 = .ok (.invokevirtual 34, 3) := by decide +kernel
theorem d_P_form_5 : decode b_P_form 5 = .ok (.astore_n 3, 1) := by decide +kernel
theorem d_P_form_6 : decode b_P_form 6 = .ok (.aload_n 3, 1) := by decide +kernel
theorem d_P_form_7 : decode b_P_form 7 = .ok (.ifnonnull 5, 3) := by decide +kernel
theorem d_P_form_10 : decode b_P_form 10 = .ok (.iconst (-1), 1) := by decide +kernel
theorem d_P_form_11 : decode b_P_form 11 = .ok (.ireturn, 1) := by decide +kernel
theorem d_P_form_12 : decode b_P_form 12 = .ok (.iload_n 2, 1) := by decide +kernel
theorem d_P_form_13 : decode b_P_form 13 = .ok (.tableswitch 84 0 4 #[35, 40, 45, 62, 79], 35) := by decide +kernel
theorem d_P_form_48 : decode b_P_form 48 = .ok (.aload_n 3, 1) := by decide +kernel
theorem d_P_form_49 : decode b_P_form 49 = .ok (.getfield 52, 3) := by decide +kernel
theorem d_P_form_52 : decode b_P_form 52 = .ok (.ireturn, 1) := by decide +kernel
theorem d_P_form_53 : decode b_P_form 53 = .ok (.aload_n 3, 1) := by decide +kernel
theorem d_P_form_54 : decode b_P_form 54 = .ok (.getfield 55, 3) := by decide +kernel
theorem d_P_form_57 : decode b_P_form 57 = .ok (.ireturn, 1) := by decide +kernel
theorem d_P_form_58 : decode b_P_form 58 = .ok (.aload_n 3, 1) := by decide +kernel
theorem d_P_form_59 : decode b_P_form 59 = .ok (.getfield 42, 3) := by decide +kernel
theorem d_P_form_62 : decode b_P_form 62 = .ok (.aload_n 3, 1) := by decide +kernel
theorem d_P_form_63 : decode b_P_form 63 = .ok (.getfield 42, 3) := by decide +kernel
theorem d_P_form_66 : decode b_P_form 66 = .ok (.aload_n 3, 1) := by decide +kernel
theorem d_P_form_67 : decode b_P_form 67 = .ok (.getfield 55, 3) := by decide +kernel
theorem d_P_form_70 : decode b_P_form 70 = .ok (.invokestatic 58, 3) := by decide +kernel
theorem d_P_form_73 : decode b_P_form 73 = .ok (.idiv, 1) := by decide +kernel
theorem d_P_form_74 : decode b_P_form 74 = .ok (.ireturn, 1) := by decide +kernel
theorem d_P_form_75 : decode b_P_form 75 = .ok (.aload_n 3, 1) := by decide +kernel
theorem d_P_form_76 : decode b_P_form 76 = .ok (.getfield 55, 3) := by decide +kernel
theorem d_P_form_79 : decode b_P_form 79 = .ok (.aload_n 3, 1) := by decide +kernel
theorem d_P_form_80 : decode b_P_form 80 = .ok (.getfield 42, 3) := by decide +kernel
theorem d_P_form_83 : decode b_P_form 83 = .ok (.aload_n 3, 1) := by decide +kernel
theorem d_P_form_84 : decode b_P_form 84 = .ok (.getfield 55, 3) := by decide +kernel
theorem d_P_form_87 : decode b_P_form 87 = .ok (.invokestatic 58, 3) := by decide +kernel
theorem d_P_form_90 : decode b_P_form 90 = .ok (.idiv, 1) := by decide +kernel
theorem d_P_form_91 : decode b_P_form 91 = .ok (.ireturn, 1) := by decide +kernel
theorem d_P_form_92 : decode b_P_form 92 = .ok (.aload_n 3, 1) := by decide +kernel
theorem d_P_form_93 : decode b_P_form 93 = .ok (.getfield 62, 3) := by decide +kernel
theorem d_P_form_96 : decode b_P_form 96 = .ok (.ireturn, 1) := by decide +kernel
theorem d_P_form_97 : decode b_P_form 97 = .ok (.iconst (-1), 1) := by decide +kernel
theorem d_P_form_98 : decode b_P_form 98 = .ok (.ireturn, 1) := by decide +kernel
theorem d_P_bit_0 : decode b_P_bit 0 = .ok (.aload_n 0, 1) := by decide +kernel
theorem d_P_bit_1 : decode b_P_bit 1 = .ok (.iload_n 1, 1) := by decide +kernel
theorem d_P_bit_2 : decode b_P_bit 2 = .ok (.invokevirtual 34, 3) := by decide +kernel
theorem d_P_bit_5 : decode b_P_bit 5 = .ok (.astore_n 3, 1) := by decide +kernel
theorem d_P_bit_6 : decode b_P_bit 6 = .ok (.aload_n 3, 1) := by decide +kernel
theorem d_P_bit_7 : decode b_P_bit 7 = .ok (.ifnull 13, 3) := by decide +kernel
theorem d_P_bit_10 : decode b_P_bit 10 = .ok (.iload_n 2, 1) := by decide +kernel
theorem d_P_bit_11 : decode b_P_bit 11 = .ok (.ifCond .lt 9, 3) := by decide +kernel
theorem d_P_bit_14 : decode b_P_bit 14 = .ok (.iload_n 2, 1) := by decide +kernel
theorem d_P_bit_15 : decode b_P_bit 15 = .ok (.ldc 65, 2) := by decide +kernel
theorem d_P_bit_17 : decode b_P_bit 17 = .ok (.if_icmp .le 5, 3) := by decide +kernel
theorem d_P_bit_20 : decode b_P_bit 20 = .ok (.iconst (-1), 1) := by decide +kernel
theorem d_P_bit_21 : decode b_P_bit 21 = .ok (.ireturn, 1) := by decide +kernel
theorem d_P_bit_22 : decode b_P_bit 22 = .ok (.aload_n 3, 1) := by decide +kernel
theorem d_P_bit_23 : decode b_P_bit 23 = .ok (.iload_n 2, 1) := by decide +kernel
theorem d_P_bit_24 : decode b_P_bit 24 = .ok (.invokevirtual 66, 3) := by decide +kernel
theorem d_P_bit_27 : decode b_P_bit 27 = .ok (.ireturn, 1) := by decide +kernel
theorem d_P_ones_0 : decode b_P_ones 0 = .ok (.aload_n 0, 1) := by decide +kernel
theorem d_P_ones_1 : decode b_P_ones 1 = .ok (.iload_n 1, 1) := by decide +kernel
theorem d_P_ones_2 : decode b_P_ones 2 = .ok (.invokevirtual 34, 3) := by decide +kernel
theorem d_P_ones_5 : decode b_P_ones 5 = .ok (.astore_n 3, 1) := by decide +kernel
theorem d_P_ones_6 : decode b_P_ones 6 = .ok (.aload_n 3, 1) := by decide +kernel
theorem d_P_ones_7 : decode b_P_ones 7 = .ok (.ifnull 13, 3) := by decide +kernel
theorem d_P_ones_10 : decode b_P_ones 10 = .ok (.iload_n 2, 1) := by decide +kernel
theorem d_P_ones_11 : decode b_P_ones 11 = .ok (.ifCond .lt 9, 3) := by decide +kernel
theorem d_P_ones_14 : decode b_P_ones 14 = .ok (.iload_n 2, 1) := by decide +kernel
theorem d_P_ones_15 : decode b_P_ones 15 = .ok (.ldc 65, 2) := by decide +kernel
theorem d_P_ones_17 : decode b_P_ones 17 = .ok (.if_icmp .le 5, 3) := by decide +kernel
theorem d_P_ones_20 : decode b_P_ones 20 = .ok (.iconst (-1), 1) := by decide +kernel
theorem d_P_ones_21 : decode b_P_ones 21 = .ok (.ireturn, 1) := by decide +kernel
theorem d_P_ones_22 : decode b_P_ones 22 = .ok (.aload_n 3, 1) := by decide +kernel
theorem d_P_ones_23 : decode b_P_ones 23 = .ok (.iload_n 2, 1) := by decide +kernel
theorem d_P_ones_24 : decode b_P_ones 24 = .ok (.invokevirtual 70, 3) := by decide +kernel
theorem d_P_ones_27 : decode b_P_ones 27 = .ok (.ireturn, 1) := by decide +kernel
theorem d_P_at_0 : decode b_P_at 0 = .ok (.aload_n 0, 1) := by decide +kernel
theorem d_P_at_1 : decode b_P_at 1 = .ok (.iload_n 1, 1) := by decide +kernel
theorem d_P_at_2 : decode b_P_at 2 = .ok (.invokevirtual 34, 3) := by decide +kernel
theorem d_P_at_5 : decode b_P_at 5 = .ok (.astore_n 3, 1) := by decide +kernel
theorem d_P_at_6 : decode b_P_at 6 = .ok (.aload_n 3, 1) := by decide +kernel
theorem d_P_at_7 : decode b_P_at 7 = .ok (.ifnonnull 13, 3) := by decide +kernel
theorem d_P_at_10 : decode b_P_at 10 = .ok (.new 73, 3) := by decide +kernel
theorem d_P_at_13 : decode b_P_at 13 = .ok (.dup, 1) := by decide +kernel
theorem d_P_at_14 : decode b_P_at 14 = .ok (.ldc 75, 2) := by decide +kernel
theorem d_P_at_16 : decode b_P_at 16 = .ok (.invokespecial 77, 3) := by decide +kernel
theorem d_P_at_19 : decode b_P_at 19 = .ok (.athrow, 1) := by decide +kernel
theorem d_P_at_20 : decode b_P_at 20 = .ok (.iload_n 2, 1) := by decide +kernel
theorem d_P_at_21 : decode b_P_at 21 = .ok (.iconst 1, 1) := by decide +kernel
theorem d_P_at_22 : decode b_P_at 22 = .ok (.if_icmp .lt 17, 3) := by decide +kernel
theorem d_P_at_25 : decode b_P_at 25 = .ok (.iload_n 2, 1) := by decide +kernel
theorem d_P_at_26 : decode b_P_at 26 = .ok (.ldc 78, 2) := by decide +kernel
theorem d_P_at_28 : decode b_P_at 28 = .ok (.if_icmp .gt 11, 3) := by decide +kernel
theorem d_P_at_31 : decode b_P_at 31 = .ok (.aload_n 3, 1) := by decide +kernel
theorem d_P_at_32 : decode b_P_at 32 = .ok (.iload_n 2, 1) := by decide +kernel
theorem d_P_at_33 : decode b_P_at 33 = .ok (.invokevirtual 79, 3) := by decide +kernel
theorem d_P_at_36 : decode b_P_at 36 = .ok (.ifCond .ne 13, 3) := by decide +kernel
theorem d_P_at_39 : decode b_P_at 39 = .ok (.new 73, 3) := by decide +kernel
theorem d_P_at_42 : decode b_P_at 42 = .ok (.dup, 1) := by decide +kernel
theorem d_P_at_43 : decode b_P_at 43 = .ok (.ldc 82, 2) := by decide +kernel
theorem d_P_at_45 : decode b_P_at 45 = .ok (.invokespecial 77, 3) := by decide +kernel
theorem d_P_at_48 : decode b_P_at 48 = .ok (.athrow, 1) := by decide +kernel
theorem d_P_at_49 : decode b_P_at 49 = .ok (.aload_n 3, 1) := by decide +kernel
theorem d_P_at_50 : decode b_P_at 50 = .ok (.iload_n 2, 1) := by decide +kernel
theorem d_P_at_51 : decode b_P_at 51 = .ok (.invokevirtual 84, 3) := by decide +kernel
theorem d_P_at_54 : decode b_P_at 54 = .ok (.ireturn, 1) := by decide +kernel
theorem d_P_same_0 : decode b_P_same 0 = .ok (.aload_n 0, 1) := by decide +kernel
theorem d_P_same_1 : decode b_P_same 1 = .ok (.iload_n 1, 1) := by decide +kernel
theorem d_P_same_2 : decode b_P_same 2 = .ok (.invokevirtual 34, 3) := by decide +kernel
theorem d_P_same_5 : decode b_P_same 5 = .ok (.astore_n 2, 1) := by decide +kernel
theorem d_P_same_6 : decode b_P_same 6 = .ok (.aload_n 2, 1) := by decide +kernel
theorem d_P_same_7 : decode b_P_same 7 = .ok (.ifnonnull 5, 3) := by decide +kernel
theorem d_P_same_10 : decode b_P_same 10 = .ok (.iconst (-1), 1) := by decide +kernel
theorem d_P_same_11 : decode b_P_same 11 = .ok (.ireturn, 1) := by decide +kernel
theorem d_P_same_12 : decode b_P_same 12 = .ok (.iconst 0, 1) := by decide +kernel
theorem d_P_same_13 : decode b_P_same 13 = .ok (.istore_n 3, 1) := by decide +kernel
theorem d_P_same_14 : decode b_P_same 14 = .ok (.iload_n 3, 1) := by decide +kernel
theorem d_P_same_15 : decode b_P_same 15 = .ok (.iload_n 1, 1) := by decide +kernel
theorem d_P_same_16 : decode b_P_same 16 = .ok (.if_icmp .ge 23, 3) := by decide +kernel
theorem d_P_same_19 : decode b_P_same 19 = .ok (.aload_n 0, 1) := by decide +kernel
theorem d_P_same_20 : decode b_P_same 20 = .ok (.iload_n 3, 1) := by decide +kernel
theorem d_P_same_21 : decode b_P_same 21 = .ok (.invokevirtual 34, 3) := by decide +kernel
theorem d_P_same_24 : decode b_P_same 24 = .ok (.aload_n 2, 1) := by decide +kernel
theorem d_P_same_25 : decode b_P_same 25 = .ok (.invokestatic 87, 3) := by decide +kernel
theorem d_P_same_28 : decode b_P_same 28 = .ok (.ifCond .eq 5, 3) := by decide +kernel
theorem d_P_same_31 : decode b_P_same 31 = .ok (.iload_n 3, 1) := by decide +kernel
theorem d_P_same_32 : decode b_P_same 32 = .ok (.ireturn, 1) := by decide +kernel
theorem d_P_same_33 : decode b_P_same 33 = .ok (.iinc 3 1, 3) := by decide +kernel
theorem d_P_same_36 : decode b_P_same 36 = .ok (.goto (-22), 3) := by decide +kernel
theorem d_P_same_39 : decode b_P_same 39 = .ok (.iload_n 1, 1) := by decide +kernel
theorem d_P_same_40 : decode b_P_same 40 = .ok (.ireturn, 1) := by decide +kernel
theorem d_P_ahead_0 : decode b_P_ahead 0 = .ok (.aload_n 0, 1) := by decide +kernel
theorem d_P_ahead_1 : decode b_P_ahead 1 = .ok (.iload_n 1, 1) := by decide +kernel
theorem d_P_ahead_2 : decode b_P_ahead 2 = .ok (.invokevirtual 34, 3) := by decide +kernel
theorem d_P_ahead_5 : decode b_P_ahead 5 = .ok (.astore_n 3, 1) := by decide +kernel
theorem d_P_ahead_6 : decode b_P_ahead 6 = .ok (.aload_n 0, 1) := by decide +kernel
theorem d_P_ahead_7 : decode b_P_ahead 7 = .ok (.iload_n 2, 1) := by decide +kernel
theorem d_P_ahead_8 : decode b_P_ahead 8 = .ok (.invokevirtual 34, 3) := by decide +kernel
theorem d_P_ahead_11 : decode b_P_ahead 11 = .ok (.astore 4, 2) := by decide +kernel
theorem d_P_ahead_13 : decode b_P_ahead 13 = .ok (.aload_n 3, 1) := by decide +kernel
theorem d_P_ahead_14 : decode b_P_ahead 14 = .ok (.ifnull 8, 3) := by decide +kernel
theorem d_P_ahead_17 : decode b_P_ahead 17 = .ok (.aload 4, 2) := by decide +kernel
theorem d_P_ahead_19 : decode b_P_ahead 19 = .ok (.ifnonnull 5, 3) := by decide +kernel
theorem d_P_ahead_22 : decode b_P_ahead 22 = .ok (.iconst 0, 1) := by decide +kernel
theorem d_P_ahead_23 : decode b_P_ahead 23 = .ok (.ireturn, 1) := by decide +kernel
theorem d_P_ahead_24 : decode b_P_ahead 24 = .ok (.aload_n 3, 1) := by decide +kernel
theorem d_P_ahead_25 : decode b_P_ahead 25 = .ok (.aload 4, 2) := by decide +kernel
theorem d_P_ahead_27 : decode b_P_ahead 27 = .ok (.invokestatic 91, 3) := by decide +kernel
theorem d_P_ahead_30 : decode b_P_ahead 30 = .ok (.ifCond .ne 7, 3) := by decide +kernel
theorem d_P_ahead_33 : decode b_P_ahead 33 = .ok (.iconst 1, 1) := by decide +kernel
theorem d_P_ahead_34 : decode b_P_ahead 34 = .ok (.goto 4, 3) := by decide +kernel
theorem d_P_ahead_37 : decode b_P_ahead 37 = .ok (.iconst 0, 1) := by decide +kernel
theorem d_P_ahead_38 : decode b_P_ahead 38 = .ok (.ireturn, 1) := by decide +kernel
theorem d_P_between_0 : decode b_P_between 0 = .ok (.aload_n 0, 1) := by decide +kernel
theorem d_P_between_1 : decode b_P_between 1 = .ok (.iload_n 1, 1) := by decide +kernel
theorem d_P_between_2 : decode b_P_between 2 = .ok (.invokevirtual 34, 3) := by decide +kernel
theorem d_P_between_5 : decode b_P_between 5 = .ok (.astore 4, 2) := by decide +kernel
theorem d_P_between_7 : decode b_P_between 7 = .ok (.aload_n 0, 1) := by decide +kernel
theorem d_P_between_8 : decode b_P_between 8 = .ok (.iload_n 2, 1) := by decide +kernel
theorem d_P_between_9 : decode b_P_between 9 = .ok (.invokevirtual 34, 3) := by decide +kernel
theorem d_P_between_12 : decode b_P_between 12 = .ok (.astore 5, 2) := by decide +kernel
theorem d_P_between_14 : decode b_P_between 14 = .ok (.aload 4, 2) := by decide +kernel
theorem d_P_between_16 : decode b_P_between 16 = .ok (.ifnull 17, 3) := by decide +kernel
theorem d_P_between_19 : decode b_P_between 19 = .ok (.aload 5, 2) := by decide +kernel
theorem d_P_between_21 : decode b_P_between 21 = .ok (.ifnull 12, 3) := by decide +kernel
theorem d_P_between_24 : decode b_P_between 24 = .ok (.iload_n 3, 1) := by decide +kernel
theorem d_P_between_25 : decode b_P_between 25 = .ok (.ifCond .lt 8, 3) := by decide +kernel
theorem d_P_between_28 : decode b_P_between 28 = .ok (.iload_n 3, 1) := by decide +kernel
theorem d_P_between_29 : decode b_P_between 29 = .ok (.iconst 2, 1) := by decide +kernel
theorem d_P_between_30 : decode b_P_between 30 = .ok (.if_icmp .le 5, 3) := by decide +kernel
theorem d_P_between_33 : decode b_P_between 33 = .ok (.iconst (-1), 1) := by decide +kernel
theorem d_P_between_34 : decode b_P_between 34 = .ok (.ireturn, 1) := by decide +kernel
theorem d_P_between_35 : decode b_P_between 35 = .ok (.iload_n 3, 1) := by decide +kernel
theorem d_P_between_36 : decode b_P_between 36 = .ok (.iconst 2, 1) := by decide +kernel
theorem d_P_between_37 : decode b_P_between 37 = .ok (.if_icmp .ne 31, 3) := by decide +kernel
theorem d_P_between_40 : decode b_P_between 40 = .ok (.aload 4, 2) := by decide +kernel
theorem d_P_between_42 : decode b_P_between 42 = .ok (.aload 5, 2) := by decide +kernel
theorem d_P_between_44 : decode b_P_between 44 = .ok (.invokestatic 91, 3) := by decide +kernel
theorem d_P_between_47 : decode b_P_between 47 = .ok (.istore 6, 2) := by decide +kernel
theorem d_P_between_49 : decode b_P_between 49 = .ok (.iload 6, 2) := by decide +kernel
theorem d_P_between_51 : decode b_P_between 51 = .ok (.iconst (-1), 1) := by decide +kernel
theorem d_P_between_52 : decode b_P_between 52 = .ok (.if_icmp .ne 13, 3) := by decide +kernel
theorem d_P_between_55 : decode b_P_between 55 = .ok (.new 95, 3) := by decide +kernel
theorem d_P_between_58 : decode b_P_between 58 = .ok (.dup, 1) := by decide +kernel
theorem d_P_between_59 : decode b_P_between 59 = .ok (.ldc 97, 2) := by decide +kernel
theorem d_P_between_61 : decode b_P_between 61 = .ok (.invokespecial 99, 3) := by decide +kernel
theorem d_P_between_64 : decode b_P_between 64 = .ok (.athrow, 1) := by decide +kernel
theorem d_P_between_65 : decode b_P_between 65 = .ok (.iload 6, 2) := by decide +kernel
theorem d_P_between_67 : decode b_P_between 67 = .ok (.ireturn, 1) := by decide +kernel
theorem d_P_between_68 : decode b_P_between 68 = .ok (.aload 4, 2) := by decide +kernel
theorem d_P_between_70 : decode b_P_between 70 = .ok (.aload 5, 2) := by decide +kernel
theorem d_P_between_72 : decode b_P_between 72 = .ok (.invokestatic 100, 3) := by decide +kernel
theorem d_P_between_75 : decode b_P_between 75 = .ok (.ifCond .eq 13, 3) := by decide +kernel
theorem d_P_between_78 : decode b_P_between 78 = .ok (.new 95, 3) := by decide +kernel
theorem d_P_between_81 : decode b_P_between 81 = .ok (.dup, 1) := by decide +kernel
theorem d_P_between_82 : decode b_P_between 82 = .ok (.ldc 103, 2) := by decide +kernel
theorem d_P_between_84 : decode b_P_between 84 = .ok (.invokespecial 99, 3) := by decide +kernel
theorem d_P_between_87 : decode b_P_between 87 = .ok (.athrow, 1) := by decide +kernel
theorem d_P_between_88 : decode b_P_between 88 = .ok (.iload_n 3, 1) := by decide +kernel
theorem d_P_between_89 : decode b_P_between 89 = .ok (.iconst 1, 1) := by decide +kernel
theorem d_P_between_90 : decode b_P_between 90 = .ok (.if_icmp .ne 13, 3) := by decide +kernel
theorem d_P_between_93 : decode b_P_between 93 = .ok (.aload 5, 2) := by decide +kernel
theorem d_P_between_95 : decode b_P_between 95 = .ok (.aload 4, 2) := by decide +kernel
theorem d_P_between_97 : decode b_P_between 97 = .ok (.invokestatic 105, 3) := by decide +kernel
theorem d_P_between_100 : decode b_P_between 100 = .ok (.goto 10, 3) := by decide +kernel
theorem d_P_between_103 : decode b_P_between 103 = .ok (.aload 4, 2) := by decide +kernel
theorem d_P_between_105 : decode b_P_between 105 = .ok (.aload 5, 2) := by decide +kernel
theorem d_P_between_107 : decode b_P_between 107 = .ok (.invokestatic 105, 3) := by decide +kernel
theorem d_P_between_110 : decode b_P_between 110 = .ok (.ireturn, 1) := by decide +kernel
theorem d_P_clear_0 : decode b_P_clear 0 = .ok (.iconst 0, 1) := by decide +kernel
theorem d_P_clear_1 : decode b_P_clear 1 = .ok (.istore_n 1, 1) := by decide +kernel
theorem d_P_clear_2 : decode b_P_clear 2 = .ok (.iload_n 1, 1) := by decide +kernel
theorem d_P_clear_3 : decode b_P_clear 3 = .ok (.aload_n 0, 1) := by decide +kernel
theorem d_P_clear_4 : decode b_P_clear 4 = .ok (.getfield 11, 3) := by decide +kernel
theorem d_P_clear_7 : decode b_P_clear 7 = .ok (.arraylength, 1) := by decide +kernel
theorem d_P_clear_8 : decode b_P_clear 8 = .ok (.if_icmp .ge 16, 3) := by decide +kernel
theorem d_P_clear_11 : decode b_P_clear 11 = .ok (.aload_n 0, 1) := by decide +kernel
theorem d_P_clear_12 : decode b_P_clear 12 = .ok (.getfield 11, 3) := by decide +kernel
theorem d_P_clear_15 : decode b_P_clear 15 = .ok (.iload_n 1, 1) := by decide +kernel
theorem d_P_clear_16 : decode b_P_clear 16 = .ok (.aconst_null, 1) := by decide +kernel
theorem d_P_clear_17 : decode b_P_clear 17 = .ok (.aastore, 1) := by decide +kernel
theorem d_P_clear_18 : decode b_P_clear 18 = .ok (.iinc 1 1, 3) := by decide +kernel
theorem d_P_clear_21 : decode b_P_clear 21 = .ok (.goto (-19), 3) := by decide +kernel
theorem d_P_clear_24 : decode b_P_clear 24 = .ok (.aload_n 0, 1) := by decide +kernel
theorem d_P_clear_25 : decode b_P_clear 25 = .ok (.iconst 0, 1) := by decide +kernel
theorem d_P_clear_26 : decode b_P_clear 26 = .ok (.putfield 15, 3) := by decide +kernel
theorem d_P_clear_29 : decode b_P_clear 29 = .ok (.return_, 1) := by decide +kernel
theorem d_P_total_0 : decode b_P_total 0 = .ok (.aload_n 0, 1) := by decide +kernel
theorem d_P_total_1 : decode b_P_total 1 = .ok (.getfield 15, 3) := by decide +kernel
theorem d_P_total_4 : decode b_P_total 4 = .ok (.ireturn, 1) := by decide +kernel
theorem d_P_find_0 : decode b_P_find 0 = .ok (.iload_n 1, 1) := by decide +kernel
theorem d_P_find_1 : decode b_P_find 1 = .ok (.ifCond .lt 20, 3) := by decide +kernel
theorem d_P_find_4 : decode b_P_find 4 = .ok (.iload_n 1, 1) := by decide +kernel
theorem d_P_find_5 : decode b_P_find 5 = .ok (.aload_n 0, 1) := by decide +kernel
theorem d_P_find_6 : decode b_P_find 6 = .ok (.getfield 15, 3) := by decide +kernel
theorem d_P_find_9 : decode b_P_find 9 = .ok (.if_icmp .ge 12, 3) := by decide +kernel
theorem d_P_find_12 : decode b_P_find 12 = .ok (.iload_n 1, 1) := by decide +kernel
theorem d_P_find_13 : decode b_P_find 13 = .ok (.aload_n 0, 1) := by decide +kernel
theorem d_P_find_14 : decode b_P_find 14 = .ok (.getfield 11, 3) := by decide +kernel
theorem d_P_find_17 : decode b_P_find 17 = .ok (.arraylength, 1) := by decide +kernel
theorem d_P_find_18 : decode b_P_find 18 = .ok (.if_icmp .lt 5, 3) := by decide +kernel
theorem d_P_find_21 : decode b_P_find 21 = .ok (.aconst_null, 1) := by decide +kernel
theorem d_P_find_22 : decode b_P_find 22 = .ok (.areturn, 1) := by decide +kernel
theorem d_P_find_23 : decode b_P_find 23 = .ok (.aload_n 0, 1) := by decide +kernel
theorem d_P_find_24 : decode b_P_find 24 = .ok (.getfield 11, 3) := by decide +kernel
theorem d_P_find_27 : decode b_P_find 27 = .ok (.iload_n 1, 1) := by decide +kernel
theorem d_P_find_28 : decode b_P_find 28 = .ok (.aaload, 1) := by decide +kernel
theorem d_P_find_29 : decode b_P_find 29 = .ok (.areturn, 1) := by decide +kernel
theorem d_P_keep_0 : decode b_P_keep 0 = .ok (.aload_n 1, 1) := by decide +kernel
theorem d_P_keep_1 : decode b_P_keep 1 = .ok (.ifnull 22, 3) := by decide +kernel
theorem d_P_keep_4 : decode b_P_keep 4 = .ok (.aload_n 0, 1) := by decide +kernel
theorem d_P_keep_5 : decode b_P_keep 5 = .ok (.getfield 15, 3) := by decide +kernel
theorem d_P_keep_8 : decode b_P_keep 8 = .ok (.ifCond .lt 15, 3) := by decide +kernel
theorem d_P_keep_11 : decode b_P_keep 11 = .ok (.aload_n 0, 1) := by decide +kernel
theorem d_P_keep_12 : decode b_P_keep 12 = .ok (.getfield 15, 3) := by decide +kernel
theorem d_P_keep_15 : decode b_P_keep 15 = .ok (.aload_n 0, 1) := by decide +kernel
theorem d_P_keep_16 : decode b_P_keep 16 = .ok (.getfield 11, 3) := by decide +kernel
theorem d_P_keep_19 : decode b_P_keep 19 = .ok (.arraylength, 1) := by decide +kernel
theorem d_P_keep_20 : decode b_P_keep 20 = .ok (.if_icmp .lt 5, 3) := by decide +kernel
theorem d_P_keep_23 : decode b_P_keep 23 = .ok (.iconst (-1), 1) := by decide +kernel
theorem d_P_keep_24 : decode b_P_keep 24 = .ok (.ireturn, 1) := by decide +kernel
theorem d_P_keep_25 : decode b_P_keep 25 = .ok (.aload_n 0, 1) := by decide +kernel
theorem d_P_keep_26 : decode b_P_keep 26 = .ok (.getfield 11, 3) := by decide +kernel
theorem d_P_keep_29 : decode b_P_keep 29 = .ok (.aload_n 0, 1) := by decide +kernel
theorem d_P_keep_30 : decode b_P_keep 30 = .ok (.getfield 15, 3) := by decide +kernel
theorem d_P_keep_33 : decode b_P_keep 33 = .ok (.aload_n 1, 1) := by decide +kernel
theorem d_P_keep_34 : decode b_P_keep 34 = .ok (.aastore, 1) := by decide +kernel
theorem d_P_keep_35 : decode b_P_keep 35 = .ok (.aload_n 0, 1) := by decide +kernel
theorem d_P_keep_36 : decode b_P_keep 36 = .ok (.dup, 1) := by decide +kernel
theorem d_P_keep_37 : decode b_P_keep 37 = .ok (.getfield 15, 3) := by decide +kernel
theorem d_P_keep_40 : decode b_P_keep 40 = .ok (.iconst 1, 1) := by decide +kernel
theorem d_P_keep_41 : decode b_P_keep 41 = .ok (.iadd, 1) := by decide +kernel
theorem d_P_keep_42 : decode b_P_keep 42 = .ok (.putfield 15, 3) := by decide +kernel
theorem d_P_keep_45 : decode b_P_keep 45 = .ok (.aload_n 0, 1) := by decide +kernel
theorem d_P_keep_46 : decode b_P_keep 46 = .ok (.getfield 15, 3) := by decide +kernel
theorem d_P_keep_49 : decode b_P_keep 49 = .ok (.iconst 1, 1) := by decide +kernel
theorem d_P_keep_50 : decode b_P_keep 50 = .ok (.isub, 1) := by decide +kernel
theorem d_P_keep_51 : decode b_P_keep 51 = .ok (.ireturn, 1) := by decide +kernel
theorem d_P_needsTwoWords_0 : decode b_P_needsTwoWords 0 = .ok (.iload_n 0, 1) := by decide +kernel
theorem d_P_needsTwoWords_1 : decode b_P_needsTwoWords 1 = .ok (.ifCond .eq 23, 3) := by decide +kernel
theorem d_P_needsTwoWords_4 : decode b_P_needsTwoWords 4 = .ok (.iload_n 0, 1) := by decide +kernel
theorem d_P_needsTwoWords_5 : decode b_P_needsTwoWords 5 = .ok (.iconst 1, 1) := by decide +kernel
theorem d_P_needsTwoWords_6 : decode b_P_needsTwoWords 6 = .ok (.if_icmp .eq 18, 3) := by decide +kernel
theorem d_P_needsTwoWords_9 : decode b_P_needsTwoWords 9 = .ok (.iload_n 0, 1) := by decide +kernel
theorem d_P_needsTwoWords_10 : decode b_P_needsTwoWords 10 = .ok (.iconst 2, 1) := by decide +kernel
theorem d_P_needsTwoWords_11 : decode b_P_needsTwoWords 11 = .ok (.if_icmp .eq 13, 3) := by decide +kernel
theorem d_P_needsTwoWords_14 : decode b_P_needsTwoWords 14 = .ok (.iload_n 0, 1) := by decide +kernel
theorem d_P_needsTwoWords_15 : decode b_P_needsTwoWords 15 = .ok (.iconst 4, 1) := by decide +kernel
theorem d_P_needsTwoWords_16 : decode b_P_needsTwoWords 16 = .ok (.if_icmp .eq 8, 3) := by decide +kernel
theorem d_P_needsTwoWords_19 : decode b_P_needsTwoWords 19 = .ok (.iload_n 0, 1) := by decide +kernel
theorem d_P_needsTwoWords_20 : decode b_P_needsTwoWords 20 = .ok (.iconst 5, 1) := by decide +kernel
theorem d_P_needsTwoWords_21 : decode b_P_needsTwoWords 21 = .ok (.if_icmp .ne 7, 3) := by decide +kernel
theorem d_P_needsTwoWords_24 : decode b_P_needsTwoWords 24 = .ok (.iconst 1, 1) := by decide +kernel
theorem d_P_needsTwoWords_25 : decode b_P_needsTwoWords 25 = .ok (.goto 4, 3) := by decide +kernel
theorem d_P_needsTwoWords_28 : decode b_P_needsTwoWords 28 = .ok (.iconst 0, 1) := by decide +kernel
theorem d_P_needsTwoWords_29 : decode b_P_needsTwoWords 29 = .ok (.ireturn, 1) := by decide +kernel
theorem d_P_alike_0 : decode b_P_alike 0 = .ok (.aload_n 0, 1) := by decide +kernel
theorem d_P_alike_1 : decode b_P_alike 1 = .ok (.ifnull 57, 3) := by decide +kernel
theorem d_P_alike_4 : decode b_P_alike 4 = .ok (.aload_n 1, 1) := by decide +kernel
theorem d_P_alike_5 : decode b_P_alike 5 = .ok (.ifnull 53, 3) := by decide +kernel
theorem d_P_alike_8 : decode b_P_alike 8 = .ok (.aload_n 0, 1) := by decide +kernel
theorem d_P_alike_9 : decode b_P_alike 9 = .ok (.getfield 52, 3) := by decide +kernel
theorem d_P_alike_12 : decode b_P_alike 12 = .ok (.aload_n 1, 1) := by decide +kernel
theorem d_P_alike_13 : decode b_P_alike 13 = .ok (.getfield 52, 3) := by decide +kernel
theorem d_P_alike_16 : decode b_P_alike 16 = .ok (.if_icmp .ne 42, 3) := by decide +kernel
theorem d_P_alike_19 : decode b_P_alike 19 = .ok (.aload_n 0, 1) := by decide +kernel
theorem d_P_alike_20 : decode b_P_alike 20 = .ok (.getfield 108, 3) := by decide +kernel
theorem d_P_alike_23 : decode b_P_alike 23 = .ok (.aload_n 1, 1) := by decide +kernel
theorem d_P_alike_24 : decode b_P_alike 24 = .ok (.getfield 108, 3) := by decide +kernel
theorem d_P_alike_27 : decode b_P_alike 27 = .ok (.lcmp, 1) := by decide +kernel
theorem d_P_alike_28 : decode b_P_alike 28 = .ok (.ifCond .ne 30, 3) := by decide +kernel
theorem d_P_alike_31 : decode b_P_alike 31 = .ok (.aload_n 0, 1) := by decide +kernel
theorem d_P_alike_32 : decode b_P_alike 32 = .ok (.getfield 55, 3) := by decide +kernel
theorem d_P_alike_35 : decode b_P_alike 35 = .ok (.aload_n 1, 1) := by decide +kernel
theorem d_P_alike_36 : decode b_P_alike 36 = .ok (.getfield 55, 3) := by decide +kernel
theorem d_P_alike_39 : decode b_P_alike 39 = .ok (.if_icmp .ne 19, 3) := by decide +kernel
theorem d_P_alike_42 : decode b_P_alike 42 = .ok (.aload_n 0, 1) := by decide +kernel
theorem d_P_alike_43 : decode b_P_alike 43 = .ok (.getfield 112, 3) := by decide +kernel
theorem d_P_alike_46 : decode b_P_alike 46 = .ok (.aload_n 1, 1) := by decide +kernel
theorem d_P_alike_47 : decode b_P_alike 47 = .ok (.getfield 112, 3) := by decide +kernel
theorem d_P_alike_50 : decode b_P_alike 50 = .ok (.lcmp, 1) := by decide +kernel
theorem d_P_alike_51 : decode b_P_alike 51 = .ok (.ifCond .ne 7, 3) := by decide +kernel
theorem d_P_alike_54 : decode b_P_alike 54 = .ok (.iconst 1, 1) := by decide +kernel
theorem d_P_alike_55 : decode b_P_alike 55 = .ok (.goto 4, 3) := by decide +kernel
theorem d_P_alike_58 : decode b_P_alike 58 = .ok (.iconst 0, 1) := by decide +kernel
end
section
theorem d_P_alike_59 : decode b_P_alike 59 = .ok (.ireturn, 1) := by decide +kernel
theorem d_P_draftOf_0 : decode b_P_draftOf 0 = .ok (.iload_n 0, 1) := by decide +kernel
theorem d_P_draftOf_1 : decode b_P_draftOf 1 = .ok (.tableswitch 96 4 7 #[31, 37, 43, 66], 31) := by decide +kernel
theorem d_P_draftOf_32 : decode b_P_draftOf 32 = .ok (.aload_n 1, 1) := by decide +kernel
theorem d_P_draftOf_33 : decode b_P_draftOf 33 = .ok (.aload_n 2, 1) := by decide +kernel
theorem d_P_draftOf_34 : decode b_P_draftOf 34 = .ok (.invokestatic 115, 3) := by decide +kernel
theorem d_P_draftOf_37 : decode b_P_draftOf 37 = .ok (.areturn, 1) := by decide +kernel
theorem d_P_draftOf_38 : decode b_P_draftOf 38 = .ok (.aload_n 1, 1) := by decide +kernel
theorem d_P_draftOf_39 : decode b_P_draftOf 39 = .ok (.aload_n 2, 1) := by decide +kernel
theorem d_P_draftOf_40 : decode b_P_draftOf 40 = .ok (.invokestatic 119, 3) := by decide +kernel
theorem d_P_draftOf_43 : decode b_P_draftOf 43 = .ok (.areturn, 1) := by decide +kernel
theorem d_P_draftOf_44 : decode b_P_draftOf 44 = .ok (.new 122, 3) := by decide +kernel
theorem d_P_draftOf_47 : decode b_P_draftOf 47 = .ok (.dup, 1) := by decide +kernel
theorem d_P_draftOf_48 : decode b_P_draftOf 48 = .ok (.bipush 6, 2) := by decide +kernel
theorem d_P_draftOf_50 : decode b_P_draftOf 50 = .ok (.aload_n 1, 1) := by decide +kernel
theorem d_P_draftOf_51 : decode b_P_draftOf 51 = .ok (.aload_n 2, 1) := by decide +kernel
theorem d_P_draftOf_52 : decode b_P_draftOf 52 = .ok (.iload_n 3, 1) := by decide +kernel
theorem d_P_draftOf_53 : decode b_P_draftOf 53 = .ok (.aload_n 1, 1) := by decide +kernel
theorem d_P_draftOf_54 : decode b_P_draftOf 54 = .ok (.getfield 52, 3) := by decide +kernel
theorem d_P_draftOf_57 : decode b_P_draftOf 57 = .ok (.iload_n 3, 1) := by decide +kernel
theorem d_P_draftOf_58 : decode b_P_draftOf 58 = .ok (.iadd, 1) := by decide +kernel
theorem d_P_draftOf_59 : decode b_P_draftOf 59 = .ok (.aload_n 1, 1) := by decide +kernel
theorem d_P_draftOf_60 : decode b_P_draftOf 60 = .ok (.getfield 55, 3) := by decide +kernel
theorem d_P_draftOf_63 : decode b_P_draftOf 63 = .ok (.invokespecial 124, 3) := by decide +kernel
theorem d_P_draftOf_66 : decode b_P_draftOf 66 = .ok (.areturn, 1) := by decide +kernel
theorem d_P_draftOf_67 : decode b_P_draftOf 67 = .ok (.new 122, 3) := by decide +kernel
theorem d_P_draftOf_70 : decode b_P_draftOf 70 = .ok (.dup, 1) := by decide +kernel
theorem d_P_draftOf_71 : decode b_P_draftOf 71 = .ok (.bipush 7, 2) := by decide +kernel
theorem d_P_draftOf_73 : decode b_P_draftOf 73 = .ok (.aload_n 1, 1) := by decide +kernel
theorem d_P_draftOf_74 : decode b_P_draftOf 74 = .ok (.aload_n 2, 1) := by decide +kernel
theorem d_P_draftOf_75 : decode b_P_draftOf 75 = .ok (.iconst 0, 1) := by decide +kernel
theorem d_P_draftOf_76 : decode b_P_draftOf 76 = .ok (.aload_n 1, 1) := by decide +kernel
theorem d_P_draftOf_77 : decode b_P_draftOf 77 = .ok (.getfield 52, 3) := by decide +kernel
theorem d_P_draftOf_80 : decode b_P_draftOf 80 = .ok (.aload_n 1, 1) := by decide +kernel
theorem d_P_draftOf_81 : decode b_P_draftOf 81 = .ok (.getfield 55, 3) := by decide +kernel
theorem d_P_draftOf_84 : decode b_P_draftOf 84 = .ok (.iconst 1, 1) := by decide +kernel
theorem d_P_draftOf_85 : decode b_P_draftOf 85 = .ok (.aload_n 1, 1) := by decide +kernel
theorem d_P_draftOf_86 : decode b_P_draftOf 86 = .ok (.getfield 42, 3) := by decide +kernel
theorem d_P_draftOf_89 : decode b_P_draftOf 89 = .ok (.iconst 2, 1) := by decide +kernel
theorem d_P_draftOf_90 : decode b_P_draftOf 90 = .ok (.irem, 1) := by decide +kernel
theorem d_P_draftOf_91 : decode b_P_draftOf 91 = .ok (.iadd, 1) := by decide +kernel
theorem d_P_draftOf_92 : decode b_P_draftOf 92 = .ok (.imul, 1) := by decide +kernel
theorem d_P_draftOf_93 : decode b_P_draftOf 93 = .ok (.invokespecial 124, 3) := by decide +kernel
theorem d_P_draftOf_96 : decode b_P_draftOf 96 = .ok (.areturn, 1) := by decide +kernel
theorem d_P_draftOf_97 : decode b_P_draftOf 97 = .ok (.new 122, 3) := by decide +kernel
theorem d_P_draftOf_100 : decode b_P_draftOf 100 = .ok (.dup, 1) := by decide +kernel
theorem d_P_draftOf_101 : decode b_P_draftOf 101 = .ok (.iload_n 0, 1) := by decide +kernel
theorem d_P_draftOf_102 : decode b_P_draftOf 102 = .ok (.aload_n 1, 1) := by decide +kernel
theorem d_P_draftOf_103 : decode b_P_draftOf 103 = .ok (.aload_n 2, 1) := by decide +kernel
theorem d_P_draftOf_104 : decode b_P_draftOf 104 = .ok (.iconst 0, 1) := by decide +kernel
theorem d_P_draftOf_105 : decode b_P_draftOf 105 = .ok (.aload_n 1, 1) := by decide +kernel
theorem d_P_draftOf_106 : decode b_P_draftOf 106 = .ok (.getfield 52, 3) := by decide +kernel
theorem d_P_draftOf_109 : decode b_P_draftOf 109 = .ok (.aload_n 2, 1) := by decide +kernel
theorem d_P_draftOf_110 : decode b_P_draftOf 110 = .ok (.getfield 52, 3) := by decide +kernel
theorem d_P_draftOf_113 : decode b_P_draftOf 113 = .ok (.invokestatic 127, 3) := by decide +kernel
theorem d_P_draftOf_116 : decode b_P_draftOf 116 = .ok (.aload_n 1, 1) := by decide +kernel
theorem d_P_draftOf_117 : decode b_P_draftOf 117 = .ok (.getfield 55, 3) := by decide +kernel
theorem d_P_draftOf_120 : decode b_P_draftOf 120 = .ok (.aload_n 2, 1) := by decide +kernel
theorem d_P_draftOf_121 : decode b_P_draftOf 121 = .ok (.getfield 55, 3) := by decide +kernel
theorem d_P_draftOf_124 : decode b_P_draftOf 124 = .ok (.invokestatic 132, 3) := by decide +kernel
theorem d_P_draftOf_127 : decode b_P_draftOf 127 = .ok (.invokespecial 124, 3) := by decide +kernel
theorem d_P_draftOf_130 : decode b_P_draftOf 130 = .ok (.areturn, 1) := by decide +kernel
theorem d_P_draftOn_0 : decode b_P_draftOn 0 = .ok (.aload_n 0, 1) := by decide +kernel
theorem d_P_draftOn_1 : decode b_P_draftOn 1 = .ok (.getfield 42, 3) := by decide +kernel
theorem d_P_draftOn_4 : decode b_P_draftOn 4 = .ok (.ifCond .ne 23, 3) := by decide +kernel
theorem d_P_draftOn_7 : decode b_P_draftOn 7 = .ok (.new 122, 3) := by decide +kernel
theorem d_P_draftOn_10 : decode b_P_draftOn 10 = .ok (.dup, 1) := by decide +kernel
theorem d_P_draftOn_11 : decode b_P_draftOn 11 = .ok (.iconst 4, 1) := by decide +kernel
theorem d_P_draftOn_12 : decode b_P_draftOn 12 = .ok (.aload_n 0, 1) := by decide +kernel
theorem d_P_draftOn_13 : decode b_P_draftOn 13 = .ok (.aload_n 1, 1) := by decide +kernel
theorem d_P_draftOn_14 : decode b_P_draftOn 14 = .ok (.iconst 0, 1) := by decide +kernel
theorem d_P_draftOn_15 : decode b_P_draftOn 15 = .ok (.aload_n 0, 1) := by decide +kernel
theorem d_P_draftOn_16 : decode b_P_draftOn 16 = .ok (.getfield 52, 3) := by decide +kernel
theorem d_P_draftOn_19 : decode b_P_draftOn 19 = .ok (.aload_n 0, 1) := by decide +kernel
theorem d_P_draftOn_20 : decode b_P_draftOn 20 = .ok (.getfield 55, 3) := by decide +kernel
theorem d_P_draftOn_23 : decode b_P_draftOn 23 = .ok (.invokespecial 124, 3) := by decide +kernel
theorem d_P_draftOn_26 : decode b_P_draftOn 26 = .ok (.areturn, 1) := by decide +kernel
theorem d_P_draftOn_27 : decode b_P_draftOn 27 = .ok (.aload_n 0, 1) := by decide +kernel
theorem d_P_draftOn_28 : decode b_P_draftOn 28 = .ok (.getfield 52, 3) := by decide +kernel
theorem d_P_draftOn_31 : decode b_P_draftOn 31 = .ok (.aload_n 0, 1) := by decide +kernel
theorem d_P_draftOn_32 : decode b_P_draftOn 32 = .ok (.aload_n 1, 1) := by decide +kernel
theorem d_P_draftOn_33 : decode b_P_draftOn 33 = .ok (.getfield 52, 3) := by decide +kernel
theorem d_P_draftOn_36 : decode b_P_draftOn 36 = .ok (.iconst 1, 1) := by decide +kernel
theorem d_P_draftOn_37 : decode b_P_draftOn 37 = .ok (.iadd, 1) := by decide +kernel
theorem d_P_draftOn_38 : decode b_P_draftOn 38 = .ok (.invokevirtual 84, 3) := by decide +kernel
theorem d_P_draftOn_41 : decode b_P_draftOn 41 = .ok (.invokestatic 127, 3) := by decide +kernel
theorem d_P_draftOn_44 : decode b_P_draftOn 44 = .ok (.istore_n 2, 1) := by decide +kernel
theorem d_P_draftOn_45 : decode b_P_draftOn 45 = .ok (.aload_n 1, 1) := by decide +kernel
theorem d_P_draftOn_46 : decode b_P_draftOn 46 = .ok (.getfield 55, 3) := by decide +kernel
theorem d_P_draftOn_49 : decode b_P_draftOn 49 = .ok (.aload_n 0, 1) := by decide +kernel
theorem d_P_draftOn_50 : decode b_P_draftOn 50 = .ok (.getfield 42, 3) := by decide +kernel
theorem d_P_draftOn_53 : decode b_P_draftOn 53 = .ok (.aload_n 1, 1) := by decide +kernel
theorem d_P_draftOn_54 : decode b_P_draftOn 54 = .ok (.getfield 55, 3) := by decide +kernel
theorem d_P_draftOn_57 : decode b_P_draftOn 57 = .ok (.invokestatic 58, 3) := by decide +kernel
theorem d_P_draftOn_60 : decode b_P_draftOn 60 = .ok (.idiv, 1) := by decide +kernel
theorem d_P_draftOn_61 : decode b_P_draftOn 61 = .ok (.istore_n 3, 1) := by decide +kernel
theorem d_P_draftOn_62 : decode b_P_draftOn 62 = .ok (.new 122, 3) := by decide +kernel
theorem d_P_draftOn_65 : decode b_P_draftOn 65 = .ok (.dup, 1) := by decide +kernel
theorem d_P_draftOn_66 : decode b_P_draftOn 66 = .ok (.iconst 4, 1) := by decide +kernel
theorem d_P_draftOn_67 : decode b_P_draftOn 67 = .ok (.aload_n 0, 1) := by decide +kernel
theorem d_P_draftOn_68 : decode b_P_draftOn 68 = .ok (.aload_n 1, 1) := by decide +kernel
theorem d_P_draftOn_69 : decode b_P_draftOn 69 = .ok (.iconst 0, 1) := by decide +kernel
theorem d_P_draftOn_70 : decode b_P_draftOn 70 = .ok (.iload_n 2, 1) := by decide +kernel
theorem d_P_draftOn_71 : decode b_P_draftOn 71 = .ok (.aload_n 0, 1) := by decide +kernel
theorem d_P_draftOn_72 : decode b_P_draftOn 72 = .ok (.getfield 55, 3) := by decide +kernel
theorem d_P_draftOn_75 : decode b_P_draftOn 75 = .ok (.iload_n 3, 1) := by decide +kernel
theorem d_P_draftOn_76 : decode b_P_draftOn 76 = .ok (.imul, 1) := by decide +kernel
theorem d_P_draftOn_77 : decode b_P_draftOn 77 = .ok (.invokespecial 124, 3) := by decide +kernel
theorem d_P_draftOn_80 : decode b_P_draftOn 80 = .ok (.areturn, 1) := by decide +kernel
theorem d_P_draftBy_0 : decode b_P_draftBy 0 = .ok (.aload_n 1, 1) := by decide +kernel
theorem d_P_draftBy_1 : decode b_P_draftBy 1 = .ok (.aload_n 0, 1) := by decide +kernel
theorem d_P_draftBy_2 : decode b_P_draftBy 2 = .ok (.getfield 52, 3) := by decide +kernel
theorem d_P_draftBy_5 : decode b_P_draftBy 5 = .ok (.aload_n 1, 1) := by decide +kernel
theorem d_P_draftBy_6 : decode b_P_draftBy 6 = .ok (.getfield 52, 3) := by decide +kernel
theorem d_P_draftBy_9 : decode b_P_draftBy 9 = .ok (.invokestatic 127, 3) := by decide +kernel
theorem d_P_draftBy_12 : decode b_P_draftBy 12 = .ok (.invokevirtual 70, 3) := by decide +kernel
theorem d_P_draftBy_15 : decode b_P_draftBy 15 = .ok (.istore_n 2, 1) := by decide +kernel
theorem d_P_draftBy_16 : decode b_P_draftBy 16 = .ok (.aload_n 0, 1) := by decide +kernel
theorem d_P_draftBy_17 : decode b_P_draftBy 17 = .ok (.getfield 55, 3) := by decide +kernel
theorem d_P_draftBy_20 : decode b_P_draftBy 20 = .ok (.aload_n 0, 1) := by decide +kernel
theorem d_P_draftBy_21 : decode b_P_draftBy 21 = .ok (.getfield 55, 3) := by decide +kernel
theorem d_P_draftBy_24 : decode b_P_draftBy 24 = .ok (.aload_n 1, 1) := by decide +kernel
theorem d_P_draftBy_25 : decode b_P_draftBy 25 = .ok (.getfield 55, 3) := by decide +kernel
theorem d_P_draftBy_28 : decode b_P_draftBy 28 = .ok (.invokestatic 58, 3) := by decide +kernel
theorem d_P_draftBy_31 : decode b_P_draftBy 31 = .ok (.idiv, 1) := by decide +kernel
theorem d_P_draftBy_32 : decode b_P_draftBy 32 = .ok (.istore_n 3, 1) := by decide +kernel
theorem d_P_draftBy_33 : decode b_P_draftBy 33 = .ok (.new 122, 3) := by decide +kernel
theorem d_P_draftBy_36 : decode b_P_draftBy 36 = .ok (.dup, 1) := by decide +kernel
theorem d_P_draftBy_37 : decode b_P_draftBy 37 = .ok (.iconst 5, 1) := by decide +kernel
theorem d_P_draftBy_38 : decode b_P_draftBy 38 = .ok (.aload_n 0, 1) := by decide +kernel
theorem d_P_draftBy_39 : decode b_P_draftBy 39 = .ok (.aload_n 1, 1) := by decide +kernel
theorem d_P_draftBy_40 : decode b_P_draftBy 40 = .ok (.iconst 0, 1) := by decide +kernel
theorem d_P_draftBy_41 : decode b_P_draftBy 41 = .ok (.iload_n 2, 1) := by decide +kernel
theorem d_P_draftBy_42 : decode b_P_draftBy 42 = .ok (.aload_n 1, 1) := by decide +kernel
theorem d_P_draftBy_43 : decode b_P_draftBy 43 = .ok (.getfield 42, 3) := by decide +kernel
theorem d_P_draftBy_46 : decode b_P_draftBy 46 = .ok (.iload_n 3, 1) := by decide +kernel
theorem d_P_draftBy_47 : decode b_P_draftBy 47 = .ok (.imul, 1) := by decide +kernel
theorem d_P_draftBy_48 : decode b_P_draftBy 48 = .ok (.invokespecial 124, 3) := by decide +kernel
theorem d_P_draftBy_51 : decode b_P_draftBy 51 = .ok (.areturn, 1) := by decide +kernel
theorem d_P_shortestForm_0 : decode b_P_shortestForm 0 = .ok (.aload_n 0, 1) := by decide +kernel
theorem d_P_shortestForm_1 : decode b_P_shortestForm 1 = .ok (.invokestatic 135, 3) := by decide +kernel
theorem d_P_shortestForm_4 : decode b_P_shortestForm 4 = .ok (.istore_n 1, 1) := by decide +kernel
theorem d_P_shortestForm_5 : decode b_P_shortestForm 5 = .ok (.iload_n 1, 1) := by decide +kernel
theorem d_P_shortestForm_6 : decode b_P_shortestForm 6 = .ok (.iconst (-1), 1) := by decide +kernel
theorem d_P_shortestForm_7 : decode b_P_shortestForm 7 = .ok (.if_icmp .ne 5, 3) := by decide +kernel
theorem d_P_shortestForm_10 : decode b_P_shortestForm 10 = .ok (.aconst_null, 1) := by decide +kernel
theorem d_P_shortestForm_11 : decode b_P_shortestForm 11 = .ok (.areturn, 1) := by decide +kernel
theorem d_P_shortestForm_12 : decode b_P_shortestForm 12 = .ok (.aload_n 0, 1) := by decide +kernel
theorem d_P_shortestForm_13 : decode b_P_shortestForm 13 = .ok (.iload_n 1, 1) := by decide +kernel
theorem d_P_shortestForm_14 : decode b_P_shortestForm 14 = .ok (.invokestatic 139, 3) := by decide +kernel
theorem d_P_shortestForm_17 : decode b_P_shortestForm 17 = .ok (.istore_n 2, 1) := by decide +kernel
theorem d_P_shortestForm_18 : decode b_P_shortestForm 18 = .ok (.iload_n 2, 1) := by decide +kernel
theorem d_P_shortestForm_19 : decode b_P_shortestForm 19 = .ok (.bipush 60, 2) := by decide +kernel
theorem d_P_shortestForm_21 : decode b_P_shortestForm 21 = .ok (.if_icmp .le 5, 3) := by decide +kernel
theorem d_P_shortestForm_24 : decode b_P_shortestForm 24 = .ok (.aconst_null, 1) := by decide +kernel
theorem d_P_shortestForm_25 : decode b_P_shortestForm 25 = .ok (.areturn, 1) := by decide +kernel
theorem d_P_shortestForm_26 : decode b_P_shortestForm 26 = .ok (.new 9, 3) := by decide +kernel
theorem d_P_shortestForm_29 : decode b_P_shortestForm 29 = .ok (.dup, 1) := by decide +kernel
theorem d_P_shortestForm_30 : decode b_P_shortestForm 30 = .ok (.iload_n 2, 1) := by decide +kernel
theorem d_P_shortestForm_31 : decode b_P_shortestForm 31 = .ok (.aload_n 0, 1) := by decide +kernel
theorem d_P_shortestForm_32 : decode b_P_shortestForm 32 = .ok (.iconst 0, 1) := by decide +kernel
theorem d_P_shortestForm_33 : decode b_P_shortestForm 33 = .ok (.iload_n 2, 1) := by decide +kernel
theorem d_P_shortestForm_34 : decode b_P_shortestForm 34 = .ok (.invokevirtual 143, 3) := by decide +kernel
theorem d_P_shortestForm_37 : decode b_P_shortestForm 37 = .ok (.iload_n 1, 1) := by decide +kernel
theorem d_P_shortestForm_38 : decode b_P_shortestForm 38 = .ok (.aload_n 0, 1) := by decide +kernel
theorem d_P_shortestForm_39 : decode b_P_shortestForm 39 = .ok (.iload_n 2, 1) := by decide +kernel
theorem d_P_shortestForm_40 : decode b_P_shortestForm 40 = .ok (.iload_n 1, 1) := by decide +kernel
theorem d_P_shortestForm_41 : decode b_P_shortestForm 41 = .ok (.invokevirtual 143, 3) := by decide +kernel
theorem d_P_shortestForm_44 : decode b_P_shortestForm 44 = .ok (.invokespecial 19, 3) := by decide +kernel
theorem d_P_shortestForm_47 : decode b_P_shortestForm 47 = .ok (.areturn, 1) := by decide +kernel
theorem d_P_shortestRing_0 : decode b_P_shortestRing 0 = .ok (.lconst 0, 1) := by decide +kernel
theorem d_P_shortestRing_1 : decode b_P_shortestRing 1 = .ok (.lstore_n 1, 1) := by decide +kernel
theorem d_P_shortestRing_2 : decode b_P_shortestRing 2 = .ok (.iconst 0, 1) := by decide +kernel
theorem d_P_shortestRing_3 : decode b_P_shortestRing 3 = .ok (.istore_n 3, 1) := by decide +kernel
theorem d_P_shortestRing_4 : decode b_P_shortestRing 4 = .ok (.iload_n 3, 1) := by decide +kernel
theorem d_P_shortestRing_5 : decode b_P_shortestRing 5 = .ok (.bipush 60, 2) := by decide +kernel
theorem d_P_shortestRing_7 : decode b_P_shortestRing 7 = .ok (.if_icmp .ge 25, 3) := by decide +kernel
theorem d_P_shortestRing_10 : decode b_P_shortestRing 10 = .ok (.lload_n 1, 1) := by decide +kernel
theorem d_P_shortestRing_11 : decode b_P_shortestRing 11 = .ok (.iconst 1, 1) := by decide +kernel
theorem d_P_shortestRing_12 : decode b_P_shortestRing 12 = .ok (.lshl, 1) := by decide +kernel
theorem d_P_shortestRing_13 : decode b_P_shortestRing 13 = .ok (.aload_n 0, 1) := by decide +kernel
theorem d_P_shortestRing_14 : decode b_P_shortestRing 14 = .ok (.aload_n 0, 1) := by decide +kernel
theorem d_P_shortestRing_15 : decode b_P_shortestRing 15 = .ok (.getfield 147, 3) := by decide +kernel
theorem d_P_shortestRing_18 : decode b_P_shortestRing 18 = .ok (.iload_n 3, 1) := by decide +kernel
theorem d_P_shortestRing_19 : decode b_P_shortestRing 19 = .ok (.iadd, 1) := by decide +kernel
theorem d_P_shortestRing_20 : decode b_P_shortestRing 20 = .ok (.invokevirtual 148, 3) := by decide +kernel
theorem d_P_shortestRing_23 : decode b_P_shortestRing 23 = .ok (.i2l, 1) := by decide +kernel
theorem d_P_shortestRing_24 : decode b_P_shortestRing 24 = .ok (.lor, 1) := by decide +kernel
theorem d_P_shortestRing_25 : decode b_P_shortestRing 25 = .ok (.lstore_n 1, 1) := by decide +kernel
theorem d_P_shortestRing_26 : decode b_P_shortestRing 26 = .ok (.iinc 3 1, 3) := by decide +kernel
theorem d_P_shortestRing_29 : decode b_P_shortestRing 29 = .ok (.goto (-25), 3) := by decide +kernel
theorem d_P_shortestRing_32 : decode b_P_shortestRing 32 = .ok (.aload_n 0, 1) := by decide +kernel
theorem d_P_shortestRing_33 : decode b_P_shortestRing 33 = .ok (.getfield 147, 3) := by decide +kernel
theorem d_P_shortestRing_36 : decode b_P_shortestRing 36 = .ok (.bipush 60, 2) := by decide +kernel
theorem d_P_shortestRing_38 : decode b_P_shortestRing 38 = .ok (.iadd, 1) := by decide +kernel
theorem d_P_shortestRing_39 : decode b_P_shortestRing 39 = .ok (.istore_n 3, 1) := by decide +kernel
theorem d_P_shortestRing_40 : decode b_P_shortestRing 40 = .ok (.ldc2_w 149, 3) := by decide +kernel
theorem d_P_shortestRing_43 : decode b_P_shortestRing 43 = .ok (.lstore 4, 2) := by decide +kernel
theorem d_P_shortestRing_45 : decode b_P_shortestRing 45 = .ok (.iconst 0, 1) := by decide +kernel
theorem d_P_shortestRing_46 : decode b_P_shortestRing 46 = .ok (.istore 6, 2) := by decide +kernel
theorem d_P_shortestRing_48 : decode b_P_shortestRing 48 = .ok (.iload 6, 2) := by decide +kernel
theorem d_P_shortestRing_50 : decode b_P_shortestRing 50 = .ok (.aload_n 0, 1) := by decide +kernel
theorem d_P_shortestRing_51 : decode b_P_shortestRing 51 = .ok (.getfield 151, 3) := by decide +kernel
theorem d_P_shortestRing_54 : decode b_P_shortestRing 54 = .ok (.if_icmp .ge 54, 3) := by decide +kernel
theorem d_P_shortestRing_57 : decode b_P_shortestRing 57 = .ok (.lload 4, 2) := by decide +kernel
theorem d_P_shortestRing_59 : decode b_P_shortestRing 59 = .ok (.lconst 0, 1) := by decide +kernel
theorem d_P_shortestRing_60 : decode b_P_shortestRing 60 = .ok (.lcmp, 1) := by decide +kernel
theorem d_P_shortestRing_61 : decode b_P_shortestRing 61 = .ok (.ifCond .eq 47, 3) := by decide +kernel
theorem d_P_shortestRing_64 : decode b_P_shortestRing 64 = .ok (.aload_n 0, 1) := by decide +kernel
theorem d_P_shortestRing_65 : decode b_P_shortestRing 65 = .ok (.iload_n 3, 1) := by decide +kernel
theorem d_P_shortestRing_66 : decode b_P_shortestRing 66 = .ok (.iload 6, 2) := by decide +kernel
theorem d_P_shortestRing_68 : decode b_P_shortestRing 68 = .ok (.iadd, 1) := by decide +kernel
theorem d_P_shortestRing_69 : decode b_P_shortestRing 69 = .ok (.invokevirtual 148, 3) := by decide +kernel
theorem d_P_shortestRing_72 : decode b_P_shortestRing 72 = .ok (.istore 7, 2) := by decide +kernel
theorem d_P_shortestRing_74 : decode b_P_shortestRing 74 = .ok (.lload 4, 2) := by decide +kernel
theorem d_P_shortestRing_76 : decode b_P_shortestRing 76 = .ok (.iload 7, 2) := by decide +kernel
theorem d_P_shortestRing_78 : decode b_P_shortestRing 78 = .ok (.iconst 1, 1) := by decide +kernel
theorem d_P_shortestRing_79 : decode b_P_shortestRing 79 = .ok (.if_icmp .ne 7, 3) := by decide +kernel
theorem d_P_shortestRing_82 : decode b_P_shortestRing 82 = .ok (.lload_n 1, 1) := by decide +kernel
theorem d_P_shortestRing_83 : decode b_P_shortestRing 83 = .ok (.goto 8, 3) := by decide +kernel
theorem d_P_shortestRing_86 : decode b_P_shortestRing 86 = .ok (.lload_n 1, 1) := by decide +kernel
theorem d_P_shortestRing_87 : decode b_P_shortestRing 87 = .ok (.ldc2_w 152, 3) := by decide +kernel
theorem d_P_shortestRing_90 : decode b_P_shortestRing 90 = .ok (.lxor, 1) := by decide +kernel
theorem d_P_shortestRing_91 : decode b_P_shortestRing 91 = .ok (.land, 1) := by decide +kernel
theorem d_P_shortestRing_92 : decode b_P_shortestRing 92 = .ok (.lstore 4, 2) := by decide +kernel
theorem d_P_shortestRing_94 : decode b_P_shortestRing 94 = .ok (.lload_n 1, 1) := by decide +kernel
theorem d_P_shortestRing_95 : decode b_P_shortestRing 95 = .ok (.iconst 1, 1) := by decide +kernel
theorem d_P_shortestRing_96 : decode b_P_shortestRing 96 = .ok (.lshl, 1) := by decide +kernel
theorem d_P_shortestRing_97 : decode b_P_shortestRing 97 = .ok (.iload 7, 2) := by decide +kernel
theorem d_P_shortestRing_99 : decode b_P_shortestRing 99 = .ok (.i2l, 1) := by decide +kernel
theorem d_P_shortestRing_100 : decode b_P_shortestRing 100 = .ok (.lor, 1) := by decide +kernel
theorem d_P_shortestRing_101 : decode b_P_shortestRing 101 = .ok (.lstore_n 1, 1) := by decide +kernel
theorem d_P_shortestRing_102 : decode b_P_shortestRing 102 = .ok (.iinc 6 1, 3) := by decide +kernel
theorem d_P_shortestRing_105 : decode b_P_shortestRing 105 = .ok (.goto (-57), 3) := by decide +kernel
theorem d_P_shortestRing_108 : decode b_P_shortestRing 108 = .ok (.lload 4, 2) := by decide +kernel
theorem d_P_shortestRing_110 : decode b_P_shortestRing 110 = .ok (.lconst 0, 1) := by decide +kernel
theorem d_P_shortestRing_111 : decode b_P_shortestRing 111 = .ok (.lcmp, 1) := by decide +kernel
theorem d_P_shortestRing_112 : decode b_P_shortestRing 112 = .ok (.ifCond .ne 5, 3) := by decide +kernel
theorem d_P_shortestRing_115 : decode b_P_shortestRing 115 = .ok (.iconst (-1), 1) := by decide +kernel
theorem d_P_shortestRing_116 : decode b_P_shortestRing 116 = .ok (.ireturn, 1) := by decide +kernel
theorem d_P_shortestRing_117 : decode b_P_shortestRing 117 = .ok (.lload 4, 2) := by decide +kernel
theorem d_P_shortestRing_119 : decode b_P_shortestRing 119 = .ok (.lload 4, 2) := by decide +kernel
theorem d_P_shortestRing_121 : decode b_P_shortestRing 121 = .ok (.lneg, 1) := by decide +kernel
theorem d_P_shortestRing_122 : decode b_P_shortestRing 122 = .ok (.land, 1) := by decide +kernel
theorem d_P_shortestRing_123 : decode b_P_shortestRing 123 = .ok (.lstore 6, 2) := by decide +kernel
theorem d_P_shortestRing_125 : decode b_P_shortestRing 125 = .ok (.lload 6, 2) := by decide +kernel
theorem d_P_shortestRing_127 : decode b_P_shortestRing 127 = .ok (.lconst 1, 1) := by decide +kernel
theorem d_P_shortestRing_128 : decode b_P_shortestRing 128 = .ok (.lsub, 1) := by decide +kernel
theorem d_P_shortestRing_129 : decode b_P_shortestRing 129 = .ok (.invokestatic 154, 3) := by decide +kernel
theorem d_P_shortestRing_132 : decode b_P_shortestRing 132 = .ok (.iconst 1, 1) := by decide +kernel
theorem d_P_shortestRing_133 : decode b_P_shortestRing 133 = .ok (.iadd, 1) := by decide +kernel
theorem d_P_shortestRing_134 : decode b_P_shortestRing 134 = .ok (.ireturn, 1) := by decide +kernel
theorem d_P_shortestHead_0 : decode b_P_shortestHead 0 = .ok (.aload_n 0, 1) := by decide +kernel
theorem d_P_shortestHead_1 : decode b_P_shortestHead 1 = .ok (.getfield 147, 3) := by decide +kernel
theorem d_P_shortestHead_4 : decode b_P_shortestHead 4 = .ok (.istore_n 2, 1) := by decide +kernel
theorem d_P_shortestHead_5 : decode b_P_shortestHead 5 = .ok (.iload_n 2, 1) := by decide +kernel
theorem d_P_shortestHead_6 : decode b_P_shortestHead 6 = .ok (.ifCond .le 30, 3) := by decide +kernel
theorem d_P_shortestHead_9 : decode b_P_shortestHead 9 = .ok (.aload_n 0, 1) := by decide +kernel
theorem d_P_shortestHead_10 : decode b_P_shortestHead 10 = .ok (.iload_n 2, 1) := by decide +kernel
theorem d_P_shortestHead_11 : decode b_P_shortestHead 11 = .ok (.iconst 1, 1) := by decide +kernel
theorem d_P_shortestHead_12 : decode b_P_shortestHead 12 = .ok (.isub, 1) := by decide +kernel
theorem d_P_shortestHead_13 : decode b_P_shortestHead 13 = .ok (.invokevirtual 148, 3) := by decide +kernel
theorem d_P_shortestHead_16 : decode b_P_shortestHead 16 = .ok (.aload_n 0, 1) := by decide +kernel
theorem d_P_shortestHead_17 : decode b_P_shortestHead 17 = .ok (.iload_n 2, 1) := by decide +kernel
theorem d_P_shortestHead_18 : decode b_P_shortestHead 18 = .ok (.iconst 1, 1) := by decide +kernel
theorem d_P_shortestHead_19 : decode b_P_shortestHead 19 = .ok (.isub, 1) := by decide +kernel
theorem d_P_shortestHead_20 : decode b_P_shortestHead 20 = .ok (.iload_n 1, 1) := by decide +kernel
theorem d_P_shortestHead_21 : decode b_P_shortestHead 21 = .ok (.iadd, 1) := by decide +kernel
theorem d_P_shortestHead_22 : decode b_P_shortestHead 22 = .ok (.invokevirtual 148, 3) := by decide +kernel
theorem d_P_shortestHead_25 : decode b_P_shortestHead 25 = .ok (.if_icmp .eq 5, 3) := by decide +kernel
theorem d_P_shortestHead_28 : decode b_P_shortestHead 28 = .ok (.iload_n 2, 1) := by decide +kernel
theorem d_P_shortestHead_29 : decode b_P_shortestHead 29 = .ok (.ireturn, 1) := by decide +kernel
theorem d_P_shortestHead_30 : decode b_P_shortestHead 30 = .ok (.iinc 2 (-1), 3) := by decide +kernel
theorem d_P_shortestHead_33 : decode b_P_shortestHead 33 = .ok (.goto (-28), 3) := by decide +kernel
theorem d_P_shortestHead_36 : decode b_P_shortestHead 36 = .ok (.iconst 0, 1) := by decide +kernel
theorem d_P_shortestHead_37 : decode b_P_shortestHead 37 = .ok (.ireturn, 1) := by decide +kernel
theorem d_P_compareRates_0 : decode b_P_compareRates 0 = .ok (.aload_n 0, 1) := by decide +kernel
theorem d_P_compareRates_1 : decode b_P_compareRates 1 = .ok (.getfield 42, 3) := by decide +kernel
theorem d_P_compareRates_4 : decode b_P_compareRates 4 = .ok (.aload_n 1, 1) := by decide +kernel
theorem d_P_compareRates_5 : decode b_P_compareRates 5 = .ok (.getfield 55, 3) := by decide +kernel
theorem d_P_compareRates_8 : decode b_P_compareRates 8 = .ok (.imul, 1) := by decide +kernel
theorem d_P_compareRates_9 : decode b_P_compareRates 9 = .ok (.aload_n 1, 1) := by decide +kernel
theorem d_P_compareRates_10 : decode b_P_compareRates 10 = .ok (.getfield 42, 3) := by decide +kernel
theorem d_P_compareRates_13 : decode b_P_compareRates 13 = .ok (.aload_n 0, 1) := by decide +kernel
theorem d_P_compareRates_14 : decode b_P_compareRates 14 = .ok (.getfield 55, 3) := by decide +kernel
theorem d_P_compareRates_17 : decode b_P_compareRates 17 = .ok (.imul, 1) := by decide +kernel
theorem d_P_compareRates_18 : decode b_P_compareRates 18 = .ok (.invokestatic 160, 3) := by decide +kernel
theorem d_P_compareRates_21 : decode b_P_compareRates 21 = .ok (.ireturn, 1) := by decide +kernel
theorem d_P_mostKept_0 : decode b_P_mostKept 0 = .ok (.aload_n 0, 1) := by decide +kernel
theorem d_P_mostKept_1 : decode b_P_mostKept 1 = .ok (.getfield 52, 3) := by decide +kernel
theorem d_P_mostKept_4 : decode b_P_mostKept 4 = .ok (.aload_n 1, 1) := by decide +kernel
theorem d_P_mostKept_5 : decode b_P_mostKept 5 = .ok (.getfield 52, 3) := by decide +kernel
theorem d_P_mostKept_8 : decode b_P_mostKept 8 = .ok (.invokestatic 127, 3) := by decide +kernel
theorem d_P_mostKept_11 : decode b_P_mostKept 11 = .ok (.aload_n 0, 1) := by decide +kernel
theorem d_P_mostKept_12 : decode b_P_mostKept 12 = .ok (.getfield 55, 3) := by decide +kernel
theorem d_P_mostKept_15 : decode b_P_mostKept 15 = .ok (.aload_n 1, 1) := by decide +kernel
theorem d_P_mostKept_16 : decode b_P_mostKept 16 = .ok (.getfield 55, 3) := by decide +kernel
theorem d_P_mostKept_19 : decode b_P_mostKept 19 = .ok (.invokestatic 132, 3) := by decide +kernel
theorem d_P_mostKept_22 : decode b_P_mostKept 22 = .ok (.iadd, 1) := by decide +kernel
theorem d_P_mostKept_23 : decode b_P_mostKept 23 = .ok (.istore_n 2, 1) := by decide +kernel
theorem d_P_mostKept_24 : decode b_P_mostKept 24 = .ok (.iconst 0, 1) := by decide +kernel
theorem d_P_mostKept_25 : decode b_P_mostKept 25 = .ok (.istore_n 3, 1) := by decide +kernel
theorem d_P_mostKept_26 : decode b_P_mostKept 26 = .ok (.iconst 0, 1) := by decide +kernel
theorem d_P_mostKept_27 : decode b_P_mostKept 27 = .ok (.istore 4, 2) := by decide +kernel
theorem d_P_mostKept_29 : decode b_P_mostKept 29 = .ok (.iconst 0, 1) := by decide +kernel
theorem d_P_mostKept_30 : decode b_P_mostKept 30 = .ok (.istore 5, 2) := by decide +kernel
theorem d_P_mostKept_32 : decode b_P_mostKept 32 = .ok (.iload 5, 2) := by decide +kernel
theorem d_P_mostKept_34 : decode b_P_mostKept 34 = .ok (.iload_n 2, 1) := by decide +kernel
theorem d_P_mostKept_35 : decode b_P_mostKept 35 = .ok (.if_icmp .ge 33, 3) := by decide +kernel
theorem d_P_mostKept_38 : decode b_P_mostKept 38 = .ok (.iload_n 3, 1) := by decide +kernel
theorem d_P_mostKept_39 : decode b_P_mostKept 39 = .ok (.aload_n 0, 1) := by decide +kernel
theorem d_P_mostKept_40 : decode b_P_mostKept 40 = .ok (.iload 5, 2) := by decide +kernel
theorem d_P_mostKept_42 : decode b_P_mostKept 42 = .ok (.invokevirtual 66, 3) := by decide +kernel
theorem d_P_mostKept_45 : decode b_P_mostKept 45 = .ok (.aload_n 1, 1) := by decide +kernel
theorem d_P_mostKept_46 : decode b_P_mostKept 46 = .ok (.iload 5, 2) := by decide +kernel
theorem d_P_mostKept_48 : decode b_P_mostKept 48 = .ok (.invokevirtual 66, 3) := by decide +kernel
theorem d_P_mostKept_51 : decode b_P_mostKept 51 = .ok (.isub, 1) := by decide +kernel
theorem d_P_mostKept_52 : decode b_P_mostKept 52 = .ok (.iadd, 1) := by decide +kernel
theorem d_P_mostKept_53 : decode b_P_mostKept 53 = .ok (.istore_n 3, 1) := by decide +kernel
theorem d_P_mostKept_54 : decode b_P_mostKept 54 = .ok (.iload 4, 2) := by decide +kernel
theorem d_P_mostKept_56 : decode b_P_mostKept 56 = .ok (.iload_n 3, 1) := by decide +kernel
theorem d_P_mostKept_57 : decode b_P_mostKept 57 = .ok (.invokestatic 127, 3) := by decide +kernel
theorem d_P_mostKept_60 : decode b_P_mostKept 60 = .ok (.istore 4, 2) := by decide +kernel
theorem d_P_mostKept_62 : decode b_P_mostKept 62 = .ok (.iinc 5 1, 3) := by decide +kernel
theorem d_P_mostKept_65 : decode b_P_mostKept 65 = .ok (.goto (-33), 3) := by decide +kernel
theorem d_P_mostKept_68 : decode b_P_mostKept 68 = .ok (.iload 4, 2) := by decide +kernel
theorem d_P_mostKept_70 : decode b_P_mostKept 70 = .ok (.ireturn, 1) := by decide +kernel
theorem d_P_leastWait_0 : decode b_P_leastWait 0 = .ok (.aload_n 1, 1) := by decide +kernel
theorem d_P_leastWait_1 : decode b_P_leastWait 1 = .ok (.getfield 42, 3) := by decide +kernel
theorem d_P_leastWait_4 : decode b_P_leastWait 4 = .ok (.ifCond .ne 28, 3) := by decide +kernel
theorem d_P_leastWait_7 : decode b_P_leastWait 7 = .ok (.aload_n 0, 1) := by decide +kernel
theorem d_P_leastWait_8 : decode b_P_leastWait 8 = .ok (.aload_n 1, 1) := by decide +kernel
theorem d_P_leastWait_9 : decode b_P_leastWait 9 = .ok (.getfield 62, 3) := by decide +kernel
theorem d_P_leastWait_12 : decode b_P_leastWait 12 = .ok (.invokevirtual 79, 3) := by decide +kernel
theorem d_P_leastWait_15 : decode b_P_leastWait 15 = .ok (.ifCond .eq 15, 3) := by decide +kernel
theorem d_P_leastWait_18 : decode b_P_leastWait 18 = .ok (.aload_n 0, 1) := by decide +kernel
theorem d_P_leastWait_19 : decode b_P_leastWait 19 = .ok (.aload_n 1, 1) := by decide +kernel
theorem d_P_leastWait_20 : decode b_P_leastWait 20 = .ok (.aload_n 1, 1) := by decide +kernel
theorem d_P_leastWait_21 : decode b_P_leastWait 21 = .ok (.getfield 62, 3) := by decide +kernel
theorem d_P_leastWait_24 : decode b_P_leastWait 24 = .ok (.invokestatic 165, 3) := by decide +kernel
theorem d_P_leastWait_27 : decode b_P_leastWait 27 = .ok (.goto 4, 3) := by decide +kernel
theorem d_P_leastWait_30 : decode b_P_leastWait 30 = .ok (.iconst (-1), 1) := by decide +kernel
theorem d_P_leastWait_31 : decode b_P_leastWait 31 = .ok (.ireturn, 1) := by decide +kernel
theorem d_P_leastWait_32 : decode b_P_leastWait 32 = .ok (.aload_n 0, 1) := by decide +kernel
theorem d_P_leastWait_33 : decode b_P_leastWait 33 = .ok (.aload_n 1, 1) := by decide +kernel
theorem d_P_leastWait_34 : decode b_P_leastWait 34 = .ok (.invokestatic 100, 3) := by decide +kernel
theorem d_P_leastWait_37 : decode b_P_leastWait 37 = .ok (.ifCond .ge 5, 3) := by decide +kernel
theorem d_P_leastWait_40 : decode b_P_leastWait 40 = .ok (.iconst (-1), 1) := by decide +kernel
theorem d_P_leastWait_41 : decode b_P_leastWait 41 = .ok (.ireturn, 1) := by decide +kernel
theorem d_P_leastWait_42 : decode b_P_leastWait 42 = .ok (.aload_n 0, 1) := by decide +kernel
theorem d_P_leastWait_43 : decode b_P_leastWait 43 = .ok (.getfield 62, 3) := by decide +kernel
theorem d_P_leastWait_46 : decode b_P_leastWait 46 = .ok (.aload_n 1, 1) := by decide +kernel
theorem d_P_leastWait_47 : decode b_P_leastWait 47 = .ok (.getfield 62, 3) := by decide +kernel
theorem d_P_leastWait_50 : decode b_P_leastWait 50 = .ok (.invokestatic 127, 3) := by decide +kernel
theorem d_P_leastWait_53 : decode b_P_leastWait 53 = .ok (.aload_n 0, 1) := by decide +kernel
theorem d_P_leastWait_54 : decode b_P_leastWait 54 = .ok (.getfield 42, 3) := by decide +kernel
theorem d_P_leastWait_57 : decode b_P_leastWait 57 = .ok (.aload_n 1, 1) := by decide +kernel
theorem d_P_leastWait_58 : decode b_P_leastWait 58 = .ok (.getfield 42, 3) := by decide +kernel
theorem d_P_leastWait_61 : decode b_P_leastWait 61 = .ok (.invokestatic 132, 3) := by decide +kernel
theorem d_P_leastWait_64 : decode b_P_leastWait 64 = .ok (.iadd, 1) := by decide +kernel
theorem d_P_leastWait_65 : decode b_P_leastWait 65 = .ok (.istore_n 2, 1) := by decide +kernel
theorem d_P_leastWait_66 : decode b_P_leastWait 66 = .ok (.aload_n 0, 1) := by decide +kernel
theorem d_P_leastWait_67 : decode b_P_leastWait 67 = .ok (.aload_n 1, 1) := by decide +kernel
theorem d_P_leastWait_68 : decode b_P_leastWait 68 = .ok (.iload_n 2, 1) := by decide +kernel
theorem d_P_leastWait_69 : decode b_P_leastWait 69 = .ok (.invokestatic 165, 3) := by decide +kernel
theorem d_P_leastWait_72 : decode b_P_leastWait 72 = .ok (.ireturn, 1) := by decide +kernel
theorem d_P_mostBehind_0 : decode b_P_mostBehind 0 = .ok (.iconst 0, 1) := by decide +kernel
theorem d_P_mostBehind_1 : decode b_P_mostBehind 1 = .ok (.istore_n 3, 1) := by decide +kernel
theorem d_P_mostBehind_2 : decode b_P_mostBehind 2 = .ok (.iconst 1, 1) := by decide +kernel
theorem d_P_mostBehind_3 : decode b_P_mostBehind 3 = .ok (.istore 4, 2) := by decide +kernel
theorem d_P_mostBehind_5 : decode b_P_mostBehind 5 = .ok (.iload 4, 2) := by decide +kernel
theorem d_P_mostBehind_7 : decode b_P_mostBehind 7 = .ok (.iload_n 2, 1) := by decide +kernel
theorem d_P_mostBehind_8 : decode b_P_mostBehind 8 = .ok (.if_icmp .gt 27, 3) := by decide +kernel
theorem d_P_mostBehind_11 : decode b_P_mostBehind 11 = .ok (.iload_n 3, 1) := by decide +kernel
theorem d_P_mostBehind_12 : decode b_P_mostBehind 12 = .ok (.aload_n 0, 1) := by decide +kernel
theorem d_P_mostBehind_13 : decode b_P_mostBehind 13 = .ok (.iload 4, 2) := by decide +kernel
theorem d_P_mostBehind_15 : decode b_P_mostBehind 15 = .ok (.invokevirtual 84, 3) := by decide +kernel
theorem d_P_mostBehind_18 : decode b_P_mostBehind 18 = .ok (.aload_n 1, 1) := by decide +kernel
theorem d_P_mostBehind_19 : decode b_P_mostBehind 19 = .ok (.iload 4, 2) := by decide +kernel
theorem d_P_mostBehind_21 : decode b_P_mostBehind 21 = .ok (.invokevirtual 84, 3) := by decide +kernel
theorem d_P_mostBehind_24 : decode b_P_mostBehind 24 = .ok (.isub, 1) := by decide +kernel
theorem d_P_mostBehind_25 : decode b_P_mostBehind 25 = .ok (.invokestatic 127, 3) := by decide +kernel
theorem d_P_mostBehind_28 : decode b_P_mostBehind 28 = .ok (.istore_n 3, 1) := by decide +kernel
theorem d_P_mostBehind_29 : decode b_P_mostBehind 29 = .ok (.iinc 4 1, 3) := by decide +kernel
theorem d_P_mostBehind_32 : decode b_P_mostBehind 32 = .ok (.goto (-27), 3) := by decide +kernel
theorem d_P_mostBehind_35 : decode b_P_mostBehind 35 = .ok (.iload_n 3, 1) := by decide +kernel
theorem d_P_mostBehind_36 : decode b_P_mostBehind 36 = .ok (.ireturn, 1) := by decide +kernel
theorem d_P_commonMultiple_0 : decode b_P_commonMultiple 0 = .ok (.iload_n 0, 1) := by decide +kernel
theorem d_P_commonMultiple_1 : decode b_P_commonMultiple 1 = .ok (.iload_n 0, 1) := by decide +kernel
theorem d_P_commonMultiple_2 : decode b_P_commonMultiple 2 = .ok (.iload_n 1, 1) := by decide +kernel
theorem d_P_commonMultiple_3 : decode b_P_commonMultiple 3 = .ok (.invokestatic 58, 3) := by decide +kernel
theorem d_P_commonMultiple_6 : decode b_P_commonMultiple 6 = .ok (.idiv, 1) := by decide +kernel
theorem d_P_commonMultiple_7 : decode b_P_commonMultiple 7 = .ok (.iload_n 1, 1) := by decide +kernel
theorem d_P_commonMultiple_8 : decode b_P_commonMultiple 8 = .ok (.imul, 1) := by decide +kernel
theorem d_P_commonMultiple_9 : decode b_P_commonMultiple 9 = .ok (.ireturn, 1) := by decide +kernel
theorem d_P_commonDivisor_0 : decode b_P_commonDivisor 0 = .ok (.iload_n 0, 1) := by decide +kernel
theorem d_P_commonDivisor_1 : decode b_P_commonDivisor 1 = .ok (.istore_n 2, 1) := by decide +kernel
theorem d_P_commonDivisor_2 : decode b_P_commonDivisor 2 = .ok (.iload_n 1, 1) := by decide +kernel
theorem d_P_commonDivisor_3 : decode b_P_commonDivisor 3 = .ok (.istore_n 3, 1) := by decide +kernel
theorem d_P_commonDivisor_4 : decode b_P_commonDivisor 4 = .ok (.iconst 0, 1) := by decide +kernel
theorem d_P_commonDivisor_5 : decode b_P_commonDivisor 5 = .ok (.istore 4, 2) := by decide +kernel
theorem d_P_commonDivisor_7 : decode b_P_commonDivisor 7 = .ok (.iload 4, 2) := by decide +kernel
theorem d_P_commonDivisor_9 : decode b_P_commonDivisor 9 = .ok (.bipush 100, 2) := by decide +kernel
theorem d_P_commonDivisor_11 : decode b_P_commonDivisor 11 = .ok (.if_icmp .ge 23, 3) := by decide +kernel
theorem d_P_commonDivisor_14 : decode b_P_commonDivisor 14 = .ok (.iload_n 3, 1) := by decide +kernel
theorem d_P_commonDivisor_15 : decode b_P_commonDivisor 15 = .ok (.ifCond .eq 19, 3) := by decide +kernel
theorem d_P_commonDivisor_18 : decode b_P_commonDivisor 18 = .ok (.iload_n 2, 1) := by decide +kernel
theorem d_P_commonDivisor_19 : decode b_P_commonDivisor 19 = .ok (.iload_n 3, 1) := by decide +kernel
theorem d_P_commonDivisor_20 : decode b_P_commonDivisor 20 = .ok (.irem, 1) := by decide +kernel
theorem d_P_commonDivisor_21 : decode b_P_commonDivisor 21 = .ok (.istore 5, 2) := by decide +kernel
theorem d_P_commonDivisor_23 : decode b_P_commonDivisor 23 = .ok (.iload_n 3, 1) := by decide +kernel
theorem d_P_commonDivisor_24 : decode b_P_commonDivisor 24 = .ok (.istore_n 2, 1) := by decide +kernel
theorem d_P_commonDivisor_25 : decode b_P_commonDivisor 25 = .ok (.iload 5, 2) := by decide +kernel
theorem d_P_commonDivisor_27 : decode b_P_commonDivisor 27 = .ok (.istore_n 3, 1) := by decide +kernel
theorem d_P_commonDivisor_28 : decode b_P_commonDivisor 28 = .ok (.iinc 4 1, 3) := by decide +kernel
theorem d_P_commonDivisor_31 : decode b_P_commonDivisor 31 = .ok (.goto (-24), 3) := by decide +kernel
theorem d_P_commonDivisor_34 : decode b_P_commonDivisor 34 = .ok (.iconst 1, 1) := by decide +kernel
theorem d_P_commonDivisor_35 : decode b_P_commonDivisor 35 = .ok (.iload_n 2, 1) := by decide +kernel
theorem d_P_commonDivisor_36 : decode b_P_commonDivisor 36 = .ok (.invokestatic 127, 3) := by decide +kernel
theorem d_P_commonDivisor_39 : decode b_P_commonDivisor 39 = .ok (.ireturn, 1) := by decide +kernel
end
section
set_option maxHeartbeats 4000000 in
set_option maxRecDepth 100000 in
theorem c_bitCount (l : Launch) (dC : Nat → ClassId) (dI : Nat → Nat → Nat) {x : Nat} (hx1 : x < 2 ^ 64) : Met l y_JL_bitCount ws_JL_bitCount ({ frames := 0, cells := 0, slots := 0, locals := 0 } : Room) (pw_R [.long (lN (x))] dC dI [] []) (vp_Si (fun r => r = nI (pw_p x 64))) 0 0 (fun _ => False) := by
  refine Met.ofW (cc := b_JL_bitCount) (maxL := 2) (ret := (some .int)) (by decide) rfl ?_
  intro p e s m args below meth c s₁ B hml hv
  obtain ⟨rfl, hP, hK⟩ := hv
  have hx := B.exec
  have hb := B.bytes
  have hr := B.returns
  have hts := atoms_spec (ws := ws_JL_bitCount) B.pre
  have hown : s.vm.findClass R_JL = some m.cls := findClass_of_methodNamed B.named
  have hlocks := B.notSynchronized
  obtain ⟨b1, b2, b3, b4, b5⟩ := pw_bd hx1
  obtain ⟨k5, k3, kf⟩ := pw_mm
  have hpop := (pw_pop hx1 rfl).2
  have hl := lv_entry ([.long (lN (x))]) (n := 2) (Nat.le_of_ble_eq_true rfl)
  rw [lg_entry_eq]
  generalize (lg_sl ([.long (lN (x))]) ++ List.replicate (2 - (lg_sl ([.long (lN (x))])).length) Slot.unset).toArray = ls at hl ⊢
  have hl : lv_has ls 2 [(0, .long (lN (x)))] := hl
  refine lv_lload_n hx hb d_JL_bitCount_0 rfl (lv_at hl 0 rfl) ?_
  refine lv_lload_n hx hb d_JL_bitCount_1 rfl (lv_at hl 0 rfl) ?_
  refine lv_iconst (v := nI 1) hx hb d_JL_bitCount_2 (by decide) ?_
  refine lv_lushr hx hb d_JL_bitCount_3 rfl ?_
  refine lv_topl (fun y_1 ey_1 => ?_)
  refine pq_top (y := .long (lN (x / 2))) (by rw [ey_1, pq_ushr hx1 (by decide) (show 2 ^ 1 = 2 from rfl)]) ?_
  refine lv_ldc2 (v := (6148914691236517205)) hx hb hown (hts (.constantLong R_JL 314 (6148914691236517205)) (List.mem_cons_of_mem _ mb_70)) d_JL_bitCount_4 ?_
  refine pq_top (y := .long (lN (pw_m5 8))) (by rw [show (6148914691236517205 : Int64) = lN (pw_m5 8) by decide +kernel]) ?_
  refine lv_land hx hb d_JL_bitCount_7 ?_
  refine lv_topl (fun y_2 ey_2 => ?_)
  refine pq_top (y := .long (lN (x / 2 &&& pw_m5 8))) (by rw [ey_2, wb_and (Nat.lt_of_le_of_lt (Nat.div_le_self _ _) hx1) k5]) ?_
  refine lv_lsub hx hb d_JL_bitCount_8 ?_
  refine lv_topl (fun y_3 ey_3 => ?_)
  refine pq_top (y := .long (lN (pw_y 8 x))) (by rw [ey_3, lN_sub b1]; rfl) ?_
  refine lv_lstore_n (lv' := [(0, .long (lN (pw_y 8 x)))]) hx hb d_JL_bitCount_9 rfl hl (by decide) rfl (fun ls hl => ?_)
  refine lv_lload_n hx hb d_JL_bitCount_10 rfl (lv_at hl 0 rfl) ?_
  refine lv_ldc2 (v := (3689348814741910323)) hx hb hown (hts (.constantLong R_JL 316 (3689348814741910323)) (List.mem_cons_of_mem _ mb_71)) d_JL_bitCount_11 ?_
  refine pq_top (y := .long (lN (pw_m3 8))) (by rw [show (3689348814741910323 : Int64) = lN (pw_m3 8) by decide +kernel]) ?_
  refine lv_land hx hb d_JL_bitCount_14 ?_
  refine lv_topl (fun y_4 ey_4 => ?_)
  refine pq_top (y := .long (lN (pw_y 8 x &&& pw_m3 8))) (by rw [ey_4, wb_and b2 k3]) ?_
  refine lv_lload_n hx hb d_JL_bitCount_15 rfl (lv_at hl 0 rfl) ?_
  refine lv_iconst (v := nI 2) hx hb d_JL_bitCount_16 (by decide) ?_
  refine lv_lushr hx hb d_JL_bitCount_17 rfl ?_
  refine lv_topl (fun y_5 ey_5 => ?_)
  refine pq_top (y := .long (lN (pw_y 8 x / 4))) (by rw [ey_5, pq_ushr b2 (by decide) (show 2 ^ 2 = 4 from rfl)]) ?_
  refine lv_ldc2 (v := (3689348814741910323)) hx hb hown (hts (.constantLong R_JL 316 (3689348814741910323)) (List.mem_cons_of_mem _ mb_71)) d_JL_bitCount_18 ?_
  refine pq_top (y := .long (lN (pw_m3 8))) (by rw [show (3689348814741910323 : Int64) = lN (pw_m3 8) by decide +kernel]) ?_
  refine lv_land hx hb d_JL_bitCount_21 ?_
  refine lv_topl (fun y_6 ey_6 => ?_)
  refine pq_top (y := .long (lN (pw_y 8 x / 4 &&& pw_m3 8))) (by rw [ey_6, wb_and (Nat.lt_of_le_of_lt (Nat.div_le_self _ _) b2) k3]) ?_
  refine lv_ladd hx hb d_JL_bitCount_22 ?_
  refine lv_topl (fun y_7 ey_7 => ?_)
  refine pq_top (y := .long (lN (pw_z 8 (pw_y 8 x)))) (by rw [ey_7, lN_add]; rfl) ?_
  refine lv_lstore_n (lv' := [(0, .long (lN (pw_z 8 (pw_y 8 x))))]) hx hb d_JL_bitCount_23 rfl hl (by decide) rfl (fun ls hl => ?_)
  refine lv_lload_n hx hb d_JL_bitCount_24 rfl (lv_at hl 0 rfl) ?_
  refine lv_lload_n hx hb d_JL_bitCount_25 rfl (lv_at hl 0 rfl) ?_
  refine lv_iconst (v := nI 4) hx hb d_JL_bitCount_26 (by decide) ?_
  refine lv_lushr hx hb d_JL_bitCount_27 rfl ?_
  refine lv_topl (fun y_8 ey_8 => ?_)
  refine pq_top (y := .long (lN (pw_z 8 (pw_y 8 x) / 16))) (by rw [ey_8, pq_ushr b3 (by decide) (show 2 ^ 4 = 16 from rfl)]) ?_
  refine lv_ladd hx hb d_JL_bitCount_28 ?_
  refine lv_topl (fun y_9 ey_9 => ?_)
  refine pq_top (y := .long (lN (pw_z 8 (pw_y 8 x) + pw_z 8 (pw_y 8 x) / 16))) (by rw [ey_9, lN_add]) ?_
  refine lv_ldc2 (v := (1085102592571150095)) hx hb hown (hts (.constantLong R_JL 318 (1085102592571150095)) (List.mem_cons_of_mem _ mb_72)) d_JL_bitCount_29 ?_
  refine pq_top (y := .long (lN (pw_mf 8))) (by rw [show (1085102592571150095 : Int64) = lN (pw_mf 8) by decide +kernel]) ?_
  refine lv_land hx hb d_JL_bitCount_32 ?_
  refine lv_topl (fun y_10 ey_10 => ?_)
  refine pq_top (y := .long (lN (pw_q 8 x))) (by rw [ey_10, wb_and b4 kf]; rfl) ?_
  refine lv_lstore_n (lv' := [(0, .long (lN (pw_q 8 x)))]) hx hb d_JL_bitCount_33 rfl hl (by decide) rfl (fun ls hl => ?_)
  refine lv_lload_n hx hb d_JL_bitCount_34 rfl (lv_at hl 0 rfl) ?_
  refine lv_lload_n hx hb d_JL_bitCount_35 rfl (lv_at hl 0 rfl) ?_
  refine lv_bipush (v := nI 8) hx hb d_JL_bitCount_36 (by decide) ?_
  refine lv_lushr hx hb d_JL_bitCount_38 rfl ?_
  refine lv_topl (fun y_11 ey_11 => ?_)
  refine pq_top (y := .long (lN (pw_q 8 x / 256))) (by rw [ey_11, pq_ushr (by omega) (by decide) (show 2 ^ 8 = 256 from rfl)]) ?_
  refine lv_ladd hx hb d_JL_bitCount_39 ?_
  refine lv_topl (fun y_12 ey_12 => ?_)
  refine pq_top (y := .long (lN (pw_q 8 x + pw_q 8 x / 256))) (by rw [ey_12, lN_add]) ?_
  refine lv_lstore_n (lv' := [(0, .long (lN (pw_q 8 x + pw_q 8 x / 256)))]) hx hb d_JL_bitCount_40 rfl hl (by decide) rfl (fun ls hl => ?_)
  refine lv_lload_n hx hb d_JL_bitCount_41 rfl (lv_at hl 0 rfl) ?_
  refine lv_lload_n hx hb d_JL_bitCount_42 rfl (lv_at hl 0 rfl) ?_
  refine lv_bipush (v := nI 16) hx hb d_JL_bitCount_43 (by decide) ?_
  refine lv_lushr hx hb d_JL_bitCount_45 rfl ?_
  refine lv_topl (fun y_13 ey_13 => ?_)
  refine pq_top (y := .long (lN ((pw_q 8 x + pw_q 8 x / 256) / 65536))) (by rw [ey_13, pq_ushr (by omega) (by decide) (show 2 ^ 16 = 65536 from rfl)]) ?_
  refine lv_ladd hx hb d_JL_bitCount_46 ?_
  refine lv_topl (fun y_14 ey_14 => ?_)
  refine pq_top (y := .long (lN (pw_q 8 x + pw_q 8 x / 256 + (pw_q 8 x + pw_q 8 x / 256) / 65536))) (by rw [ey_14, lN_add]) ?_
  refine lv_lstore_n (lv' := [(0, .long (lN (pw_q 8 x + pw_q 8 x / 256 + (pw_q 8 x + pw_q 8 x / 256) / 65536)))]) hx hb d_JL_bitCount_47 rfl hl (by decide) rfl (fun ls hl => ?_)
  refine lv_lload_n hx hb d_JL_bitCount_48 rfl (lv_at hl 0 rfl) ?_
  refine lv_lload_n hx hb d_JL_bitCount_49 rfl (lv_at hl 0 rfl) ?_
  refine lv_bipush (v := nI 32) hx hb d_JL_bitCount_50 (by decide) ?_
  refine lv_lushr hx hb d_JL_bitCount_52 rfl ?_
  refine lv_topl (fun y_15 ey_15 => ?_)
  refine pq_top (y := .long (lN ((pw_q 8 x + pw_q 8 x / 256 + (pw_q 8 x + pw_q 8 x / 256) / 65536) / 4294967296))) (by rw [ey_15, pq_ushr (by omega) (by decide) (show 2 ^ 32 = 4294967296 from rfl)]) ?_
  refine lv_ladd hx hb d_JL_bitCount_53 ?_
  refine lv_topl (fun y_16 ey_16 => ?_)
  refine pq_top (y := .long (lN (pw_q 8 x + pw_q 8 x / 256 + (pw_q 8 x + pw_q 8 x / 256) / 65536 + (pw_q 8 x + pw_q 8 x / 256 + (pw_q 8 x + pw_q 8 x / 256) / 65536) / 4294967296))) (by rw [ey_16, lN_add]) ?_
  refine lv_lstore_n (lv' := [(0, .long (lN (pw_q 8 x + pw_q 8 x / 256 + (pw_q 8 x + pw_q 8 x / 256) / 65536 + (pw_q 8 x + pw_q 8 x / 256 + (pw_q 8 x + pw_q 8 x / 256) / 65536) / 4294967296)))]) hx hb d_JL_bitCount_54 rfl hl (by decide) rfl (fun ls hl => ?_)
  refine lv_lload_n hx hb d_JL_bitCount_55 rfl (lv_at hl 0 rfl) ?_
  refine lv_l2i hx hb d_JL_bitCount_56 rfl ?_
  refine lv_topi (fun x_17 ex_17 => ?_)
  refine pq_top (y := .int (nI (pw_q 8 x + pw_q 8 x / 256 + (pw_q 8 x + pw_q 8 x / 256) / 65536 + (pw_q 8 x + pw_q 8 x / 256 + (pw_q 8 x + pw_q 8 x / 256) / 65536) / 4294967296))) (by rw [ex_17, lN_i]) ?_
  refine lv_bipush (v := nI 127) hx hb d_JL_bitCount_57 (by decide) ?_
  refine lv_iand hx hb d_JL_bitCount_59 ?_
  refine lv_topi (fun x_18 ex_18 => ?_)
  refine pq_top (y := .int (nI ((pw_q 8 x + pw_q 8 x / 256 + (pw_q 8 x + pw_q 8 x / 256) / 65536 + (pw_q 8 x + pw_q 8 x / 256 + (pw_q 8 x + pw_q 8 x / 256) / 65536) / 4294967296) % 128))) (by rw [ex_18, pq_127]) ?_
  exact W.iret (v := (nI ((pw_q 8 x + pw_q 8 x / 256 + (pw_q 8 x + pw_q 8 x / 256) / 65536 + (pw_q 8 x + pw_q 8 x / 256 + (pw_q 8 x + pw_q 8 x / 256) / 65536) / 4294967296) % 128))) hx hb hr (fun t_ ht_ hW_ => ⟨_, rfl, by (try dsimp only); rw [hpop], ht_⟩) (fun q h => absurd h List.not_mem_nil) d_JL_bitCount_60
set_option maxHeartbeats 4000000 in
set_option maxRecDepth 100000 in
theorem c_W_lowest (l : Launch) (dC : Nat → ClassId) (dI : Nat → Nat → Nat) {k : Nat} (hk : k ≤ 60) : Met l y_W_lowest ws_W_lowest ({ frames := 0, cells := 0, slots := 0, locals := 0 } : Room) (pw_R [.int (nI (k))] dC dI [] []) (vp_Sl (fun r => r = lN (2 ^ k - 1))) 0 0 (fun _ => False) := by
  refine Met.ofW (cc := b_W_lowest) (maxL := 1) (ret := (some .long)) (by decide) rfl ?_
  intro p e s m args below meth c s₁ B hml hv
  obtain ⟨rfl, hP, hK⟩ := hv
  have hx := B.exec
  have hb := B.bytes
  have hr := B.returns
  have hts := atoms_spec (ws := ws_W_lowest) B.pre
  have hown : s.vm.findClass R_W = some m.cls := findClass_of_methodNamed B.named
  have hlocks := B.notSynchronized
  have h1 : 1 ≤ 2 ^ k := Nat.one_le_two_pow
  have hl := lv_entry ([.int (nI (k))]) (n := 1) (Nat.le_of_ble_eq_true rfl)
  rw [lg_entry_eq]
  generalize (lg_sl ([.int (nI (k))]) ++ List.replicate (1 - (lg_sl ([.int (nI (k))])).length) Slot.unset).toArray = ls at hl ⊢
  have hl : lv_has ls 1 [(0, .int (nI (k)))] := hl
  refine lv_lconst (v := lN 1) hx hb d_W_lowest_0 (by decide) ?_
  refine lv_iload_n hx hb d_W_lowest_1 rfl (lv_at hl 0 rfl) ?_
  refine lv_lshl hx hb d_W_lowest_2 rfl ?_
  refine lv_topl (fun y_1 ey_1 => ?_)
  refine pq_top (y := .long (lN (2 ^ k))) (by rw [ey_1, pq_lshl 1 (show k < 64 by omega), Nat.one_mul]) ?_
  refine lv_lconst (v := lN 1) hx hb d_W_lowest_3 (by decide) ?_
  refine lv_lsub hx hb d_W_lowest_4 ?_
  refine lv_topl (fun y_2 ey_2 => ?_)
  refine pq_top (y := .long (lN (2 ^ k - 1))) (by rw [ey_2, lN_sub h1]) ?_
  exact W.lret (v := (lN (2 ^ k - 1))) hx hb hr (fun t_ ht_ hW_ => ⟨_, rfl, rfl, ht_⟩) (fun q h => absurd h List.not_mem_nil) d_W_lowest_5
set_option maxHeartbeats 4000000 in
set_option maxRecDepth 100000 in
theorem c_W_bitAt (l : Launch) (dC : Nat → ClassId) (dI : Nat → Nat → Nat) {a q h pp : Nat} {cA : ClassId} {f : Nat → Bool} {pl : Nat → Int32} (hw : wd_ok h pp f) {t : Nat} (ht : t < 1073741824) : Met l y_W_bitAt ws_W_bitAt ({ frames := 0, cells := 0, slots := 0, locals := 0 } : Room) (pw_R [.ref a, .int (nI (t))] dC dI [(cA, .int)] (wd a q cA h pp f pl)) (vp_Si (fun r => r = nI (f t).toNat)) 0 0 (fun _ => False) := by
  refine Met.ofW (cc := b_W_bitAt) (maxL := 2) (ret := (some .int)) (by decide) rfl ?_
  intro p e s m args below meth c s₁ B hml hv
  obtain ⟨rfl, hP, hK⟩ := hv
  have hx := B.exec
  have hb := B.bytes
  have hr := B.returns
  have hts := atoms_spec (ws := ws_W_bitAt) B.pre
  have hown : s.vm.findClass R_W = some m.cls := findClass_of_methodNamed B.named
  have hlocks := B.notSynchronized
  have hw0 := hw; obtain ⟨hh, hp0, hp6, hE⟩ := hw0
  have ho := pw_o_le f h pp
  have hc := pw_c_le f h
  have hb0 := pq_lt60 (pw_b_lt f 0 h) hh
  have hb1 := pq_lt60 (pw_b_lt f h pp) hp6
  have hz := pq_p60
  have hl := lv_entry ([.ref a, .int (nI (t))]) (n := 2) (Nat.le_of_ble_eq_true rfl)
  rw [lg_entry_eq]
  generalize (lg_sl ([.ref a, .int (nI (t))]) ++ List.replicate (2 - (lg_sl ([.ref a, .int (nI (t))])).length) Slot.unset).toArray = ls at hl ⊢
  have hl : lv_has ls 2 [(0, .ref a), (1, .int (nI (t)))] := hl
  refine lv_iload_n hx hb d_W_bitAt_0 rfl (lv_at hl 1 rfl) ?_
  refine lv_aload_n hx hb d_W_bitAt_1 rfl (lv_at hl 0 rfl) ?_
  refine va_get (D := (dC, dI)) (ci := ciW) (v := .int (nI (h))) (C := R_W) (T := F_W) (N := 7) hx hb hts (fun w h => List.mem_cons_of_mem _ (in_W w h)) hown hK hP 0 rfl rfl 0 (by decide) (hts (.fieldLink R_W 9 "PeriodWords$Word" "headLength" "I") (List.mem_cons_of_mem _ mb_76)) (fun _ h9 => h9) rfl d_W_bitAt_2 ?_
  refine pq_icmp_ge (tgt := 18) (a := t) (b := h) hx hb d_W_bitAt_5 (by decide) (by omega) (by omega) (fun c_5 => ?_) (fun c_5 => ?_)
  · have hb2 : pw_b f h pp < 2 ^ 64 := Nat.lt_trans hb1 hz.2
    have hm := Nat.mod_lt (t - h) hp0
    refine lv_aload_n hx hb d_W_bitAt_18 rfl (lv_at hl 0 rfl) ?_
    refine va_get (D := (dC, dI)) (ci := ciW) (v := .long (lN (pw_b f h pp))) (C := R_W) (T := F_W) (N := 7) hx hb hts (fun w h => List.mem_cons_of_mem _ (in_W w h)) hown hK hP 0 rfl rfl 3 (by decide) (hts (.fieldLink R_W 32 "PeriodWords$Word" "ringBits" "J") (List.mem_cons_of_mem _ mb_82)) (fun _ h9 => h9) rfl d_W_bitAt_19 ?_
    refine lv_iload_n hx hb d_W_bitAt_22 rfl (lv_at hl 1 rfl) ?_
    refine lv_aload_n hx hb d_W_bitAt_23 rfl (lv_at hl 0 rfl) ?_
    refine va_get (D := (dC, dI)) (ci := ciW) (v := .int (nI (h))) (C := R_W) (T := F_W) (N := 7) hx hb hts (fun w h => List.mem_cons_of_mem _ (in_W w h)) hown hK hP 0 rfl rfl 0 (by decide) (hts (.fieldLink R_W 9 "PeriodWords$Word" "headLength" "I") (List.mem_cons_of_mem _ mb_76)) (fun _ h9 => h9) rfl d_W_bitAt_24 ?_
    refine pq_isub (a := t) (b := h) hx hb d_W_bitAt_27 (by omega) ?_
    refine lv_aload_n hx hb d_W_bitAt_28 rfl (lv_at hl 0 rfl) ?_
    refine va_get (D := (dC, dI)) (ci := ciW) (v := .int (nI (pp))) (C := R_W) (T := F_W) (N := 7) hx hb hts (fun w h => List.mem_cons_of_mem _ (in_W w h)) hown hK hP 0 rfl rfl 2 (by decide) (hts (.fieldLink R_W 29 "PeriodWords$Word" "ringLength" "I") (List.mem_cons_of_mem _ mb_80)) (fun _ h9 => h9) rfl d_W_bitAt_29 ?_
    refine pq_irem (a := (t - h)) (b := pp) hx hb d_W_bitAt_32 (by omega) (by omega) (by omega) ?_
    refine lv_lushr hx hb d_W_bitAt_33 rfl ?_
    refine lv_topl (fun y_1 ey_1 => ?_)
    refine pq_top (y := .long (lN (pw_b f h pp / 2 ^ ((t - h) % pp)))) (by rw [ey_1, pq_lushr hb2 (by omega)]) ?_
    refine lv_l2i hx hb d_W_bitAt_34 rfl ?_
    refine lv_topi (fun x_2 ex_2 => ?_)
    refine pq_top (y := .int (nI (pw_b f h pp / 2 ^ ((t - h) % pp)))) (by rw [ex_2, lN_i]) ?_
    refine lv_iconst (v := nI 1) hx hb d_W_bitAt_35 (by decide) ?_
    refine lv_iand hx hb d_W_bitAt_36 ?_
    refine lv_topi (fun x_3 ex_3 => ?_)
    refine pq_top (y := .int (nI ((f t).toNat))) (by rw [ex_3, pq_and1, pq_bitN, pw_b_t f h pp _ hm, pw_at hE c_5]) ?_
    exact W.iret (v := (nI ((f t).toNat))) hx hb hr (fun t_ ht_ hW_ => ⟨_, rfl, rfl, ht_⟩) (fun q h => absurd h List.not_mem_nil) d_W_bitAt_37
  · have hb2 : pw_b f 0 h < 2 ^ 64 := Nat.lt_trans hb0 hz.2
    refine lv_aload_n hx hb d_W_bitAt_8 rfl (lv_at hl 0 rfl) ?_
    refine va_get (D := (dC, dI)) (ci := ciW) (v := .long (lN (pw_b f 0 h))) (C := R_W) (T := F_W) (N := 7) hx hb hts (fun w h => List.mem_cons_of_mem _ (in_W w h)) hown hK hP 0 rfl rfl 1 (by decide) (hts (.fieldLink R_W 19 "PeriodWords$Word" "headBits" "J") (List.mem_cons_of_mem _ mb_78)) (fun _ h9 => h9) rfl d_W_bitAt_9 ?_
    refine lv_iload_n hx hb d_W_bitAt_12 rfl (lv_at hl 1 rfl) ?_
    refine lv_lushr hx hb d_W_bitAt_13 rfl ?_
    refine lv_topl (fun y_4 ey_4 => ?_)
    refine pq_top (y := .long (lN (pw_b f 0 h / 2 ^ t))) (by rw [ey_4, pq_lushr hb2 (by omega)]) ?_
    refine lv_l2i hx hb d_W_bitAt_14 rfl ?_
    refine lv_topi (fun x_5 ex_5 => ?_)
    refine pq_top (y := .int (nI (pw_b f 0 h / 2 ^ t))) (by rw [ex_5, lN_i]) ?_
    refine lv_iconst (v := nI 1) hx hb d_W_bitAt_15 (by decide) ?_
    refine lv_iand hx hb d_W_bitAt_16 ?_
    refine lv_topi (fun x_6 ex_6 => ?_)
    refine pq_top (y := .int (nI ((f t).toNat))) (by rw [ex_6, pq_and1, pq_bitN, pw_b_t f 0 h t c_5, Nat.zero_add]) ?_
    exact W.iret (v := (nI ((f t).toNat))) hx hb hr (fun t_ ht_ hW_ => ⟨_, rfl, rfl, ht_⟩) (fun q h => absurd h List.not_mem_nil) d_W_bitAt_17
set_option maxHeartbeats 4000000 in
set_option maxRecDepth 100000 in
theorem c_W_onesBefore (l : Launch) (dC : Nat → ClassId) (dI : Nat → Nat → Nat) {a q h pp : Nat} {cA : ClassId} {f : Nat → Bool} {pl : Nat → Int32} (hw : wd_ok h pp f) {t : Nat} (ht : t < 1073741824) : Met l y_W_onesBefore ws_W_onesBefore ({ frames := 1, cells := 0, slots := 0, locals := 21 } : Room) (pw_R [.ref a, .int (nI (t))] dC dI [(cA, .int)] (wd a q cA h pp f pl)) (vp_Si (fun r => r = nI (pw_c f t))) 0 0 (fun _ => False) := by
  refine Met.ofW (cc := b_W_onesBefore) (maxL := 4) (ret := (some .int)) (by decide) rfl ?_
  intro p e s m args below meth c s₁ B hml hv
  obtain ⟨rfl, hP, hK⟩ := hv
  have hx := B.exec
  have hb := B.bytes
  have hr := B.returns
  have hts := atoms_spec (ws := ws_W_onesBefore) B.pre
  have hown : s.vm.findClass R_W = some m.cls := findClass_of_methodNamed B.named
  have hlocks := B.notSynchronized
  have hw0 := hw; obtain ⟨hh, hp0, hp6, hE⟩ := hw0
  have ho := pw_o_le f h pp
  have hc := pw_c_le f h
  have hb0 := pq_lt60 (pw_b_lt f 0 h) hh
  have hb1 := pq_lt60 (pw_b_lt f h pp) hp6
  have hz := pq_p60
  have hl := lv_entry ([.ref a, .int (nI (t))]) (n := 4) (Nat.le_of_ble_eq_true rfl)
  rw [lg_entry_eq]
  generalize (lg_sl ([.ref a, .int (nI (t))]) ++ List.replicate (4 - (lg_sl ([.ref a, .int (nI (t))])).length) Slot.unset).toArray = ls at hl ⊢
  have hl : lv_has ls 4 [(0, .ref a), (1, .int (nI (t)))] := hl
  refine lv_iload_n hx hb d_W_onesBefore_0 rfl (lv_at hl 1 rfl) ?_
  refine lv_aload_n hx hb d_W_onesBefore_1 rfl (lv_at hl 0 rfl) ?_
  refine va_get (D := (dC, dI)) (ci := ciW) (v := .int (nI (h))) (C := R_W) (T := F_W) (N := 7) hx hb hts (fun w h => List.mem_cons_of_mem _ (in_W w h)) hown hK hP 0 rfl rfl 0 (by decide) (hts (.fieldLink R_W 9 "PeriodWords$Word" "headLength" "I") (List.mem_cons_of_mem _ mb_76)) (fun _ h9 => h9) rfl d_W_onesBefore_2 ?_
  refine pq_icmp_gt (tgt := 21) (a := t) (b := h) hx hb d_W_onesBefore_5 (by decide) (by omega) (by omega) (fun c_5 => ?_) (fun c_5 => ?_)
  · have hb2 : pw_b f h pp < 2 ^ 64 := Nat.lt_trans hb1 hz.2
    have hm := Nat.mod_lt (t - h) hp0
    have hb3 : pw_b f h pp % 2 ^ ((t - h) % pp) < 2 ^ 64 := Nat.lt_of_le_of_lt (Nat.mod_le _ _) hb2
    refine lv_iload_n hx hb d_W_onesBefore_21 rfl (lv_at hl 1 rfl) ?_
    refine lv_aload_n hx hb d_W_onesBefore_22 rfl (lv_at hl 0 rfl) ?_
    refine va_get (D := (dC, dI)) (ci := ciW) (v := .int (nI (h))) (C := R_W) (T := F_W) (N := 7) hx hb hts (fun w h => List.mem_cons_of_mem _ (in_W w h)) hown hK hP 0 rfl rfl 0 (by decide) (hts (.fieldLink R_W 9 "PeriodWords$Word" "headLength" "I") (List.mem_cons_of_mem _ mb_76)) (fun _ h9 => h9) rfl d_W_onesBefore_23 ?_
    refine pq_isub (a := t) (b := h) hx hb d_W_onesBefore_26 (by omega) ?_
    refine lv_istore_n (lv' := [(2, .int (nI (t - h))), (0, .ref a), (1, .int (nI (t)))]) hx hb d_W_onesBefore_27 rfl hl (by decide) rfl (fun ls hl => ?_)
    refine lv_aload_n hx hb d_W_onesBefore_28 rfl (lv_at hl 1 rfl) ?_
    refine va_get (D := (dC, dI)) (ci := ciW) (v := .long (lN (pw_b f h pp))) (C := R_W) (T := F_W) (N := 7) hx hb hts (fun w h => List.mem_cons_of_mem _ (in_W w h)) hown hK hP 0 rfl rfl 3 (by decide) (hts (.fieldLink R_W 32 "PeriodWords$Word" "ringBits" "J") (List.mem_cons_of_mem _ mb_82)) (fun _ h9 => h9) rfl d_W_onesBefore_29 ?_
    refine lv_iload_n hx hb d_W_onesBefore_32 rfl (lv_at hl 0 rfl) ?_
    refine lv_aload_n hx hb d_W_onesBefore_33 rfl (lv_at hl 1 rfl) ?_
    refine va_get (D := (dC, dI)) (ci := ciW) (v := .int (nI (pp))) (C := R_W) (T := F_W) (N := 7) hx hb hts (fun w h => List.mem_cons_of_mem _ (in_W w h)) hown hK hP 0 rfl rfl 2 (by decide) (hts (.fieldLink R_W 29 "PeriodWords$Word" "ringLength" "I") (List.mem_cons_of_mem _ mb_80)) (fun _ h9 => h9) rfl d_W_onesBefore_34 ?_
    refine pq_irem (a := (t - h)) (b := pp) hx hb d_W_onesBefore_37 (by omega) (by omega) (by omega) ?_
    refine vp_callSl (W.runS (As := [.int (nI ((t - h) % pp))]) (rest := [.long (lN (pw_b f h pp))]) ⟨hx, hb, hml, hown, hts⟩ (c_W_lowest l dC dI (k := (t - h) % pp) (by omega)) (va_cwS 1 hts (gd_S mb_61 mb_62 mb_24 mb_63) rfl rfl rfl (by decide +kernel) ⟨Nat.le_of_ble_eq_true rfl, Nat.le_of_ble_eq_true rfl⟩) (pw_R_S pw_P0 (hK.sub [] rfl)) rfl rfl hl.1 rfl (lv_room (Nat.le_of_ble_eq_true rfl)) d_W_onesBefore_38 ⟨Nat.le_of_ble_eq_true rfl, Nat.le_of_ble_eq_true rfl⟩) (fun r_1 hr_1 => ?_)
    subst hr_1
    refine lv_land hx hb d_W_onesBefore_41 ?_
    refine lv_topl (fun y_2 ey_2 => ?_)
    refine pq_top (y := .long (lN (pw_b f h pp % 2 ^ ((t - h) % pp)))) (by rw [ey_2, pq_mask hb2 (by omega)]) ?_
    refine vp_callSi (W.runS (As := [.long (lN (pw_b f h pp % 2 ^ ((t - h) % pp)))]) (rest := []) ⟨hx, hb, hml, hown, hts⟩ (c_bitCount l dC dI (x := pw_b f h pp % 2 ^ ((t - h) % pp)) hb3) (va_cwS 1 hts (gd_S mb_67 mb_68 mb_26 mb_69) rfl rfl rfl (by decide +kernel) ⟨Nat.le_of_ble_eq_true rfl, Nat.le_of_ble_eq_true rfl⟩) (pw_R_S pw_P0 (hK.sub [] rfl)) rfl rfl hl.1 rfl (lv_room (Nat.le_of_ble_eq_true rfl)) d_W_onesBefore_42 ⟨Nat.le_of_ble_eq_true rfl, Nat.le_of_ble_eq_true rfl⟩) (fun r_3 hr_3 => ?_)
    subst hr_3
    refine lv_istore_n (lv' := [(3, .int (nI (pw_p (pw_b f h pp % 2 ^ ((t - h) % pp)) 64))), (2, .int (nI (t - h))), (0, .ref a), (1, .int (nI (t)))]) hx hb d_W_onesBefore_45 rfl hl (by decide) rfl (fun ls hl => ?_)
    refine lv_aload_n hx hb d_W_onesBefore_46 rfl (lv_at hl 2 rfl) ?_
    refine va_get (D := (dC, dI)) (ci := ciW) (v := .int (nI (pw_c f h))) (C := R_W) (T := F_W) (N := 7) hx hb hts (fun w h => List.mem_cons_of_mem _ (in_W w h)) hown hK hP 0 rfl rfl 4 (by decide) (hts (.fieldLink R_W 41 "PeriodWords$Word" "headOnes" "I") (List.mem_cons_of_mem _ mb_84)) (fun _ h9 => h9) rfl d_W_onesBefore_47 ?_
    refine lv_iload_n hx hb d_W_onesBefore_50 rfl (lv_at hl 1 rfl) ?_
    refine lv_aload_n hx hb d_W_onesBefore_51 rfl (lv_at hl 2 rfl) ?_
    refine va_get (D := (dC, dI)) (ci := ciW) (v := .int (nI (pp))) (C := R_W) (T := F_W) (N := 7) hx hb hts (fun w h => List.mem_cons_of_mem _ (in_W w h)) hown hK hP 0 rfl rfl 2 (by decide) (hts (.fieldLink R_W 29 "PeriodWords$Word" "ringLength" "I") (List.mem_cons_of_mem _ mb_80)) (fun _ h9 => h9) rfl d_W_onesBefore_52 ?_
    refine pq_idiv (a := (t - h)) (b := pp) hx hb d_W_onesBefore_55 (by omega) (by omega) (by omega) ?_
    refine lv_aload_n hx hb d_W_onesBefore_56 rfl (lv_at hl 2 rfl) ?_
    refine va_get (D := (dC, dI)) (ci := ciW) (v := .int (nI (pw_o f h pp))) (C := R_W) (T := F_W) (N := 7) hx hb hts (fun w h => List.mem_cons_of_mem _ (in_W w h)) hown hK hP 0 rfl rfl 5 (by decide) (hts (.fieldLink R_W 44 "PeriodWords$Word" "ringOnes" "I") (List.mem_cons_of_mem _ mb_86)) (fun _ h9 => h9) rfl d_W_onesBefore_57 ?_
    refine pq_imul (a := ((t - h) / pp)) (b := (pw_o f h pp)) hx hb d_W_onesBefore_60 ?_
    refine pq_iadd (a := (pw_c f h)) (b := (((t - h) / pp) * (pw_o f h pp))) hx hb d_W_onesBefore_61 ?_
    refine lv_iload_n hx hb d_W_onesBefore_62 rfl (lv_at hl 0 rfl) ?_
    refine pq_iadd (a := ((pw_c f h) + (((t - h) / pp) * (pw_o f h pp)))) (b := (pw_p (pw_b f h pp % 2 ^ ((t - h) % pp)) 64)) hx hb d_W_onesBefore_63 ?_
    exact W.iret (v := (nI (((pw_c f h) + (((t - h) / pp) * (pw_o f h pp))) + (pw_p (pw_b f h pp % 2 ^ ((t - h) % pp)) 64)))) hx hb hr (fun t_ ht_ hW_ => ⟨_, rfl, by (try dsimp only); rw [pq_p_mod _ _ _ (by omega), pw_p_b f h pp _ (by omega), pw_c_far hE (show h ≤ t by omega), Nat.add_assoc], ht_⟩) (fun q h => absurd h List.not_mem_nil) d_W_onesBefore_64
  · have hb2 : pw_b f 0 h < 2 ^ 64 := Nat.lt_trans hb0 hz.2
    have hb3 : pw_b f 0 h % 2 ^ t < 2 ^ 64 := Nat.lt_of_le_of_lt (Nat.mod_le _ _) hb2
    refine lv_aload_n hx hb d_W_onesBefore_8 rfl (lv_at hl 0 rfl) ?_
    refine va_get (D := (dC, dI)) (ci := ciW) (v := .long (lN (pw_b f 0 h))) (C := R_W) (T := F_W) (N := 7) hx hb hts (fun w h => List.mem_cons_of_mem _ (in_W w h)) hown hK hP 0 rfl rfl 1 (by decide) (hts (.fieldLink R_W 19 "PeriodWords$Word" "headBits" "J") (List.mem_cons_of_mem _ mb_78)) (fun _ h9 => h9) rfl d_W_onesBefore_9 ?_
    refine lv_iload_n hx hb d_W_onesBefore_12 rfl (lv_at hl 1 rfl) ?_
    refine vp_callSl (W.runS (As := [.int (nI (t))]) (rest := [.long (lN (pw_b f 0 h))]) ⟨hx, hb, hml, hown, hts⟩ (c_W_lowest l dC dI (k := t) (by omega)) (va_cwS 1 hts (gd_S mb_61 mb_62 mb_24 mb_63) rfl rfl rfl (by decide +kernel) ⟨Nat.le_of_ble_eq_true rfl, Nat.le_of_ble_eq_true rfl⟩) (pw_R_S pw_P0 (hK.sub [] rfl)) rfl rfl hl.1 rfl (lv_room (Nat.le_of_ble_eq_true rfl)) d_W_onesBefore_13 ⟨Nat.le_of_ble_eq_true rfl, Nat.le_of_ble_eq_true rfl⟩) (fun r_4 hr_4 => ?_)
    subst hr_4
    refine lv_land hx hb d_W_onesBefore_16 ?_
    refine lv_topl (fun y_5 ey_5 => ?_)
    refine pq_top (y := .long (lN (pw_b f 0 h % 2 ^ t))) (by rw [ey_5, pq_mask hb2 (by omega)]) ?_
    refine vp_callSi (W.runS (As := [.long (lN (pw_b f 0 h % 2 ^ t))]) (rest := []) ⟨hx, hb, hml, hown, hts⟩ (c_bitCount l dC dI (x := pw_b f 0 h % 2 ^ t) hb3) (va_cwS 1 hts (gd_S mb_67 mb_68 mb_26 mb_69) rfl rfl rfl (by decide +kernel) ⟨Nat.le_of_ble_eq_true rfl, Nat.le_of_ble_eq_true rfl⟩) (pw_R_S pw_P0 (hK.sub [] rfl)) rfl rfl hl.1 rfl (lv_room (Nat.le_of_ble_eq_true rfl)) d_W_onesBefore_17 ⟨Nat.le_of_ble_eq_true rfl, Nat.le_of_ble_eq_true rfl⟩) (fun r_6 hr_6 => ?_)
    subst hr_6
    exact W.iret (v := (nI (pw_p (pw_b f 0 h % 2 ^ t) 64))) hx hb hr (fun t_ ht_ hW_ => ⟨_, rfl, by (try dsimp only); rw [pq_p_mod _ _ _ (by omega), pw_p_b f 0 h t (by omega)]; congr 1; exact pw_c_congr (fun i _ => by rw [Nat.zero_add]), ht_⟩) (fun q h => absurd h List.not_mem_nil) d_W_onesBefore_20
set_option maxHeartbeats 4000000 in
set_option maxRecDepth 100000 in
theorem c_W_hasOne (l : Launch) (dC : Nat → ClassId) (dI : Nat → Nat → Nat) {a q h pp : Nat} {cA : ClassId} {f : Nat → Bool} {pl : Nat → Int32} (hw : wd_ok h pp f) {n : Nat} (hn : n < 1073741824) : Met l y_W_hasOne ws_W_hasOne ({ frames := 0, cells := 0, slots := 0, locals := 0 } : Room) (pw_R [.ref a, .int (nI (n))] dC dI [(cA, .int)] (wd a q cA h pp f pl)) (vp_Si (fun r => r = nI (decide (0 < pw_o f h pp ∨ n ≤ pw_c f h)).toNat)) 0 0 (fun _ => False) := by
  refine Met.ofW (cc := b_W_hasOne) (maxL := 2) (ret := (some .boolean)) (by decide) rfl ?_
  intro p e s m args below meth c s₁ B hml hv
  obtain ⟨rfl, hP, hK⟩ := hv
  have hx := B.exec
  have hb := B.bytes
  have hr := B.returns
  have hts := atoms_spec (ws := ws_W_hasOne) B.pre
  have hown : s.vm.findClass R_W = some m.cls := findClass_of_methodNamed B.named
  have hlocks := B.notSynchronized
  have hw0 := hw; obtain ⟨hh, hp0, hp6, hE⟩ := hw0
  have ho := pw_o_le f h pp
  have hc := pw_c_le f h
  have hb0 := pq_lt60 (pw_b_lt f 0 h) hh
  have hb1 := pq_lt60 (pw_b_lt f h pp) hp6
  have hz := pq_p60
  have hl := lv_entry ([.ref a, .int (nI (n))]) (n := 2) (Nat.le_of_ble_eq_true rfl)
  rw [lg_entry_eq]
  generalize (lg_sl ([.ref a, .int (nI (n))]) ++ List.replicate (2 - (lg_sl ([.ref a, .int (nI (n))])).length) Slot.unset).toArray = ls at hl ⊢
  have hl : lv_has ls 2 [(0, .ref a), (1, .int (nI (n)))] := hl
  refine lv_aload_n hx hb d_W_hasOne_0 rfl (lv_at hl 0 rfl) ?_
  refine va_get (D := (dC, dI)) (ci := ciW) (v := .int (nI (pw_o f h pp))) (C := R_W) (T := F_W) (N := 7) hx hb hts (fun w h => List.mem_cons_of_mem _ (in_W w h)) hown hK hP 0 rfl rfl 5 (by decide) (hts (.fieldLink R_W 44 "PeriodWords$Word" "ringOnes" "I") (List.mem_cons_of_mem _ mb_86)) (fun _ h9 => h9) rfl d_W_hasOne_1 ?_
  refine pq_if_gt (tgt := 15) (a := (pw_o f h pp)) hx hb d_W_hasOne_4 (by decide) (by omega) (fun c_4 => ?_) (fun c_4 => ?_)
  · refine lv_iconst (v := nI 1) hx hb d_W_hasOne_15 (by decide) ?_
    refine lv_goto (tgt := 20) hx hb d_W_hasOne_16 (by decide) ?_
    have B_20 : ∀ (x : Nat) (ls : Array Slot), (x = (decide (0 < pw_o f h pp ∨ n ≤ pw_c f h)).toNat) → lv_has ls 2 [] → W p l e (headSpec ws_W_hasOne ({ frames := 0, cells := 0, slots := 0, locals := 0 } : Room)).room s m ([.ref a, .int (nI (n))]).toArray below meth c s.heap [] 0 0 (MQ below (vp_Si (fun r => r = nI (decide (0 < pw_o f h pp ∨ n ≤ pw_c f h)).toNat)) ([.ref a, .int (nI (n))]).toArray s 0 0 (fun _ => False)) (F0 m 20 ls [.int (nI (x))]) := by
      intro x ls hx2 hl
      exact W.zret (v := (nI (x))) hx hb hr (by rw [hx2]; exact pw_nz _) (fun t_ ht_ hW_ => ⟨_, rfl, by (try dsimp only); rw [hx2], ht_⟩) (fun q h => absurd h List.not_mem_nil) d_W_hasOne_20
    exact B_20 (1) ls (by rw [decide_eq_true (by omega)]; rfl) (lv_sub hl [] rfl)
  · refine lv_iload_n hx hb d_W_hasOne_7 rfl (lv_at hl 1 rfl) ?_
    refine lv_aload_n hx hb d_W_hasOne_8 rfl (lv_at hl 0 rfl) ?_
    refine va_get (D := (dC, dI)) (ci := ciW) (v := .int (nI (pw_c f h))) (C := R_W) (T := F_W) (N := 7) hx hb hts (fun w h => List.mem_cons_of_mem _ (in_W w h)) hown hK hP 0 rfl rfl 4 (by decide) (hts (.fieldLink R_W 41 "PeriodWords$Word" "headOnes" "I") (List.mem_cons_of_mem _ mb_84)) (fun _ h9 => h9) rfl d_W_hasOne_9 ?_
    refine pq_icmp_gt (tgt := 19) (a := n) (b := (pw_c f h)) hx hb d_W_hasOne_12 (by decide) (by omega) (by omega) (fun c_12 => ?_) (fun c_12 => ?_)
    · refine lv_iconst (v := nI 0) hx hb d_W_hasOne_19 (by decide) ?_
      have B_20 : ∀ (x : Nat) (ls : Array Slot), (x = (decide (0 < pw_o f h pp ∨ n ≤ pw_c f h)).toNat) → lv_has ls 2 [] → W p l e (headSpec ws_W_hasOne ({ frames := 0, cells := 0, slots := 0, locals := 0 } : Room)).room s m ([.ref a, .int (nI (n))]).toArray below meth c s.heap [] 0 0 (MQ below (vp_Si (fun r => r = nI (decide (0 < pw_o f h pp ∨ n ≤ pw_c f h)).toNat)) ([.ref a, .int (nI (n))]).toArray s 0 0 (fun _ => False)) (F0 m 20 ls [.int (nI (x))]) := by
        intro x ls hx2 hl
        exact W.zret (v := (nI (x))) hx hb hr (by rw [hx2]; exact pw_nz _) (fun t_ ht_ hW_ => ⟨_, rfl, by (try dsimp only); rw [hx2], ht_⟩) (fun q h => absurd h List.not_mem_nil) d_W_hasOne_20
      exact B_20 (0) ls (by rw [decide_eq_false (by omega)]; rfl) (lv_sub hl [] rfl)
    · refine lv_iconst (v := nI 1) hx hb d_W_hasOne_15 (by decide) ?_
      refine lv_goto (tgt := 20) hx hb d_W_hasOne_16 (by decide) ?_
      have B_20 : ∀ (x : Nat) (ls : Array Slot), (x = (decide (0 < pw_o f h pp ∨ n ≤ pw_c f h)).toNat) → lv_has ls 2 [] → W p l e (headSpec ws_W_hasOne ({ frames := 0, cells := 0, slots := 0, locals := 0 } : Room)).room s m ([.ref a, .int (nI (n))]).toArray below meth c s.heap [] 0 0 (MQ below (vp_Si (fun r => r = nI (decide (0 < pw_o f h pp ∨ n ≤ pw_c f h)).toNat)) ([.ref a, .int (nI (n))]).toArray s 0 0 (fun _ => False)) (F0 m 20 ls [.int (nI (x))]) := by
        intro x ls hx2 hl
        exact W.zret (v := (nI (x))) hx hb hr (by rw [hx2]; exact pw_nz _) (fun t_ ht_ hW_ => ⟨_, rfl, by (try dsimp only); rw [hx2], ht_⟩) (fun q h => absurd h List.not_mem_nil) d_W_hasOne_20
      exact B_20 (1) ls (by rw [decide_eq_true (by omega)]; rfl) (lv_sub hl [] rfl)
set_option maxHeartbeats 4000000 in
set_option maxRecDepth 100000 in
theorem c_W_tickOf (l : Launch) (dC : Nat → ClassId) (dI : Nat → Nat → Nat) {a q h pp : Nat} {cA : ClassId} {f : Nat → Bool} {pl : Nat → Int32} (hw : wd_ok h pp f) (hpl : wd_pl h pp f pl) {n : Nat} (hn0 : 0 < n) (hn : n < 16777216) (hex : 0 < pw_o f h pp ∨ n ≤ pw_c f h) : Met l y_W_tickOf ws_W_tickOf ({ frames := 1, cells := 0, slots := 0, locals := 21 } : Room) (pw_R [.ref a, .int (nI (n))] dC dI [(cA, .int)] (wd a q cA h pp f pl)) (vp_Si (fun r => r = nI (pw_tk f n))) 0 0 (fun _ => False) := by
  refine Met.ofW (cc := b_W_tickOf) (maxL := 3) (ret := (some .int)) (by decide) rfl ?_
  intro p e s m args below meth c s₁ B hml hv
  obtain ⟨rfl, hP, hK⟩ := hv
  have hx := B.exec
  have hb := B.bytes
  have hr := B.returns
  have hts := atoms_spec (ws := ws_W_tickOf) B.pre
  have hown : s.vm.findClass R_W = some m.cls := findClass_of_methodNamed B.named
  have hlocks := B.notSynchronized
  have hw0 := hw; obtain ⟨hh, hp0, hp6, hE⟩ := hw0
  have ho := pw_o_le f h pp
  have hc := pw_c_le f h
  have hb0 := pq_lt60 (pw_b_lt f 0 h) hh
  have hb1 := pq_lt60 (pw_b_lt f h pp) hp6
  have hz := pq_p60
  have hl := lv_entry ([.ref a, .int (nI (n))]) (n := 3) (Nat.le_of_ble_eq_true rfl)
  rw [lg_entry_eq]
  generalize (lg_sl ([.ref a, .int (nI (n))]) ++ List.replicate (3 - (lg_sl ([.ref a, .int (nI (n))])).length) Slot.unset).toArray = ls at hl ⊢
  have hl : lv_has ls 3 [(0, .ref a), (1, .int (nI (n)))] := hl
  refine lv_iload_n hx hb d_W_tickOf_0 rfl (lv_at hl 1 rfl) ?_
  refine lv_iconst (v := nI 1) hx hb d_W_tickOf_1 (by decide) ?_
  refine pq_icmp_lt (tgt := 13) (a := n) (b := 1) hx hb d_W_tickOf_2 (by decide) (by omega) (by omega) (fun c_2 => absurd c_2 (by omega)) (fun c_2 => ?_)
  refine lv_aload_n hx hb d_W_tickOf_5 rfl (lv_at hl 0 rfl) ?_
  refine lv_iload_n hx hb d_W_tickOf_6 rfl (lv_at hl 1 rfl) ?_
  refine vp_callSi (W.runV (As := [.int (nI (n))]) (rest := []) ⟨hx, hb, hml, hown, hts⟩ (c_W_hasOne l dC dI hw (n := n) (by omega)) (cwV 1 hts (gd_V mb_142 mb_143 mb_144 mb_24 mb_145) rfl rfl rfl (by decide +kernel) ⟨Nat.le_of_ble_eq_true rfl, Nat.le_of_ble_eq_true rfl⟩) (pw_R_V (va_recv hK hP (ci := ciW) (q0 := 0) rfl rfl) hP hK) rfl rfl hl.1 rfl (lv_room (Nat.le_of_ble_eq_true rfl)) d_W_tickOf_7 ⟨Nat.le_of_ble_eq_true rfl, Nat.le_of_ble_eq_true rfl⟩) (fun r_1 hr_1 => ?_)
  subst hr_1
  refine pq_top (y := .int (nI 1)) (by rw [decide_eq_true hex]; rfl) ?_
  refine pq_if_ne (tgt := 15) (a := 1) hx hb d_W_tickOf_10 (by decide) (by omega) (fun c_10 => ?_) (fun c_10 => absurd c_10 (by omega))
  refine lv_iload_n hx hb d_W_tickOf_15 rfl (lv_at hl 1 rfl) ?_
  refine lv_aload_n hx hb d_W_tickOf_16 rfl (lv_at hl 0 rfl) ?_
  refine va_get (D := (dC, dI)) (ci := ciW) (v := .int (nI (pw_c f h))) (C := R_W) (T := F_W) (N := 7) hx hb hts (fun w h => List.mem_cons_of_mem _ (in_W w h)) hown hK hP 0 rfl rfl 4 (by decide) (hts (.fieldLink R_W 41 "PeriodWords$Word" "headOnes" "I") (List.mem_cons_of_mem _ mb_84)) (fun _ h9 => h9) rfl d_W_tickOf_17 ?_
  refine pq_icmp_gt (tgt := 32) (a := n) (b := (pw_c f h)) hx hb d_W_tickOf_20 (by decide) (by omega) (by omega) (fun c_20 => ?_) (fun c_20 => ?_)
  · refine lv_iload_n hx hb d_W_tickOf_32 rfl (lv_at hl 1 rfl) ?_
    refine lv_aload_n hx hb d_W_tickOf_33 rfl (lv_at hl 0 rfl) ?_
    refine va_get (D := (dC, dI)) (ci := ciW) (v := .int (nI (pw_c f h))) (C := R_W) (T := F_W) (N := 7) hx hb hts (fun w h => List.mem_cons_of_mem _ (in_W w h)) hown hK hP 0 rfl rfl 4 (by decide) (hts (.fieldLink R_W 41 "PeriodWords$Word" "headOnes" "I") (List.mem_cons_of_mem _ mb_84)) (fun _ h9 => h9) rfl d_W_tickOf_34 ?_
    refine pq_isub (a := n) (b := (pw_c f h)) hx hb d_W_tickOf_37 (by omega) ?_
    refine lv_iconst (v := nI 1) hx hb d_W_tickOf_38 (by decide) ?_
    refine pq_isub (a := (n - (pw_c f h))) (b := 1) hx hb d_W_tickOf_39 (by omega) ?_
    refine lv_istore_n (lv' := [(2, .int (nI ((n - (pw_c f h)) - 1))), (0, .ref a), (1, .int (nI (n)))]) hx hb d_W_tickOf_40 rfl hl (by decide) rfl (fun ls hl => ?_)
    have ho0 : 0 < pw_o f h pp := by omega
    have hm := Nat.mod_lt (n - pw_c f h - 1) ho0
    obtain ⟨t0, ht0, ept, ft, ct⟩ := hpl.2 _ hm
    have Nt := pw_N_ring hE hp0 ((n - pw_c f h - 1) / pw_o f h pp) ft ct
    have e8 := Nat.mod_add_div (n - pw_c f h - 1) (pw_o f h pp)
    rw [Nat.mul_comm] at e8
    rw [show pw_c f h + ((n - pw_c f h - 1) / pw_o f h pp * pw_o f h pp + (n - pw_c f h - 1) % pw_o f h pp) + 1 = n by omega] at Nt
    have etk := pw_tk_of Nt
    refine lv_aload_n hx hb d_W_tickOf_41 rfl (lv_at hl 1 rfl) ?_
    refine va_get (D := (dC, dI)) (ci := ciW) (v := .int (nI (h))) (C := R_W) (T := F_W) (N := 7) hx hb hts (fun w h => List.mem_cons_of_mem _ (in_W w h)) hown hK hP 0 rfl rfl 0 (by decide) (hts (.fieldLink R_W 9 "PeriodWords$Word" "headLength" "I") (List.mem_cons_of_mem _ mb_76)) (fun _ h9 => h9) rfl d_W_tickOf_42 ?_
    refine lv_iload_n hx hb d_W_tickOf_45 rfl (lv_at hl 0 rfl) ?_
    refine lv_aload_n hx hb d_W_tickOf_46 rfl (lv_at hl 1 rfl) ?_
    refine va_get (D := (dC, dI)) (ci := ciW) (v := .int (nI (pw_o f h pp))) (C := R_W) (T := F_W) (N := 7) hx hb hts (fun w h => List.mem_cons_of_mem _ (in_W w h)) hown hK hP 0 rfl rfl 5 (by decide) (hts (.fieldLink R_W 44 "PeriodWords$Word" "ringOnes" "I") (List.mem_cons_of_mem _ mb_86)) (fun _ h9 => h9) rfl d_W_tickOf_47 ?_
    refine pq_idiv (a := ((n - (pw_c f h)) - 1)) (b := (pw_o f h pp)) hx hb d_W_tickOf_50 (by omega) (by omega) (by omega) ?_
    refine lv_aload_n hx hb d_W_tickOf_51 rfl (lv_at hl 1 rfl) ?_
    refine va_get (D := (dC, dI)) (ci := ciW) (v := .int (nI (pp))) (C := R_W) (T := F_W) (N := 7) hx hb hts (fun w h => List.mem_cons_of_mem _ (in_W w h)) hown hK hP 0 rfl rfl 2 (by decide) (hts (.fieldLink R_W 29 "PeriodWords$Word" "ringLength" "I") (List.mem_cons_of_mem _ mb_80)) (fun _ h9 => h9) rfl d_W_tickOf_52 ?_
    refine pq_imul (a := (((n - (pw_c f h)) - 1) / (pw_o f h pp))) (b := pp) hx hb d_W_tickOf_55 ?_
    refine pq_iadd (a := h) (b := ((((n - (pw_c f h)) - 1) / (pw_o f h pp)) * pp)) hx hb d_W_tickOf_56 ?_
    refine lv_aload_n hx hb d_W_tickOf_57 rfl (lv_at hl 1 rfl) ?_
    refine va_get (D := (dC, dI)) (ci := ciW) (v := .ref q) (C := R_W) (T := F_W) (N := 7) hx hb hts (fun w h => List.mem_cons_of_mem _ (in_W w h)) hown hK hP 0 rfl rfl 6 (by decide) (hts (.fieldLink R_W 47 "PeriodWords$Word" "places" "[I") (List.mem_cons_of_mem _ mb_88)) (fun _ h9 => h9) rfl d_W_tickOf_58 ?_
    refine lv_aload_n hx hb d_W_tickOf_61 rfl (lv_at hl 1 rfl) ?_
    refine va_get (D := (dC, dI)) (ci := ciW) (v := .int (nI (pw_c f h))) (C := R_W) (T := F_W) (N := 7) hx hb hts (fun w h => List.mem_cons_of_mem _ (in_W w h)) hown hK hP 0 rfl rfl 4 (by decide) (hts (.fieldLink R_W 41 "PeriodWords$Word" "headOnes" "I") (List.mem_cons_of_mem _ mb_84)) (fun _ h9 => h9) rfl d_W_tickOf_62 ?_
    refine lv_iload_n hx hb d_W_tickOf_65 rfl (lv_at hl 0 rfl) ?_
    refine lv_aload_n hx hb d_W_tickOf_66 rfl (lv_at hl 1 rfl) ?_
    refine va_get (D := (dC, dI)) (ci := ciW) (v := .int (nI (pw_o f h pp))) (C := R_W) (T := F_W) (N := 7) hx hb hts (fun w h => List.mem_cons_of_mem _ (in_W w h)) hown hK hP 0 rfl rfl 5 (by decide) (hts (.fieldLink R_W 44 "PeriodWords$Word" "ringOnes" "I") (List.mem_cons_of_mem _ mb_86)) (fun _ h9 => h9) rfl d_W_tickOf_67 ?_
    refine pq_irem (a := ((n - (pw_c f h)) - 1)) (b := (pw_o f h pp)) hx hb d_W_tickOf_70 (by omega) (by omega) (by omega) ?_
    refine pq_iadd (a := (pw_c f h)) (b := (((n - (pw_c f h)) - 1) % (pw_o f h pp))) hx hb d_W_tickOf_71 ?_
    refine va_iald hx hb hK hP 1 0 rfl rfl (vp_in_nI (n := ((pw_c f h) + (((n - (pw_c f h)) - 1) % (pw_o f h pp)))) (by omega) (by omega)) d_W_tickOf_72 ?_
    refine pq_top (y := .int (pl ((pw_c f h) + (((n - (pw_c f h)) - 1) % (pw_o f h pp))))) (by rw [pq_cl (by omega)]) ?_
    refine pq_top (y := .int (nI (t0))) (by rw [ept]) ?_
    refine pq_iadd (a := (h + ((((n - (pw_c f h)) - 1) / (pw_o f h pp)) * pp))) (b := t0) hx hb d_W_tickOf_73 ?_
    exact W.iret (v := (nI ((h + ((((n - (pw_c f h)) - 1) / (pw_o f h pp)) * pp)) + t0))) hx hb hr (fun t_ ht_ hW_ => ⟨_, rfl, by (try dsimp only); rw [etk, Nat.add_assoc], ht_⟩) (fun q h => absurd h List.not_mem_nil) d_W_tickOf_74
  · obtain ⟨t0, ht0, ept, Nt⟩ := hpl.1 (n - 1) (by omega)
    rw [show n - 1 + 1 = n by omega] at Nt
    have etk := pw_tk_of Nt
    refine lv_aload_n hx hb d_W_tickOf_23 rfl (lv_at hl 0 rfl) ?_
    refine va_get (D := (dC, dI)) (ci := ciW) (v := .ref q) (C := R_W) (T := F_W) (N := 7) hx hb hts (fun w h => List.mem_cons_of_mem _ (in_W w h)) hown hK hP 0 rfl rfl 6 (by decide) (hts (.fieldLink R_W 47 "PeriodWords$Word" "places" "[I") (List.mem_cons_of_mem _ mb_88)) (fun _ h9 => h9) rfl d_W_tickOf_24 ?_
    refine lv_iload_n hx hb d_W_tickOf_27 rfl (lv_at hl 1 rfl) ?_
    refine lv_iconst (v := nI 1) hx hb d_W_tickOf_28 (by decide) ?_
    refine pq_isub (a := n) (b := 1) hx hb d_W_tickOf_29 (by omega) ?_
    refine va_iald hx hb hK hP 1 0 rfl rfl (vp_in_nI (n := (n - 1)) (by omega) (by omega)) d_W_tickOf_30 ?_
    refine pq_top (y := .int (pl (n - 1))) (by rw [pq_cl (by omega)]) ?_
    refine pq_top (y := .int (nI (pw_tk f n))) (by rw [ept, etk]) ?_
    exact W.iret (v := (nI (pw_tk f n))) hx hb hr (fun t_ ht_ hW_ => ⟨_, rfl, rfl, ht_⟩) (fun q h => absurd h List.not_mem_nil) d_W_tickOf_31
end
section
set_option maxHeartbeats 4000000 in
set_option maxRecDepth 100000 in
theorem c_P_cd (l : Launch) (dC : Nat → ClassId) (dI : Nat → Nat → Nat) {x y : Nat} (hx1 : x ≤ 60) (hy0 : 0 < y) (hy : y ≤ 60) : Met l y_P_commonDivisor ws_P_commonDivisor ({ frames := 1, cells := 0, slots := 0, locals := 21 } : Room) (pw_R [.int (nI (x)), .int (nI (y))] dC dI [] []) (vp_Si (fun r => r = nI (Nat.gcd x y))) 0 0 (fun _ => False) := by
  refine Met.ofW (cc := b_P_commonDivisor) (maxL := 6) (ret := (some .int)) (by decide) rfl ?_
  intro p e s m args below meth c s₁ B hml hv
  obtain ⟨rfl, hP, hK⟩ := hv
  have hx := B.exec
  have hb := B.bytes
  have hr := B.returns
  have hts := atoms_spec (ws := ws_P_commonDivisor) B.pre
  have hown : s.vm.findClass R_P = some m.cls := findClass_of_methodNamed B.named
  have hlocks := B.notSynchronized
  have hl := lv_entry ([.int (nI (x)), .int (nI (y))]) (n := 6) (Nat.le_of_ble_eq_true rfl)
  rw [lg_entry_eq]
  generalize (lg_sl ([.int (nI (x)), .int (nI (y))]) ++ List.replicate (6 - (lg_sl ([.int (nI (x)), .int (nI (y))])).length) Slot.unset).toArray = ls at hl ⊢
  have hl : lv_has ls 6 [(0, .int (nI (x))), (1, .int (nI (y)))] := hl
  refine lv_iload_n hx hb d_P_commonDivisor_0 rfl (lv_at hl 0 rfl) ?_
  refine lv_istore_n (lv' := [(2, .int (nI (x))), (0, .int (nI (x))), (1, .int (nI (y)))]) hx hb d_P_commonDivisor_1 rfl hl (by decide) rfl (fun ls hl => ?_)
  refine lv_iload_n hx hb d_P_commonDivisor_2 rfl (lv_at hl 2 rfl) ?_
  refine lv_istore_n (lv' := [(3, .int (nI (y))), (2, .int (nI (x))), (0, .int (nI (x))), (1, .int (nI (y)))]) hx hb d_P_commonDivisor_3 rfl hl (by decide) rfl (fun ls hl => ?_)
  refine lv_iconst (v := nI 0) hx hb d_P_commonDivisor_4 (by decide) ?_
  refine lv_istore (lv' := [(4, .int (nI (0))), (3, .int (nI (y))), (2, .int (nI (x))), (0, .int (nI (x))), (1, .int (nI (y)))]) hx hb d_P_commonDivisor_5 hl (by decide) rfl (fun ls hl => ?_)
  have B_7 : ∀ (k_ : Nat) (big : Nat) (small : Nat) (i : Nat) (ls : Array Slot), (small) < k_ → (i + small ≤ 60) → (Nat.gcd big small = Nat.gcd x y) → (big ≤ 60) → lv_has ls 6 [(2, .int (nI (big))), (3, .int (nI (small))), (4, .int (nI (i)))] → W p l e (headSpec ws_P_commonDivisor ({ frames := 1, cells := 0, slots := 0, locals := 21 } : Room)).room s m ([.int (nI (x)), .int (nI (y))]).toArray below meth c s.heap [] 0 0 (MQ below (vp_Si (fun r => r = nI (Nat.gcd x y))) ([.int (nI (x)), .int (nI (y))]).toArray s 0 0 (fun _ => False)) (F0 m 7 ls []) := by
    intro k_
    induction k_ with
    | zero => intro big small i ls h_; omega
    | succ k_ ih_7 =>
      intro big small i ls hm_ hi1 hg hbg hl
      refine lv_iload hx hb d_P_commonDivisor_7 (lv_at hl 2 rfl) ?_
      refine lv_bipush (v := nI 100) hx hb d_P_commonDivisor_9 (by decide) ?_
      refine pq_icmp_ge (tgt := 34) (a := i) (b := 100) hx hb d_P_commonDivisor_11 (by decide) (by omega) (by omega) (fun c_11 => absurd c_11 (by omega)) (fun c_11 => ?_)
      refine lv_iload_n hx hb d_P_commonDivisor_14 rfl (lv_at hl 1 rfl) ?_
      refine pq_if_eq (tgt := 34) (a := small) hx hb d_P_commonDivisor_15 (by decide) (by omega) (fun c_15 => ?_) (fun c_15 => ?_)
      · refine lv_iconst (v := nI 1) hx hb d_P_commonDivisor_34 (by decide) ?_
        refine lv_iload_n hx hb d_P_commonDivisor_35 rfl (lv_at hl 0 rfl) ?_
        refine va_mmax hx hb (hml.trans hl.1.symm) hown (hts (.methodLink R_P 127 Lib.Math.max.name) (List.mem_cons_of_mem _ mb_146)) (hts (.static Lib.Math.max.name) (List.mem_cons_of_mem _ mb_65)) (hts (.initialized "java/lang/Math") (List.mem_cons_of_mem _ mb_25)) (hts (.code Lib.Math.max.name Lib.Math.max.code 2 (some .int)) (List.mem_cons_of_mem _ mb_66)) (Nat.le_of_ble_eq_true rfl) (Nat.le_of_ble_eq_true rfl) (Nat.le_of_ble_eq_true rfl) (Nat.le_of_ble_eq_true rfl) d_P_commonDivisor_36 ?_
        refine pq_top (y := .int (nI (max 1 big))) (by rw [pq_max (by omega) (by omega)]) ?_
        exact W.iret (v := (nI (max 1 big))) hx hb hr (fun t_ ht_ hW_ => ⟨_, rfl, by (try dsimp only); rw [c_15, Nat.gcd_zero_right] at hg; have := Nat.gcd_pos_of_pos_right x hy0; rw [hg, Nat.max_eq_right (by omega)], ht_⟩) (fun q h => absurd h List.not_mem_nil) d_P_commonDivisor_39
      · refine lv_iload_n hx hb d_P_commonDivisor_18 rfl (lv_at hl 0 rfl) ?_
        refine lv_iload_n hx hb d_P_commonDivisor_19 rfl (lv_at hl 1 rfl) ?_
        refine pq_irem (a := big) (b := small) hx hb d_P_commonDivisor_20 (by omega) (by omega) (by omega) ?_
        refine lv_istore (lv' := [(5, .int (nI (big % small))), (2, .int (nI (big))), (3, .int (nI (small))), (4, .int (nI (i)))]) hx hb d_P_commonDivisor_21 hl (by decide) rfl (fun ls hl => ?_)
        refine lv_iload_n hx hb d_P_commonDivisor_23 rfl (lv_at hl 2 rfl) ?_
        refine lv_istore_n (lv' := [(2, .int (nI (small))), (5, .int (nI (big % small))), (3, .int (nI (small))), (4, .int (nI (i)))]) hx hb d_P_commonDivisor_24 rfl hl (by decide) rfl (fun ls hl => ?_)
        refine lv_iload hx hb d_P_commonDivisor_25 (lv_at hl 1 rfl) ?_
        refine lv_istore_n (lv' := [(3, .int (nI (big % small))), (2, .int (nI (small))), (5, .int (nI (big % small))), (4, .int (nI (i)))]) hx hb d_P_commonDivisor_27 rfl hl (by decide) rfl (fun ls hl => ?_)
        refine lv_iinc (v := nI (i + 1)) (lv' := [(4, .int (nI (i + 1))), (3, .int (nI (big % small))), (2, .int (nI (small))), (5, .int (nI (big % small)))]) hx hb d_P_commonDivisor_28 hl (k := 3) rfl (pq_inc _) (by decide) rfl (fun ls hl => ?_)
        have hlt := Nat.mod_lt big c_15
        refine lv_goto (tgt := 7) hx hb d_P_commonDivisor_31 (by decide) ?_
        exact ih_7 (small) (big % small) (i + 1) ls (by omega) (by omega) (by rw [Nat.gcd_comm, ← Nat.gcd_rec, Nat.gcd_comm]; exact hg) (by omega) (lv_sub hl [2, 1, 0] rfl)
  exact B_7 _ (x) (y) (0) ls (Nat.lt_succ_self _) (by omega) rfl hx1 (lv_sub hl [2, 1, 0] rfl)
set_option maxHeartbeats 4000000 in
set_option maxRecDepth 100000 in
theorem c_P_cm (l : Launch) (dC : Nat → ClassId) (dI : Nat → Nat → Nat) {x y : Nat} (hx1 : x ≤ 60) (hy0 : 0 < y) (hy : y ≤ 60) : Met l y_P_commonMultiple ws_P_commonMultiple ({ frames := 2, cells := 0, slots := 0, locals := 46 } : Room) (pw_R [.int (nI (x)), .int (nI (y))] dC dI [] []) (vp_Si (fun r => r = nI (x / Nat.gcd x y * y))) 0 0 (fun _ => False) := by
  refine Met.ofW (cc := b_P_commonMultiple) (maxL := 2) (ret := (some .int)) (by decide) rfl ?_
  intro p e s m args below meth c s₁ B hml hv
  obtain ⟨rfl, hP, hK⟩ := hv
  have hx := B.exec
  have hb := B.bytes
  have hr := B.returns
  have hts := atoms_spec (ws := ws_P_commonMultiple) B.pre
  have hown : s.vm.findClass R_P = some m.cls := findClass_of_methodNamed B.named
  have hlocks := B.notSynchronized
  have hg0 := Nat.gcd_pos_of_pos_right x hy0
  have hg1 := Nat.gcd_le_right x hy0
  have hl := lv_entry ([.int (nI (x)), .int (nI (y))]) (n := 2) (Nat.le_of_ble_eq_true rfl)
  rw [lg_entry_eq]
  generalize (lg_sl ([.int (nI (x)), .int (nI (y))]) ++ List.replicate (2 - (lg_sl ([.int (nI (x)), .int (nI (y))])).length) Slot.unset).toArray = ls at hl ⊢
  have hl : lv_has ls 2 [(0, .int (nI (x))), (1, .int (nI (y)))] := hl
  refine lv_iload_n hx hb d_P_commonMultiple_0 rfl (lv_at hl 0 rfl) ?_
  refine lv_iload_n hx hb d_P_commonMultiple_1 rfl (lv_at hl 0 rfl) ?_
  refine lv_iload_n hx hb d_P_commonMultiple_2 rfl (lv_at hl 1 rfl) ?_
  refine vp_callSi (W.runS (As := [.int (nI (x)), .int (nI (y))]) (rest := [.int (nI (x))]) ⟨hx, hb, hml, hown, hts⟩ (c_P_cd l dC dI hx1 hy0 hy) (va_cwS 2 hts (gd_S mb_147 mb_148 mb_22 mb_149) rfl rfl rfl (by decide +kernel) ⟨Nat.le_of_ble_eq_true rfl, Nat.le_of_ble_eq_true rfl⟩) (pw_R_S pw_P0 (hK.sub [] rfl)) rfl rfl hl.1 rfl (lv_room (Nat.le_of_ble_eq_true rfl)) d_P_commonMultiple_3 ⟨Nat.le_of_ble_eq_true rfl, Nat.le_of_ble_eq_true rfl⟩) (fun r_3 hr_3 => ?_)
  subst hr_3
  refine pq_idiv (a := x) (b := (Nat.gcd x y)) hx hb d_P_commonMultiple_6 (by omega) (by omega) (by omega) ?_
  refine lv_iload_n hx hb d_P_commonMultiple_7 rfl (lv_at hl 1 rfl) ?_
  refine pq_imul (a := (x / (Nat.gcd x y))) (b := y) hx hb d_P_commonMultiple_8 ?_
  exact W.iret (v := (nI ((x / (Nat.gcd x y)) * y))) hx hb hr (fun t_ ht_ hW_ => ⟨_, rfl, rfl, ht_⟩) (fun q h => absurd h List.not_mem_nil) d_P_commonMultiple_9
set_option maxHeartbeats 4000000 in
set_option maxRecDepth 100000 in
theorem c_compare (l : Launch) (dC : Nat → ClassId) (dI : Nat → Nat → Nat) {x y : Nat} (hx1 : x < 2147483648) (hy1 : y < 2147483648) : Met l y_JI_compare ws_JI_compare ({ frames := 0, cells := 0, slots := 0, locals := 0 } : Room) (pw_R [.int (nI (x)), .int (nI (y))] dC dI [] []) (vp_Si (fun r => r = if x < y then (-1) else if x = y then nI 0 else nI 1)) 0 0 (fun _ => False) := by
  refine Met.ofW (cc := b_JI_compare) (maxL := 2) (ret := (some .int)) (by decide) rfl ?_
  intro p e s m args below meth c s₁ B hml hv
  obtain ⟨rfl, hP, hK⟩ := hv
  have hx := B.exec
  have hb := B.bytes
  have hr := B.returns
  have hts := atoms_spec (ws := ws_JI_compare) B.pre
  have hown : s.vm.findClass R_JI = some m.cls := findClass_of_methodNamed B.named
  have hlocks := B.notSynchronized
  have hl := lv_entry ([.int (nI (x)), .int (nI (y))]) (n := 2) (Nat.le_of_ble_eq_true rfl)
  rw [lg_entry_eq]
  generalize (lg_sl ([.int (nI (x)), .int (nI (y))]) ++ List.replicate (2 - (lg_sl ([.int (nI (x)), .int (nI (y))])).length) Slot.unset).toArray = ls at hl ⊢
  have hl : lv_has ls 2 [(0, .int (nI (x))), (1, .int (nI (y)))] := hl
  refine lv_iload_n hx hb d_JI_compare_0 rfl (lv_at hl 0 rfl) ?_
  refine lv_iload_n hx hb d_JI_compare_1 rfl (lv_at hl 1 rfl) ?_
  refine pq_icmp_ge (tgt := 9) (a := x) (b := y) hx hb d_JI_compare_2 (by decide) (by omega) (by omega) (fun c_2 => ?_) (fun c_2 => ?_)
  · refine lv_iload_n hx hb d_JI_compare_9 rfl (lv_at hl 0 rfl) ?_
    refine lv_iload_n hx hb d_JI_compare_10 rfl (lv_at hl 1 rfl) ?_
    refine pq_icmp_ne (tgt := 18) (a := x) (b := y) hx hb d_JI_compare_11 (by decide) (by omega) (by omega) (fun c_11 => ?_) (fun c_11 => ?_)
    · refine lv_iconst (v := nI 1) hx hb d_JI_compare_18 (by decide) ?_
      exact W.iret (v := (nI (1))) hx hb hr (fun t_ ht_ hW_ => ⟨_, rfl, by (try dsimp only); (repeat' split) <;> first | rfl | (exfalso; omega), ht_⟩) (fun q h => absurd h List.not_mem_nil) d_JI_compare_19
    · refine lv_iconst (v := nI 0) hx hb d_JI_compare_14 (by decide) ?_
      refine lv_goto (tgt := 19) hx hb d_JI_compare_15 (by decide) ?_
      exact W.iret (v := (nI (0))) hx hb hr (fun t_ ht_ hW_ => ⟨_, rfl, by (try dsimp only); (repeat' split) <;> first | rfl | (exfalso; omega), ht_⟩) (fun q h => absurd h List.not_mem_nil) d_JI_compare_19
  · refine lv_iconst (v := (-1)) hx hb d_JI_compare_5 (by decide) ?_
    refine lv_goto (tgt := 19) hx hb d_JI_compare_6 (by decide) ?_
    exact W.iret (v := (-1)) hx hb hr (fun t_ ht_ hW_ => ⟨_, rfl, by (try dsimp only); (repeat' split) <;> first | rfl | (exfalso; omega), ht_⟩) (fun q h => absurd h List.not_mem_nil) d_JI_compare_19
set_option maxHeartbeats 4000000 in
set_option maxRecDepth 100000 in
theorem c_P_compareRates (l : Launch) (dC : Nat → ClassId) (dI : Nat → Nat → Nat) {a q h pp : Nat} {cA : ClassId} {f : Nat → Bool} {pl : Nat → Int32} (hw : wd_ok h pp f) {a2 q2 h2 pp2 : Nat} {cA2 : ClassId} {f2 : Nat → Bool} {pl2 : Nat → Int32} (hw2 : wd_ok h2 pp2 f2) : Met l y_P_compareRates ws_P_compareRates ({ frames := 1, cells := 0, slots := 0, locals := 21 } : Room) (pw_R [.ref a, .ref a2] dC dI [(cA, .int), (cA2, .int)] (wd a q cA h pp f pl ++ wd a2 q2 cA2 h2 pp2 f2 pl2)) (vp_Si (fun r => r = if pw_o f h pp * pp2 < pw_o f2 h2 pp2 * pp then (-1) else if pw_o f h pp * pp2 = pw_o f2 h2 pp2 * pp then nI 0 else nI 1)) 0 0 (fun _ => False) := by
  refine Met.ofW (cc := b_P_compareRates) (maxL := 2) (ret := (some .int)) (by decide) rfl ?_
  intro p e s m args below meth c s₁ B hml hv
  obtain ⟨rfl, hP, hK⟩ := hv
  have hx := B.exec
  have hb := B.bytes
  have hr := B.returns
  have hts := atoms_spec (ws := ws_P_compareRates) B.pre
  have hown : s.vm.findClass R_P = some m.cls := findClass_of_methodNamed B.named
  have hlocks := B.notSynchronized
  have hw0 := hw; obtain ⟨hh, hp0, hp6, hE⟩ := hw0
  have ho := pw_o_le f h pp
  have hc := pw_c_le f h
  have hw20 := hw2; obtain ⟨hh2, hp02, hp62, hE2⟩ := hw20
  have ho2 := pw_o_le f2 h2 pp2
  have hc2 := pw_c_le f2 h2
  have hPa := hP.sub (ws' := wd a q cA h pp f pl) [0, 1] rfl
  have hKa := hK.sub (tys' := [(cA, .int)]) [0] rfl
  have hPb := hP.sub (ws' := wd a2 q2 cA2 h2 pp2 f2 pl2) [2, 3] rfl
  have hKb := hK.sub (tys' := [(cA2, .int)]) [1] rfl
  have m1 : pw_o f h pp * pp2 ≤ 60 * 60 := Nat.mul_le_mul (by omega) (by omega)
  have m2 : pw_o f2 h2 pp2 * pp ≤ 60 * 60 := Nat.mul_le_mul (by omega) (by omega)
  have hl := lv_entry ([.ref a, .ref a2]) (n := 2) (Nat.le_of_ble_eq_true rfl)
  rw [lg_entry_eq]
  generalize (lg_sl ([.ref a, .ref a2]) ++ List.replicate (2 - (lg_sl ([.ref a, .ref a2])).length) Slot.unset).toArray = ls at hl ⊢
  have hl : lv_has ls 2 [(0, .ref a), (1, .ref a2)] := hl
  refine lv_aload_n hx hb d_P_compareRates_0 rfl (lv_at hl 0 rfl) ?_
  refine va_get (D := (dC, dI)) (ci := ciW) (v := .int (nI (pw_o f h pp))) (C := R_W) (T := F_W) (N := 7) hx hb hts (fun w h => List.mem_cons_of_mem _ (in_W w h)) hown hKa hPa 0 rfl rfl 5 (by decide) (hts (.fieldLink R_P 42 "PeriodWords$Word" "ringOnes" "I") (List.mem_cons_of_mem _ mb_87)) (fun _ h9 => h9) rfl d_P_compareRates_1 ?_
  refine lv_aload_n hx hb d_P_compareRates_4 rfl (lv_at hl 1 rfl) ?_
  refine va_get (D := (dC, dI)) (ci := ciW) (v := .int (nI (pp2))) (C := R_W) (T := F_W) (N := 7) hx hb hts (fun w h => List.mem_cons_of_mem _ (in_W w h)) hown hKb hPb 0 rfl rfl 2 (by decide) (hts (.fieldLink R_P 55 "PeriodWords$Word" "ringLength" "I") (List.mem_cons_of_mem _ mb_81)) (fun _ h9 => h9) rfl d_P_compareRates_5 ?_
  refine pq_imul (a := (pw_o f h pp)) (b := pp2) hx hb d_P_compareRates_8 ?_
  refine lv_aload_n hx hb d_P_compareRates_9 rfl (lv_at hl 1 rfl) ?_
  refine va_get (D := (dC, dI)) (ci := ciW) (v := .int (nI (pw_o f2 h2 pp2))) (C := R_W) (T := F_W) (N := 7) hx hb hts (fun w h => List.mem_cons_of_mem _ (in_W w h)) hown hKb hPb 0 rfl rfl 5 (by decide) (hts (.fieldLink R_P 42 "PeriodWords$Word" "ringOnes" "I") (List.mem_cons_of_mem _ mb_87)) (fun _ h9 => h9) rfl d_P_compareRates_10 ?_
  refine lv_aload_n hx hb d_P_compareRates_13 rfl (lv_at hl 0 rfl) ?_
  refine va_get (D := (dC, dI)) (ci := ciW) (v := .int (nI (pp))) (C := R_W) (T := F_W) (N := 7) hx hb hts (fun w h => List.mem_cons_of_mem _ (in_W w h)) hown hKa hPa 0 rfl rfl 2 (by decide) (hts (.fieldLink R_P 55 "PeriodWords$Word" "ringLength" "I") (List.mem_cons_of_mem _ mb_81)) (fun _ h9 => h9) rfl d_P_compareRates_14 ?_
  refine pq_imul (a := (pw_o f2 h2 pp2)) (b := pp) hx hb d_P_compareRates_17 ?_
  refine vp_callSi (W.runS (As := [.int (nI ((pw_o f h pp) * pp2)), .int (nI ((pw_o f2 h2 pp2) * pp))]) (rest := []) ⟨hx, hb, hml, hown, hts⟩ (c_compare l dC dI (x := pw_o f h pp * pp2) (y := pw_o f2 h2 pp2 * pp) (by omega) (by omega)) (va_cwS 2 hts (gd_S mb_230 mb_231 mb_33 mb_232) rfl rfl rfl (by decide +kernel) ⟨Nat.le_of_ble_eq_true rfl, Nat.le_of_ble_eq_true rfl⟩) (pw_R_S pw_P0 (hK.sub [] rfl)) rfl rfl hl.1 rfl (lv_room (Nat.le_of_ble_eq_true rfl)) d_P_compareRates_18 ⟨Nat.le_of_ble_eq_true rfl, Nat.le_of_ble_eq_true rfl⟩) (fun r_18 hr_18 => ?_)
  subst hr_18
  exact W.iret (v := (if pw_o f h pp * pp2 < pw_o f2 h2 pp2 * pp then (-1) else if pw_o f h pp * pp2 = pw_o f2 h2 pp2 * pp then nI 0 else nI 1)) hx hb hr (fun t_ ht_ hW_ => ⟨_, rfl, rfl, ht_⟩) (fun q h => absurd h List.not_mem_nil) d_P_compareRates_21
set_option maxHeartbeats 4000000 in
set_option maxRecDepth 100000 in
theorem c_P_mostKept (l : Launch) (dC : Nat → ClassId) (dI : Nat → Nat → Nat) {a q h pp : Nat} {cA : ClassId} {f : Nat → Bool} {pl : Nat → Int32} (hw : wd_ok h pp f) {a2 q2 h2 pp2 : Nat} {cA2 : ClassId} {f2 : Nat → Bool} {pl2 : Nat → Int32} (hw2 : wd_ok h2 pp2 f2) : Met l y_P_mostKept ws_P_mostKept ({ frames := 3, cells := 0, slots := 0, locals := 67 } : Room) (pw_R [.ref a, .ref a2] dC dI [(cA, .int), (cA2, .int)] (wd a q cA h pp f pl ++ wd a2 q2 cA2 h2 pp2 f2 pl2)) (vp_Si (fun r => r = nI (pw_ks f f2 (max h h2 + pp / Nat.gcd pp pp2 * pp2)))) 0 0 (fun _ => False) := by
  refine Met.ofW (cc := b_P_mostKept) (maxL := 6) (ret := (some .int)) (by decide) rfl ?_
  intro p e s m args below meth c s₁ B hml hv
  obtain ⟨rfl, hP, hK⟩ := hv
  have hx := B.exec
  have hb := B.bytes
  have hr := B.returns
  have hts := atoms_spec (ws := ws_P_mostKept) B.pre
  have hown : s.vm.findClass R_P = some m.cls := findClass_of_methodNamed B.named
  have hlocks := B.notSynchronized
  have hw0 := hw; obtain ⟨hh, hp0, hp6, hE⟩ := hw0
  have ho := pw_o_le f h pp
  have hc := pw_c_le f h
  have hw20 := hw2; obtain ⟨hh2, hp02, hp62, hE2⟩ := hw20
  have ho2 := pw_o_le f2 h2 pp2
  have hc2 := pw_c_le f2 h2
  have hPa := hP.sub (ws' := wd a q cA h pp f pl) [0, 1] rfl
  have hKa := hK.sub (tys' := [(cA, .int)]) [0] rfl
  have hPb := hP.sub (ws' := wd a2 q2 cA2 h2 pp2 f2 pl2) [2, 3] rfl
  have hKb := hK.sub (tys' := [(cA2, .int)]) [1] rfl
  have m3 : pp / Nat.gcd pp pp2 * pp2 ≤ 60 * 60 := Nat.mul_le_mul (Nat.le_trans (Nat.div_le_self _ _) hp6) hp62
  have hl := lv_entry ([.ref a, .ref a2]) (n := 6) (Nat.le_of_ble_eq_true rfl)
  rw [lg_entry_eq]
  generalize (lg_sl ([.ref a, .ref a2]) ++ List.replicate (6 - (lg_sl ([.ref a, .ref a2])).length) Slot.unset).toArray = ls at hl ⊢
  have hl : lv_has ls 6 [(0, .ref a), (1, .ref a2)] := hl
  refine lv_aload_n hx hb d_P_mostKept_0 rfl (lv_at hl 0 rfl) ?_
  refine va_get (D := (dC, dI)) (ci := ciW) (v := .int (nI (h))) (C := R_W) (T := F_W) (N := 7) hx hb hts (fun w h => List.mem_cons_of_mem _ (in_W w h)) hown hKa hPa 0 rfl rfl 0 (by decide) (hts (.fieldLink R_P 52 "PeriodWords$Word" "headLength" "I") (List.mem_cons_of_mem _ mb_77)) (fun _ h9 => h9) rfl d_P_mostKept_1 ?_
  refine lv_aload_n hx hb d_P_mostKept_4 rfl (lv_at hl 1 rfl) ?_
  refine va_get (D := (dC, dI)) (ci := ciW) (v := .int (nI (h2))) (C := R_W) (T := F_W) (N := 7) hx hb hts (fun w h => List.mem_cons_of_mem _ (in_W w h)) hown hKb hPb 0 rfl rfl 0 (by decide) (hts (.fieldLink R_P 52 "PeriodWords$Word" "headLength" "I") (List.mem_cons_of_mem _ mb_77)) (fun _ h9 => h9) rfl d_P_mostKept_5 ?_
  refine va_mmax hx hb (hml.trans hl.1.symm) hown (hts (.methodLink R_P 127 Lib.Math.max.name) (List.mem_cons_of_mem _ mb_146)) (hts (.static Lib.Math.max.name) (List.mem_cons_of_mem _ mb_65)) (hts (.initialized "java/lang/Math") (List.mem_cons_of_mem _ mb_25)) (hts (.code Lib.Math.max.name Lib.Math.max.code 2 (some .int)) (List.mem_cons_of_mem _ mb_66)) (Nat.le_of_ble_eq_true rfl) (Nat.le_of_ble_eq_true rfl) (Nat.le_of_ble_eq_true rfl) (Nat.le_of_ble_eq_true rfl) d_P_mostKept_8 ?_
  refine pq_top (y := .int (nI (max h h2))) (by rw [pq_max (by omega) (by omega)]) ?_
  refine lv_aload_n hx hb d_P_mostKept_11 rfl (lv_at hl 0 rfl) ?_
  refine va_get (D := (dC, dI)) (ci := ciW) (v := .int (nI (pp))) (C := R_W) (T := F_W) (N := 7) hx hb hts (fun w h => List.mem_cons_of_mem _ (in_W w h)) hown hKa hPa 0 rfl rfl 2 (by decide) (hts (.fieldLink R_P 55 "PeriodWords$Word" "ringLength" "I") (List.mem_cons_of_mem _ mb_81)) (fun _ h9 => h9) rfl d_P_mostKept_12 ?_
  refine lv_aload_n hx hb d_P_mostKept_15 rfl (lv_at hl 1 rfl) ?_
  refine va_get (D := (dC, dI)) (ci := ciW) (v := .int (nI (pp2))) (C := R_W) (T := F_W) (N := 7) hx hb hts (fun w h => List.mem_cons_of_mem _ (in_W w h)) hown hKb hPb 0 rfl rfl 2 (by decide) (hts (.fieldLink R_P 55 "PeriodWords$Word" "ringLength" "I") (List.mem_cons_of_mem _ mb_81)) (fun _ h9 => h9) rfl d_P_mostKept_16 ?_
  refine vp_callSi (W.runS (As := [.int (nI (pp)), .int (nI (pp2))]) (rest := [.int (nI (max h h2))]) ⟨hx, hb, hml, hown, hts⟩ (c_P_cm l dC dI hp6 hp02 hp62) (va_cwS 2 hts (gd_S mb_157 mb_158 mb_22 mb_159) rfl rfl rfl (by decide +kernel) ⟨Nat.le_of_ble_eq_true rfl, Nat.le_of_ble_eq_true rfl⟩) (pw_R_S pw_P0 (hKa.sub [] rfl)) rfl rfl hl.1 rfl (lv_room (Nat.le_of_ble_eq_true rfl)) d_P_mostKept_19 ⟨Nat.le_of_ble_eq_true rfl, Nat.le_of_ble_eq_true rfl⟩) (fun r_19 hr_19 => ?_)
  subst hr_19
  refine pq_iadd (a := (max h h2)) (b := (pp / Nat.gcd pp pp2 * pp2)) hx hb d_P_mostKept_22 ?_
  refine lv_istore_n (lv' := [(2, .int (nI ((max h h2) + (pp / Nat.gcd pp pp2 * pp2)))), (0, .ref a), (1, .ref a2)]) hx hb d_P_mostKept_23 rfl hl (by decide) rfl (fun ls hl => ?_)
  refine lv_iconst (v := nI 0) hx hb d_P_mostKept_24 (by decide) ?_
  refine lv_istore_n (lv' := [(3, .int (nI (0))), (2, .int (nI ((max h h2) + (pp / Nat.gcd pp pp2 * pp2)))), (0, .ref a), (1, .ref a2)]) hx hb d_P_mostKept_25 rfl hl (by decide) rfl (fun ls hl => ?_)
  refine lv_iconst (v := nI 0) hx hb d_P_mostKept_26 (by decide) ?_
  refine lv_istore (lv' := [(4, .int (nI (0))), (3, .int (nI (0))), (2, .int (nI ((max h h2) + (pp / Nat.gcd pp pp2 * pp2)))), (0, .ref a), (1, .ref a2)]) hx hb d_P_mostKept_27 hl (by decide) rfl (fun ls hl => ?_)
  refine lv_iconst (v := nI 0) hx hb d_P_mostKept_29 (by decide) ?_
  refine lv_istore (lv' := [(5, .int (nI (0))), (4, .int (nI (0))), (3, .int (nI (0))), (2, .int (nI ((max h h2) + (pp / Nat.gcd pp pp2 * pp2)))), (0, .ref a), (1, .ref a2)]) hx hb d_P_mostKept_30 hl (by decide) rfl (fun ls hl => ?_)
  have B_32 : ∀ (k_ : Nat) (kept : Int32) (most : Nat) (t : Nat) (ls : Array Slot), (max h h2 + pp / Nat.gcd pp pp2 * pp2 - t) < k_ → (t ≤ max h h2 + pp / Nat.gcd pp pp2 * pp2) → (kept = nI (pw_c f t) - nI (pw_c f2 t)) → (most = pw_ks f f2 t) → (most ≤ t) → lv_has ls 6 [(0, .ref a), (1, .ref a2), (2, .int (nI (max h h2 + (pp / Nat.gcd pp pp2 * pp2)))), (3, .int (kept)), (4, .int (nI (most))), (5, .int (nI (t)))] → W p l e (headSpec ws_P_mostKept ({ frames := 3, cells := 0, slots := 0, locals := 67 } : Room)).room s m ([.ref a, .ref a2]).toArray below meth c s.heap [] 0 0 (MQ below (vp_Si (fun r => r = nI (pw_ks f f2 (max h h2 + pp / Nat.gcd pp pp2 * pp2)))) ([.ref a, .ref a2]).toArray s 0 0 (fun _ => False)) (F0 m 32 ls []) := by
    intro k_
    induction k_ with
    | zero => intro kept most t ls h_; omega
    | succ k_ ih_32 =>
      intro kept most t ls hm_ ht hk hm hm2 hl
      refine lv_iload hx hb d_P_mostKept_32 (lv_at hl 5 rfl) ?_
      refine lv_iload_n hx hb d_P_mostKept_34 rfl (lv_at hl 2 rfl) ?_
      refine pq_icmp_ge (tgt := 68) (a := t) (b := (max h h2 + (pp / Nat.gcd pp pp2 * pp2))) hx hb d_P_mostKept_35 (by decide) (by omega) (by omega) (fun c_35 => ?_) (fun c_35 => ?_)
      · refine lv_iload hx hb d_P_mostKept_68 (lv_at hl 4 rfl) ?_
        exact W.iret (v := (nI (most))) hx hb hr (fun t_ ht_ hW_ => ⟨_, rfl, by (try dsimp only); rw [hm, show t = max h h2 + pp / Nat.gcd pp pp2 * pp2 by omega], ht_⟩) (fun q h => absurd h List.not_mem_nil) d_P_mostKept_70
      · have q1 := pw_c_le f (t + 1)
        have q2 := pw_c_le f2 (t + 1)
        refine lv_iload_n hx hb d_P_mostKept_38 rfl (lv_at hl 3 rfl) ?_
        refine lv_aload_n hx hb d_P_mostKept_39 rfl (lv_at hl 0 rfl) ?_
        refine lv_iload hx hb d_P_mostKept_40 (lv_at hl 5 rfl) ?_
        refine vp_callSi (W.runV (As := [.int (nI (t))]) (rest := [.int (kept)]) ⟨hx, hb, hml, hown, hts⟩ (c_W_bitAt l dC dI hw (t := t) (by omega)) (cwV 1 hts (gd_V mb_204 mb_171 mb_172 mb_24 mb_173) rfl rfl rfl (by decide +kernel) ⟨Nat.le_of_ble_eq_true rfl, Nat.le_of_ble_eq_true rfl⟩) (pw_R_V (va_recv hKa hPa (ci := ciW) (q0 := 0) rfl rfl) hPa hKa) rfl rfl hl.1 rfl (lv_room (Nat.le_of_ble_eq_true rfl)) d_P_mostKept_42 ⟨Nat.le_of_ble_eq_true rfl, Nat.le_of_ble_eq_true rfl⟩) (fun r_42 hr_42 => ?_)
        subst hr_42
        refine lv_aload_n hx hb d_P_mostKept_45 rfl (lv_at hl 1 rfl) ?_
        refine lv_iload hx hb d_P_mostKept_46 (lv_at hl 5 rfl) ?_
        refine vp_callSi (W.runV (As := [.int (nI (t))]) (rest := [.int (nI ((f t).toNat)), .int (kept)]) ⟨hx, hb, hml, hown, hts⟩ (c_W_bitAt l dC dI hw2 (t := t) (by omega)) (cwV 1 hts (gd_V mb_204 mb_171 mb_172 mb_24 mb_173) rfl rfl rfl (by decide +kernel) ⟨Nat.le_of_ble_eq_true rfl, Nat.le_of_ble_eq_true rfl⟩) (pw_R_V (va_recv hKb hPb (ci := ciW) (q0 := 0) rfl rfl) hPb hKb) rfl rfl hl.1 rfl (lv_room (Nat.le_of_ble_eq_true rfl)) d_P_mostKept_48 ⟨Nat.le_of_ble_eq_true rfl, Nat.le_of_ble_eq_true rfl⟩) (fun r_48 hr_48 => ?_)
        subst hr_48
        refine lv_isub hx hb d_P_mostKept_51 ?_
        refine lv_topi (fun x_1 ex_1 => ?_)
        refine pq_top (y := .int (nI (f t).toNat - nI (f2 t).toNat)) (by rw [ex_1]) ?_
        refine lv_iadd hx hb d_P_mostKept_52 ?_
        refine lv_topi (fun x_2 ex_2 => ?_)
        refine pq_top (y := .int (nI (pw_c f (t + 1)) - nI (pw_c f2 (t + 1)))) (by rw [ex_2, hk, pq_kept]; rfl) ?_
        refine lv_istore_n (lv' := [(3, .int (nI (pw_c f (t + 1)) - nI (pw_c f2 (t + 1)))), (0, .ref a), (1, .ref a2), (2, .int (nI (max h h2 + (pp / Nat.gcd pp pp2 * pp2)))), (4, .int (nI (most))), (5, .int (nI (t)))]) hx hb d_P_mostKept_53 rfl hl (by decide) rfl (fun ls hl => ?_)
        refine lv_iload hx hb d_P_mostKept_54 (lv_at hl 4 rfl) ?_
        refine lv_iload_n hx hb d_P_mostKept_56 rfl (lv_at hl 0 rfl) ?_
        refine va_mmax hx hb (hml.trans hl.1.symm) hown (hts (.methodLink R_P 127 Lib.Math.max.name) (List.mem_cons_of_mem _ mb_146)) (hts (.static Lib.Math.max.name) (List.mem_cons_of_mem _ mb_65)) (hts (.initialized "java/lang/Math") (List.mem_cons_of_mem _ mb_25)) (hts (.code Lib.Math.max.name Lib.Math.max.code 2 (some .int)) (List.mem_cons_of_mem _ mb_66)) (Nat.le_of_ble_eq_true rfl) (Nat.le_of_ble_eq_true rfl) (Nat.le_of_ble_eq_true rfl) (Nat.le_of_ble_eq_true rfl) d_P_mostKept_57 ?_
        refine lv_topi (fun x_3 ex_3 => ?_)
        refine pq_top (y := .int (nI (max most (pw_c f (t + 1) - pw_c f2 (t + 1))))) (by rw [ex_3, pq_maxs (by omega) (by omega) (by omega)]) ?_
        refine lv_istore (lv' := [(4, .int (nI (max most (pw_c f (t + 1) - pw_c f2 (t + 1))))), (3, .int (nI (pw_c f (t + 1)) - nI (pw_c f2 (t + 1)))), (0, .ref a), (1, .ref a2), (2, .int (nI (max h h2 + (pp / Nat.gcd pp pp2 * pp2)))), (5, .int (nI (t)))]) hx hb d_P_mostKept_60 hl (by decide) rfl (fun ls hl => ?_)
        refine lv_iinc (v := nI (t + 1)) (lv' := [(5, .int (nI (t + 1))), (4, .int (nI (max most (pw_c f (t + 1) - pw_c f2 (t + 1))))), (3, .int (nI (pw_c f (t + 1)) - nI (pw_c f2 (t + 1)))), (0, .ref a), (1, .ref a2), (2, .int (nI (max h h2 + (pp / Nat.gcd pp pp2 * pp2))))]) hx hb d_P_mostKept_62 hl (k := 5) rfl (pq_inc _) (by decide) rfl (fun ls hl => ?_)
        refine lv_goto (tgt := 32) hx hb d_P_mostKept_65 (by decide) ?_
        exact ih_32 (nI (pw_c f (t + 1)) - nI (pw_c f2 (t + 1))) (max most (pw_c f (t + 1) - pw_c f2 (t + 1))) (t + 1) ls (by omega) (by omega) rfl (by rw [hm, pw_ks_s]) (by omega) (lv_sub hl [3, 4, 5, 2, 1, 0] rfl)
  exact B_32 _ (nI (0)) (0) (0) ls (Nat.lt_succ_self _) (by omega) (show nI 0 = nI 0 - nI 0 by decide) rfl (by omega) (lv_sub hl [4, 5, 3, 2, 1, 0] rfl)
set_option maxHeartbeats 4000000 in
set_option maxRecDepth 100000 in
theorem c_P_mostBehind (l : Launch) (dC : Nat → ClassId) (dI : Nat → Nat → Nat) {a q h pp : Nat} {cA : ClassId} {f : Nat → Bool} {pl : Nat → Int32} (hw : wd_ok h pp f) {a2 q2 h2 pp2 : Nat} {cA2 : ClassId} {f2 : Nat → Bool} {pl2 : Nat → Int32} (hw2 : wd_ok h2 pp2 f2) (hpl : wd_pl h pp f pl) (hpl2 : wd_pl h2 pp2 f2 pl2) {k : Nat} (hk : k ≤ 10000) (hxa : ∀ n, 0 < n → n ≤ k → 0 < pw_o f h pp ∨ n ≤ pw_c f h) (hxb : ∀ n, 0 < n → n ≤ k → 0 < pw_o f2 h2 pp2 ∨ n ≤ pw_c f2 h2) : Met l y_P_mostBehind ws_P_mostBehind ({ frames := 2, cells := 0, slots := 0, locals := 43 } : Room) (pw_R [.ref a, .ref a2, .int (nI (k))] dC dI [(cA, .int), (cA2, .int)] (wd a q cA h pp f pl ++ wd a2 q2 cA2 h2 pp2 f2 pl2)) (vp_Si (fun r => r = nI (pw_md f f2 k))) 0 0 (fun _ => False) := by
  refine Met.ofW (cc := b_P_mostBehind) (maxL := 5) (ret := (some .int)) (by decide) rfl ?_
  intro p e s m args below meth c s₁ B hml hv
  obtain ⟨rfl, hP, hK⟩ := hv
  have hx := B.exec
  have hb := B.bytes
  have hr := B.returns
  have hts := atoms_spec (ws := ws_P_mostBehind) B.pre
  have hown : s.vm.findClass R_P = some m.cls := findClass_of_methodNamed B.named
  have hlocks := B.notSynchronized
  have hw0 := hw; obtain ⟨hh, hp0, hp6, hE⟩ := hw0
  have ho := pw_o_le f h pp
  have hc := pw_c_le f h
  have hw20 := hw2; obtain ⟨hh2, hp02, hp62, hE2⟩ := hw20
  have ho2 := pw_o_le f2 h2 pp2
  have hc2 := pw_c_le f2 h2
  have hPa := hP.sub (ws' := wd a q cA h pp f pl) [0, 1] rfl
  have hKa := hK.sub (tys' := [(cA, .int)]) [0] rfl
  have hPb := hP.sub (ws' := wd a2 q2 cA2 h2 pp2 f2 pl2) [2, 3] rfl
  have hKb := hK.sub (tys' := [(cA2, .int)]) [1] rfl
  have hl := lv_entry ([.ref a, .ref a2, .int (nI (k))]) (n := 5) (Nat.le_of_ble_eq_true rfl)
  rw [lg_entry_eq]
  generalize (lg_sl ([.ref a, .ref a2, .int (nI (k))]) ++ List.replicate (5 - (lg_sl ([.ref a, .ref a2, .int (nI (k))])).length) Slot.unset).toArray = ls at hl ⊢
  have hl : lv_has ls 5 [(0, .ref a), (1, .ref a2), (2, .int (nI (k)))] := hl
  refine lv_iconst (v := nI 0) hx hb d_P_mostBehind_0 (by decide) ?_
  refine lv_istore_n (lv' := [(3, .int (nI (0))), (0, .ref a), (1, .ref a2), (2, .int (nI (k)))]) hx hb d_P_mostBehind_1 rfl hl (by decide) rfl (fun ls hl => ?_)
  refine lv_iconst (v := nI 1) hx hb d_P_mostBehind_2 (by decide) ?_
  refine lv_istore (lv' := [(4, .int (nI (1))), (3, .int (nI (0))), (0, .ref a), (1, .ref a2), (2, .int (nI (k)))]) hx hb d_P_mostBehind_3 hl (by decide) rfl (fun ls hl => ?_)
  have B_5 : ∀ (k_ : Nat) (most : Nat) (n : Nat) (ls : Array Slot), (k + 1 - n) < k_ → (0 < n) → (n ≤ k + 1) → (most = pw_md f f2 (n - 1)) → (most < 1000000) → lv_has ls 5 [(0, .ref a), (1, .ref a2), (2, .int (nI (k))), (3, .int (nI (most))), (4, .int (nI (n)))] → W p l e (headSpec ws_P_mostBehind ({ frames := 2, cells := 0, slots := 0, locals := 43 } : Room)).room s m ([.ref a, .ref a2, .int (nI (k))]).toArray below meth c s.heap [] 0 0 (MQ below (vp_Si (fun r => r = nI (pw_md f f2 k))) ([.ref a, .ref a2, .int (nI (k))]).toArray s 0 0 (fun _ => False)) (F0 m 5 ls []) := by
    intro k_
    induction k_ with
    | zero => intro most n ls h_; omega
    | succ k_ ih_5 =>
      intro most n ls hm_ hn0 hn1 hm hm2 hl
      refine lv_iload hx hb d_P_mostBehind_5 (lv_at hl 4 rfl) ?_
      refine lv_iload_n hx hb d_P_mostBehind_7 rfl (lv_at hl 2 rfl) ?_
      refine pq_icmp_gt (tgt := 35) (a := n) (b := k) hx hb d_P_mostBehind_8 (by decide) (by omega) (by omega) (fun c_8 => ?_) (fun c_8 => ?_)
      · refine lv_iload_n hx hb d_P_mostBehind_35 rfl (lv_at hl 3 rfl) ?_
        exact W.iret (v := (nI (most))) hx hb hr (fun t_ ht_ hW_ => ⟨_, rfl, by (try dsimp only); rw [hm, show n - 1 = k by omega], ht_⟩) (fun q h => absurd h List.not_mem_nil) d_P_mostBehind_36
      · have t1 := pw_tk_le hE hp0 hn0 (hxa n hn0 c_8)
        have t2 := pw_tk_le hE2 hp02 hn0 (hxb n hn0 c_8)
        have t3 : n * pp ≤ 10000 * 60 := Nat.mul_le_mul (by omega) hp6
        have t4 : n * pp2 ≤ 10000 * 60 := Nat.mul_le_mul (by omega) hp62
        refine lv_iload_n hx hb d_P_mostBehind_11 rfl (lv_at hl 3 rfl) ?_
        refine lv_aload_n hx hb d_P_mostBehind_12 rfl (lv_at hl 0 rfl) ?_
        refine lv_iload hx hb d_P_mostBehind_13 (lv_at hl 4 rfl) ?_
        refine vp_callSi (W.runV (As := [.int (nI (n))]) (rest := [.int (nI (most))]) ⟨hx, hb, hml, hown, hts⟩ (c_W_tickOf l dC dI hw hpl (n := n) hn0 (by omega) (hxa n hn0 c_8)) (cwV 1 hts (gd_V mb_138 mb_139 mb_140 mb_24 mb_141) rfl rfl rfl (by decide +kernel) ⟨Nat.le_of_ble_eq_true rfl, Nat.le_of_ble_eq_true rfl⟩) (pw_R_V (va_recv hKa hPa (ci := ciW) (q0 := 0) rfl rfl) hPa hKa) rfl rfl hl.1 rfl (lv_room (Nat.le_of_ble_eq_true rfl)) d_P_mostBehind_15 ⟨Nat.le_of_ble_eq_true rfl, Nat.le_of_ble_eq_true rfl⟩) (fun r_15 hr_15 => ?_)
        subst hr_15
        refine lv_aload_n hx hb d_P_mostBehind_18 rfl (lv_at hl 1 rfl) ?_
        refine lv_iload hx hb d_P_mostBehind_19 (lv_at hl 4 rfl) ?_
        refine vp_callSi (W.runV (As := [.int (nI (n))]) (rest := [.int (nI (pw_tk f n)), .int (nI (most))]) ⟨hx, hb, hml, hown, hts⟩ (c_W_tickOf l dC dI hw2 hpl2 (n := n) hn0 (by omega) (hxb n hn0 c_8)) (cwV 1 hts (gd_V mb_138 mb_139 mb_140 mb_24 mb_141) rfl rfl rfl (by decide +kernel) ⟨Nat.le_of_ble_eq_true rfl, Nat.le_of_ble_eq_true rfl⟩) (pw_R_V (va_recv hKb hPb (ci := ciW) (q0 := 0) rfl rfl) hPb hKb) rfl rfl hl.1 rfl (lv_room (Nat.le_of_ble_eq_true rfl)) d_P_mostBehind_21 ⟨Nat.le_of_ble_eq_true rfl, Nat.le_of_ble_eq_true rfl⟩) (fun r_21 hr_21 => ?_)
        subst hr_21
        refine lv_isub hx hb d_P_mostBehind_24 ?_
        refine lv_topi (fun x_1 ex_1 => ?_)
        refine pq_top (y := .int (nI (pw_tk f n) - nI (pw_tk f2 n))) (by rw [ex_1]) ?_
        refine va_mmax hx hb (hml.trans hl.1.symm) hown (hts (.methodLink R_P 127 Lib.Math.max.name) (List.mem_cons_of_mem _ mb_146)) (hts (.static Lib.Math.max.name) (List.mem_cons_of_mem _ mb_65)) (hts (.initialized "java/lang/Math") (List.mem_cons_of_mem _ mb_25)) (hts (.code Lib.Math.max.name Lib.Math.max.code 2 (some .int)) (List.mem_cons_of_mem _ mb_66)) (Nat.le_of_ble_eq_true rfl) (Nat.le_of_ble_eq_true rfl) (Nat.le_of_ble_eq_true rfl) (Nat.le_of_ble_eq_true rfl) d_P_mostBehind_25 ?_
        refine lv_topi (fun x_2 ex_2 => ?_)
        refine pq_top (y := .int (nI (max most (pw_tk f n - pw_tk f2 n)))) (by rw [ex_2, pq_maxs (by omega) (by omega) (by omega)]) ?_
        refine lv_istore_n (lv' := [(3, .int (nI (max most (pw_tk f n - pw_tk f2 n)))), (0, .ref a), (1, .ref a2), (2, .int (nI (k))), (4, .int (nI (n)))]) hx hb d_P_mostBehind_28 rfl hl (by decide) rfl (fun ls hl => ?_)
        refine lv_iinc (v := nI (n + 1)) (lv' := [(4, .int (nI (n + 1))), (3, .int (nI (max most (pw_tk f n - pw_tk f2 n)))), (0, .ref a), (1, .ref a2), (2, .int (nI (k)))]) hx hb d_P_mostBehind_29 hl (k := 4) rfl (pq_inc _) (by decide) rfl (fun ls hl => ?_)
        refine lv_goto (tgt := 5) hx hb d_P_mostBehind_32 (by decide) ?_
        exact ih_5 (max most (pw_tk f n - pw_tk f2 n)) (n + 1) ls (by omega) (by omega) (by omega) (by rw [hm, show n + 1 - 1 = (n - 1) + 1 by omega, pw_md_s, show n - 1 + 1 = n by omega]) (by omega) (lv_sub hl [2, 3, 4, 1, 0] rfl)
  exact B_5 _ (0) (1) ls (Nat.lt_succ_self _) (by omega) (by omega) rfl (by omega) (lv_sub hl [2, 3, 4, 1, 0] rfl)
set_option maxHeartbeats 4000000 in
set_option maxRecDepth 100000 in
theorem c_P_leastWait (l : Launch) (dC : Nat → ClassId) (dI : Nat → Nat → Nat) {a q h pp : Nat} {cA : ClassId} {f : Nat → Bool} {pl : Nat → Int32} (hw : wd_ok h pp f) {a2 q2 h2 pp2 : Nat} {cA2 : ClassId} {f2 : Nat → Bool} {pl2 : Nat → Int32} (hw2 : wd_ok h2 pp2 f2) (hpl : wd_pl h pp f pl) (hpl2 : wd_pl h2 pp2 f2 pl2) : Met l y_P_leastWait ws_P_leastWait ({ frames := 3, cells := 0, slots := 0, locals := 67 } : Room) (pw_R [.ref a, .ref a2] dC dI [(cA, .int), (cA2, .int)] (wd a q cA h pp f pl ++ wd a2 q2 cA2 h2 pp2 f2 pl2)) (vp_Si (fun r => (pw_o f2 h2 pp2 = 0 → (0 < pw_o f h pp ∨ pw_c f2 h2 ≤ pw_c f h) → r = nI (pw_md f f2 (pw_c f2 h2))) ∧ (pw_o f2 h2 pp2 = 0 → ¬ (0 < pw_o f h pp ∨ pw_c f2 h2 ≤ pw_c f h) → r = -1) ∧ (0 < pw_o f2 h2 pp2 → pw_o f h pp * pp2 < pw_o f2 h2 pp2 * pp → r = -1) ∧ (0 < pw_o f2 h2 pp2 → pw_o f2 h2 pp2 * pp ≤ pw_o f h pp * pp2 → r = nI (pw_md f f2 (max (pw_c f h) (pw_c f2 h2) + pw_o f h pp / Nat.gcd (pw_o f h pp) (pw_o f2 h2 pp2) * pw_o f2 h2 pp2))))) 0 0 (fun _ => False) := by
  refine Met.ofW (cc := b_P_leastWait) (maxL := 3) (ret := (some .int)) (by decide) rfl ?_
  intro p e s m args below meth c s₁ B hml hv
  obtain ⟨rfl, hP, hK⟩ := hv
  have hx := B.exec
  have hb := B.bytes
  have hr := B.returns
  have hts := atoms_spec (ws := ws_P_leastWait) B.pre
  have hown : s.vm.findClass R_P = some m.cls := findClass_of_methodNamed B.named
  have hlocks := B.notSynchronized
  have hw0 := hw; obtain ⟨hh, hp0, hp6, hE⟩ := hw0
  have ho := pw_o_le f h pp
  have hc := pw_c_le f h
  have hw20 := hw2; obtain ⟨hh2, hp02, hp62, hE2⟩ := hw20
  have ho2 := pw_o_le f2 h2 pp2
  have hc2 := pw_c_le f2 h2
  have hPa := hP.sub (ws' := wd a q cA h pp f pl) [0, 1] rfl
  have hKa := hK.sub (tys' := [(cA, .int)]) [0] rfl
  have hPb := hP.sub (ws' := wd a2 q2 cA2 h2 pp2 f2 pl2) [2, 3] rfl
  have hKb := hK.sub (tys' := [(cA2, .int)]) [1] rfl
  have m1 : pw_o f h pp * pp2 ≤ 60 * 60 := Nat.mul_le_mul (by omega) (by omega)
  have m2 : pw_o f2 h2 pp2 * pp ≤ 60 * 60 := Nat.mul_le_mul (by omega) (by omega)
  have m4 : pw_o f h pp / Nat.gcd (pw_o f h pp) (pw_o f2 h2 pp2) * pw_o f2 h2 pp2 ≤ 60 * 60 := Nat.mul_le_mul (Nat.le_trans (Nat.div_le_self _ _) (by omega)) (by omega)
  have hl := lv_entry ([.ref a, .ref a2]) (n := 3) (Nat.le_of_ble_eq_true rfl)
  rw [lg_entry_eq]
  generalize (lg_sl ([.ref a, .ref a2]) ++ List.replicate (3 - (lg_sl ([.ref a, .ref a2])).length) Slot.unset).toArray = ls at hl ⊢
  have hl : lv_has ls 3 [(0, .ref a), (1, .ref a2)] := hl
  refine lv_aload_n hx hb d_P_leastWait_0 rfl (lv_at hl 1 rfl) ?_
  refine va_get (D := (dC, dI)) (ci := ciW) (v := .int (nI (pw_o f2 h2 pp2))) (C := R_W) (T := F_W) (N := 7) hx hb hts (fun w h => List.mem_cons_of_mem _ (in_W w h)) hown hKb hPb 0 rfl rfl 5 (by decide) (hts (.fieldLink R_P 42 "PeriodWords$Word" "ringOnes" "I") (List.mem_cons_of_mem _ mb_87)) (fun _ h9 => h9) rfl d_P_leastWait_1 ?_
  refine pq_if_ne (tgt := 32) (a := (pw_o f2 h2 pp2)) hx hb d_P_leastWait_4 (by decide) (by omega) (fun c_4 => ?_) (fun c_4 => ?_)
  · refine lv_aload_n hx hb d_P_leastWait_32 rfl (lv_at hl 0 rfl) ?_
    refine lv_aload_n hx hb d_P_leastWait_33 rfl (lv_at hl 1 rfl) ?_
    refine vp_callSi (W.runS (As := [.ref a, .ref a2]) (rest := []) ⟨hx, hb, hml, hown, hts⟩ (c_P_compareRates l dC dI hw hw2) (va_cwS 2 hts (gd_S mb_227 mb_228 mb_22 mb_229) rfl rfl rfl (by decide +kernel) ⟨Nat.le_of_ble_eq_true rfl, Nat.le_of_ble_eq_true rfl⟩) (pw_R_S (hPa.app hPb) hK) rfl rfl hl.1 rfl (lv_room (Nat.le_of_ble_eq_true rfl)) d_P_leastWait_34 ⟨Nat.le_of_ble_eq_true rfl, Nat.le_of_ble_eq_true rfl⟩) (fun r_34 hr_34 => ?_)
    refine lv_if_ge (tgt := 42) hx hb d_P_leastWait_37 (by decide) (fun c_37 => ?_) (fun c_37 => ?_)
    · have hge : pw_o f2 h2 pp2 * pp ≤ pw_o f h pp * pp2 := by
        rcases Nat.lt_or_ge (pw_o f h pp * pp2) (pw_o f2 h2 pp2 * pp) with z | z
        · exfalso; rw [hr_34, if_pos z] at c_37; exact absurd c_37 (by decide)
        · exact z
      have ho0 : 0 < pw_o f h pp := by
        rcases Nat.eq_zero_or_pos (pw_o f h pp) with z | z
        · exfalso; rw [z, Nat.zero_mul] at hge; have := Nat.mul_pos c_4 hp0; omega
        · exact z
      refine lv_aload_n hx hb d_P_leastWait_42 rfl (lv_at hl 0 rfl) ?_
      refine va_get (D := (dC, dI)) (ci := ciW) (v := .int (nI (pw_c f h))) (C := R_W) (T := F_W) (N := 7) hx hb hts (fun w h => List.mem_cons_of_mem _ (in_W w h)) hown hKa hPa 0 rfl rfl 4 (by decide) (hts (.fieldLink R_P 62 "PeriodWords$Word" "headOnes" "I") (List.mem_cons_of_mem _ mb_85)) (fun _ h9 => h9) rfl d_P_leastWait_43 ?_
      refine lv_aload_n hx hb d_P_leastWait_46 rfl (lv_at hl 1 rfl) ?_
      refine va_get (D := (dC, dI)) (ci := ciW) (v := .int (nI (pw_c f2 h2))) (C := R_W) (T := F_W) (N := 7) hx hb hts (fun w h => List.mem_cons_of_mem _ (in_W w h)) hown hKb hPb 0 rfl rfl 4 (by decide) (hts (.fieldLink R_P 62 "PeriodWords$Word" "headOnes" "I") (List.mem_cons_of_mem _ mb_85)) (fun _ h9 => h9) rfl d_P_leastWait_47 ?_
      refine va_mmax hx hb (hml.trans hl.1.symm) hown (hts (.methodLink R_P 127 Lib.Math.max.name) (List.mem_cons_of_mem _ mb_146)) (hts (.static Lib.Math.max.name) (List.mem_cons_of_mem _ mb_65)) (hts (.initialized "java/lang/Math") (List.mem_cons_of_mem _ mb_25)) (hts (.code Lib.Math.max.name Lib.Math.max.code 2 (some .int)) (List.mem_cons_of_mem _ mb_66)) (Nat.le_of_ble_eq_true rfl) (Nat.le_of_ble_eq_true rfl) (Nat.le_of_ble_eq_true rfl) (Nat.le_of_ble_eq_true rfl) d_P_leastWait_50 ?_
      refine pq_top (y := .int (nI (max (pw_c f h) (pw_c f2 h2)))) (by rw [pq_max (by omega) (by omega)]) ?_
      refine lv_aload_n hx hb d_P_leastWait_53 rfl (lv_at hl 0 rfl) ?_
      refine va_get (D := (dC, dI)) (ci := ciW) (v := .int (nI (pw_o f h pp))) (C := R_W) (T := F_W) (N := 7) hx hb hts (fun w h => List.mem_cons_of_mem _ (in_W w h)) hown hKa hPa 0 rfl rfl 5 (by decide) (hts (.fieldLink R_P 42 "PeriodWords$Word" "ringOnes" "I") (List.mem_cons_of_mem _ mb_87)) (fun _ h9 => h9) rfl d_P_leastWait_54 ?_
      refine lv_aload_n hx hb d_P_leastWait_57 rfl (lv_at hl 1 rfl) ?_
      refine va_get (D := (dC, dI)) (ci := ciW) (v := .int (nI (pw_o f2 h2 pp2))) (C := R_W) (T := F_W) (N := 7) hx hb hts (fun w h => List.mem_cons_of_mem _ (in_W w h)) hown hKb hPb 0 rfl rfl 5 (by decide) (hts (.fieldLink R_P 42 "PeriodWords$Word" "ringOnes" "I") (List.mem_cons_of_mem _ mb_87)) (fun _ h9 => h9) rfl d_P_leastWait_58 ?_
      refine vp_callSi (W.runS (As := [.int (nI (pw_o f h pp)), .int (nI (pw_o f2 h2 pp2))]) (rest := [.int (nI (max (pw_c f h) (pw_c f2 h2)))]) ⟨hx, hb, hml, hown, hts⟩ (c_P_cm l dC dI (x := pw_o f h pp) (y := pw_o f2 h2 pp2) (by omega) (by omega) (by omega)) (va_cwS 2 hts (gd_S mb_157 mb_158 mb_22 mb_159) rfl rfl rfl (by decide +kernel) ⟨Nat.le_of_ble_eq_true rfl, Nat.le_of_ble_eq_true rfl⟩) (pw_R_S pw_P0 (hKa.sub [] rfl)) rfl rfl hl.1 rfl (lv_room (Nat.le_of_ble_eq_true rfl)) d_P_leastWait_61 ⟨Nat.le_of_ble_eq_true rfl, Nat.le_of_ble_eq_true rfl⟩) (fun r_61 hr_61 => ?_)
      subst hr_61
      refine pq_iadd (a := (max (pw_c f h) (pw_c f2 h2))) (b := (pw_o f h pp / Nat.gcd (pw_o f h pp) (pw_o f2 h2 pp2) * pw_o f2 h2 pp2)) hx hb d_P_leastWait_64 ?_
      refine lv_istore_n (lv' := [(2, .int (nI ((max (pw_c f h) (pw_c f2 h2)) + (pw_o f h pp / Nat.gcd (pw_o f h pp) (pw_o f2 h2 pp2) * pw_o f2 h2 pp2)))), (0, .ref a), (1, .ref a2)]) hx hb d_P_leastWait_65 rfl hl (by decide) rfl (fun ls hl => ?_)
      refine lv_aload_n hx hb d_P_leastWait_66 rfl (lv_at hl 1 rfl) ?_
      refine lv_aload_n hx hb d_P_leastWait_67 rfl (lv_at hl 2 rfl) ?_
      refine lv_iload_n hx hb d_P_leastWait_68 rfl (lv_at hl 0 rfl) ?_
      refine vp_callSi (W.runS (As := [.ref a, .ref a2, .int (nI ((max (pw_c f h) (pw_c f2 h2)) + (pw_o f h pp / Nat.gcd (pw_o f h pp) (pw_o f2 h2 pp2) * pw_o f2 h2 pp2)))]) (rest := []) ⟨hx, hb, hml, hown, hts⟩ (c_P_mostBehind l dC dI hw hw2 hpl hpl2 (k := max (pw_c f h) (pw_c f2 h2) + pw_o f h pp / Nat.gcd (pw_o f h pp) (pw_o f2 h2 pp2) * pw_o f2 h2 pp2) (by omega) (fun n _ _ => Or.inl ho0) (fun n _ _ => Or.inl c_4)) (va_cwS 3 hts (gd_S mb_224 mb_225 mb_22 mb_226) rfl rfl rfl (by decide +kernel) ⟨Nat.le_of_ble_eq_true rfl, Nat.le_of_ble_eq_true rfl⟩) (pw_R_S (hPa.app hPb) hK) rfl rfl hl.1 rfl (lv_room (Nat.le_of_ble_eq_true rfl)) d_P_leastWait_69 ⟨Nat.le_of_ble_eq_true rfl, Nat.le_of_ble_eq_true rfl⟩) (fun r_69 hr_69 => ?_)
      subst hr_69
      exact W.iret (v := (nI (pw_md f f2 (max (pw_c f h) (pw_c f2 h2) + pw_o f h pp / Nat.gcd (pw_o f h pp) (pw_o f2 h2 pp2) * pw_o f2 h2 pp2)))) hx hb hr (fun t_ ht_ hW_ => ⟨_, rfl, by (try dsimp only); refine ⟨fun z1 z2 => ?_, fun z1 z2 => ?_, fun z1 z2 => ?_, fun z1 z2 => ?_⟩ <;> first | rfl | (exfalso; omega), ht_⟩) (fun q h => absurd h List.not_mem_nil) d_P_leastWait_72
    · have hlt : pw_o f h pp * pp2 < pw_o f2 h2 pp2 * pp := by
        rcases Nat.lt_or_ge (pw_o f h pp * pp2) (pw_o f2 h2 pp2 * pp) with z | z
        · exact z
        · exfalso; apply c_37; rw [hr_34, if_neg (by omega)]; split <;> decide
      refine lv_iconst (v := (-1)) hx hb d_P_leastWait_40 (by decide) ?_
      exact W.iret (v := (-1)) hx hb hr (fun t_ ht_ hW_ => ⟨_, rfl, by (try dsimp only); refine ⟨fun z1 z2 => ?_, fun z1 z2 => ?_, fun z1 z2 => ?_, fun z1 z2 => ?_⟩ <;> first | rfl | (exfalso; omega), ht_⟩) (fun q h => absurd h List.not_mem_nil) d_P_leastWait_41
  · refine lv_aload_n hx hb d_P_leastWait_7 rfl (lv_at hl 0 rfl) ?_
    refine lv_aload_n hx hb d_P_leastWait_8 rfl (lv_at hl 1 rfl) ?_
    refine va_get (D := (dC, dI)) (ci := ciW) (v := .int (nI (pw_c f2 h2))) (C := R_W) (T := F_W) (N := 7) hx hb hts (fun w h => List.mem_cons_of_mem _ (in_W w h)) hown hKb hPb 0 rfl rfl 4 (by decide) (hts (.fieldLink R_P 62 "PeriodWords$Word" "headOnes" "I") (List.mem_cons_of_mem _ mb_85)) (fun _ h9 => h9) rfl d_P_leastWait_9 ?_
    refine vp_callSi (W.runV (As := [.int (nI (pw_c f2 h2))]) (rest := []) ⟨hx, hb, hml, hown, hts⟩ (c_W_hasOne l dC dI hw (n := pw_c f2 h2) (by omega)) (cwV 1 hts (gd_V mb_223 mb_143 mb_144 mb_24 mb_145) rfl rfl rfl (by decide +kernel) ⟨Nat.le_of_ble_eq_true rfl, Nat.le_of_ble_eq_true rfl⟩) (pw_R_V (va_recv hKa hPa (ci := ciW) (q0 := 0) rfl rfl) hPa hKa) rfl rfl hl.1 rfl (lv_room (Nat.le_of_ble_eq_true rfl)) d_P_leastWait_12 ⟨Nat.le_of_ble_eq_true rfl, Nat.le_of_ble_eq_true rfl⟩) (fun r_12 hr_12 => ?_)
    subst hr_12
    have hdd := pw_bt (decide (0 < pw_o f h pp ∨ pw_c f2 h2 ≤ pw_c f h))
    rw [decide_eq_true_iff, decide_eq_false_iff_not] at hdd
    refine pq_if_eq (tgt := 30) (a := ((decide (0 < pw_o f h pp ∨ pw_c f2 h2 ≤ pw_c f h)).toNat)) hx hb d_P_leastWait_15 (by decide) (by omega) (fun c_15 => ?_) (fun c_15 => ?_)
    · refine lv_iconst (v := (-1)) hx hb d_P_leastWait_30 (by decide) ?_
      exact W.iret (v := (-1)) hx hb hr (fun t_ ht_ hW_ => ⟨_, rfl, by (try dsimp only); refine ⟨fun z1 z2 => ?_, fun z1 z2 => ?_, fun z1 z2 => ?_, fun z1 z2 => ?_⟩ <;> first | rfl | (exfalso; omega), ht_⟩) (fun q h => absurd h List.not_mem_nil) d_P_leastWait_31
    · refine lv_aload_n hx hb d_P_leastWait_18 rfl (lv_at hl 0 rfl) ?_
      refine lv_aload_n hx hb d_P_leastWait_19 rfl (lv_at hl 1 rfl) ?_
      refine lv_aload_n hx hb d_P_leastWait_20 rfl (lv_at hl 1 rfl) ?_
      refine va_get (D := (dC, dI)) (ci := ciW) (v := .int (nI (pw_c f2 h2))) (C := R_W) (T := F_W) (N := 7) hx hb hts (fun w h => List.mem_cons_of_mem _ (in_W w h)) hown hKb hPb 0 rfl rfl 4 (by decide) (hts (.fieldLink R_P 62 "PeriodWords$Word" "headOnes" "I") (List.mem_cons_of_mem _ mb_85)) (fun _ h9 => h9) rfl d_P_leastWait_21 ?_
      refine vp_callSi (W.runS (As := [.ref a, .ref a2, .int (nI (pw_c f2 h2))]) (rest := []) ⟨hx, hb, hml, hown, hts⟩ (c_P_mostBehind l dC dI hw hw2 hpl hpl2 (k := pw_c f2 h2) (by omega) (fun n _ hn => by omega) (fun n _ hn => Or.inr hn)) (va_cwS 3 hts (gd_S mb_224 mb_225 mb_22 mb_226) rfl rfl rfl (by decide +kernel) ⟨Nat.le_of_ble_eq_true rfl, Nat.le_of_ble_eq_true rfl⟩) (pw_R_S (hPa.app hPb) hK) rfl rfl hl.1 rfl (lv_room (Nat.le_of_ble_eq_true rfl)) d_P_leastWait_24 ⟨Nat.le_of_ble_eq_true rfl, Nat.le_of_ble_eq_true rfl⟩) (fun r_24 hr_24 => ?_)
      subst hr_24
      refine lv_goto (tgt := 31) hx hb d_P_leastWait_27 (by decide) ?_
      exact W.iret (v := (nI (pw_md f f2 (pw_c f2 h2)))) hx hb hr (fun t_ ht_ hW_ => ⟨_, rfl, by (try dsimp only); refine ⟨fun z1 z2 => ?_, fun z1 z2 => ?_, fun z1 z2 => ?_, fun z1 z2 => ?_⟩ <;> first | rfl | (exfalso; omega), ht_⟩) (fun q h => absurd h List.not_mem_nil) d_P_leastWait_31
set_option maxHeartbeats 4000000 in
set_option maxRecDepth 100000 in
theorem c_P_alike (l : Launch) (dC : Nat → ClassId) (dI : Nat → Nat → Nat) {a q h pp : Nat} {cA : ClassId} {f : Nat → Bool} {pl : Nat → Int32} (hw : wd_ok h pp f) {a2 q2 h2 pp2 : Nat} {cA2 : ClassId} {f2 : Nat → Bool} {pl2 : Nat → Int32} (hw2 : wd_ok h2 pp2 f2) : Met l y_P_alike ws_P_alike ({ frames := 0, cells := 0, slots := 0, locals := 0 } : Room) (pw_R [.ref a, .ref a2] dC dI [(cA, .int), (cA2, .int)] (wd a q cA h pp f pl ++ wd a2 q2 cA2 h2 pp2 f2 pl2)) (vp_Si (fun r => r = nI (decide (h = h2 ∧ pw_b f 0 h = pw_b f2 0 h2 ∧ pp = pp2 ∧ pw_b f h pp = pw_b f2 h2 pp2)).toNat)) 0 0 (fun _ => False) := by
  refine Met.ofW (cc := b_P_alike) (maxL := 2) (ret := (some .boolean)) (by decide) rfl ?_
  intro p e s m args below meth c s₁ B hml hv
  obtain ⟨rfl, hP, hK⟩ := hv
  have hx := B.exec
  have hb := B.bytes
  have hr := B.returns
  have hts := atoms_spec (ws := ws_P_alike) B.pre
  have hown : s.vm.findClass R_P = some m.cls := findClass_of_methodNamed B.named
  have hlocks := B.notSynchronized
  have hw0 := hw; obtain ⟨hh, hp0, hp6, hE⟩ := hw0
  have ho := pw_o_le f h pp
  have hc := pw_c_le f h
  have hw20 := hw2; obtain ⟨hh2, hp02, hp62, hE2⟩ := hw20
  have ho2 := pw_o_le f2 h2 pp2
  have hc2 := pw_c_le f2 h2
  have hPa := hP.sub (ws' := wd a q cA h pp f pl) [0, 1] rfl
  have hKa := hK.sub (tys' := [(cA, .int)]) [0] rfl
  have hPb := hP.sub (ws' := wd a2 q2 cA2 h2 pp2 f2 pl2) [2, 3] rfl
  have hKb := hK.sub (tys' := [(cA2, .int)]) [1] rfl
  have b1 := pq_lt60 (pw_b_lt f 0 h) hh
  have b2 := pq_lt60 (pw_b_lt f h pp) hp6
  have b3 := pq_lt60 (pw_b_lt f2 0 h2) hh2
  have b4 := pq_lt60 (pw_b_lt f2 h2 pp2) hp62
  have hl := lv_entry ([.ref a, .ref a2]) (n := 2) (Nat.le_of_ble_eq_true rfl)
  rw [lg_entry_eq]
  generalize (lg_sl ([.ref a, .ref a2]) ++ List.replicate (2 - (lg_sl ([.ref a, .ref a2])).length) Slot.unset).toArray = ls at hl ⊢
  have hl : lv_has ls 2 [(0, .ref a), (1, .ref a2)] := hl
  refine lv_aload_n hx hb d_P_alike_0 rfl (lv_at hl 0 rfl) ?_
  refine lv_ifnull hx hb d_P_alike_1 ?_
  refine lv_aload_n hx hb d_P_alike_4 rfl (lv_at hl 1 rfl) ?_
  refine lv_ifnull hx hb d_P_alike_5 ?_
  refine lv_aload_n hx hb d_P_alike_8 rfl (lv_at hl 0 rfl) ?_
  refine va_get (D := (dC, dI)) (ci := ciW) (v := .int (nI (h))) (C := R_W) (T := F_W) (N := 7) hx hb hts (fun w h => List.mem_cons_of_mem _ (in_W w h)) hown hKa hPa 0 rfl rfl 0 (by decide) (hts (.fieldLink R_P 52 "PeriodWords$Word" "headLength" "I") (List.mem_cons_of_mem _ mb_77)) (fun _ h9 => h9) rfl d_P_alike_9 ?_
  refine lv_aload_n hx hb d_P_alike_12 rfl (lv_at hl 1 rfl) ?_
  refine va_get (D := (dC, dI)) (ci := ciW) (v := .int (nI (h2))) (C := R_W) (T := F_W) (N := 7) hx hb hts (fun w h => List.mem_cons_of_mem _ (in_W w h)) hown hKb hPb 0 rfl rfl 0 (by decide) (hts (.fieldLink R_P 52 "PeriodWords$Word" "headLength" "I") (List.mem_cons_of_mem _ mb_77)) (fun _ h9 => h9) rfl d_P_alike_13 ?_
  refine pq_icmp_ne (tgt := 58) (a := h) (b := h2) hx hb d_P_alike_16 (by decide) (by omega) (by omega) (fun c_16 => ?_) (fun c_16 => ?_)
  · refine lv_iconst (v := nI 0) hx hb d_P_alike_58 (by decide) ?_
    exact W.zret (v := (nI (0))) hx hb hr (by decide) (fun t_ ht_ hW_ => ⟨_, rfl, by (try dsimp only); rw [decide_eq_false (by omega)]; rfl, ht_⟩) (fun q h => absurd h List.not_mem_nil) d_P_alike_59
  · refine lv_aload_n hx hb d_P_alike_19 rfl (lv_at hl 0 rfl) ?_
    refine va_get (D := (dC, dI)) (ci := ciW) (v := .long (lN (pw_b f 0 h))) (C := R_W) (T := F_W) (N := 7) hx hb hts (fun w h => List.mem_cons_of_mem _ (in_W w h)) hown hKa hPa 0 rfl rfl 1 (by decide) (hts (.fieldLink R_P 108 "PeriodWords$Word" "headBits" "J") (List.mem_cons_of_mem _ mb_79)) (fun _ h9 => h9) rfl d_P_alike_20 ?_
    refine lv_aload_n hx hb d_P_alike_23 rfl (lv_at hl 1 rfl) ?_
    refine va_get (D := (dC, dI)) (ci := ciW) (v := .long (lN (pw_b f2 0 h2))) (C := R_W) (T := F_W) (N := 7) hx hb hts (fun w h => List.mem_cons_of_mem _ (in_W w h)) hown hKb hPb 0 rfl rfl 1 (by decide) (hts (.fieldLink R_P 108 "PeriodWords$Word" "headBits" "J") (List.mem_cons_of_mem _ mb_79)) (fun _ h9 => h9) rfl d_P_alike_24 ?_
    refine W.lcmp hx hb d_P_alike_27 ?_
    refine lv_topi (fun x_1 ex_1 => ?_)
    refine lv_if_ne (tgt := 58) hx hb d_P_alike_28 (by decide) (fun c_28 => ?_) (fun c_28 => ?_)
    · have c_28n : pw_b f 0 h ≠ pw_b f2 0 h2 := fun z_ => c_28 (by rw [ex_1]; exact (pq_cmpN (by omega) (by omega)).mpr z_)
      refine lv_iconst (v := nI 0) hx hb d_P_alike_58 (by decide) ?_
      exact W.zret (v := (nI (0))) hx hb hr (by decide) (fun t_ ht_ hW_ => ⟨_, rfl, by (try dsimp only); rw [decide_eq_false (by omega)]; rfl, ht_⟩) (fun q h => absurd h List.not_mem_nil) d_P_alike_59
    · have c_28n : pw_b f 0 h = pw_b f2 0 h2 := (pq_cmpN (by omega) (by omega)).mp (by rw [← ex_1]; exact c_28)
      refine lv_aload_n hx hb d_P_alike_31 rfl (lv_at hl 0 rfl) ?_
      refine va_get (D := (dC, dI)) (ci := ciW) (v := .int (nI (pp))) (C := R_W) (T := F_W) (N := 7) hx hb hts (fun w h => List.mem_cons_of_mem _ (in_W w h)) hown hKa hPa 0 rfl rfl 2 (by decide) (hts (.fieldLink R_P 55 "PeriodWords$Word" "ringLength" "I") (List.mem_cons_of_mem _ mb_81)) (fun _ h9 => h9) rfl d_P_alike_32 ?_
      refine lv_aload_n hx hb d_P_alike_35 rfl (lv_at hl 1 rfl) ?_
      refine va_get (D := (dC, dI)) (ci := ciW) (v := .int (nI (pp2))) (C := R_W) (T := F_W) (N := 7) hx hb hts (fun w h => List.mem_cons_of_mem _ (in_W w h)) hown hKb hPb 0 rfl rfl 2 (by decide) (hts (.fieldLink R_P 55 "PeriodWords$Word" "ringLength" "I") (List.mem_cons_of_mem _ mb_81)) (fun _ h9 => h9) rfl d_P_alike_36 ?_
      refine pq_icmp_ne (tgt := 58) (a := pp) (b := pp2) hx hb d_P_alike_39 (by decide) (by omega) (by omega) (fun c_39 => ?_) (fun c_39 => ?_)
      · refine lv_iconst (v := nI 0) hx hb d_P_alike_58 (by decide) ?_
        exact W.zret (v := (nI (0))) hx hb hr (by decide) (fun t_ ht_ hW_ => ⟨_, rfl, by (try dsimp only); rw [decide_eq_false (by omega)]; rfl, ht_⟩) (fun q h => absurd h List.not_mem_nil) d_P_alike_59
      · refine lv_aload_n hx hb d_P_alike_42 rfl (lv_at hl 0 rfl) ?_
        refine va_get (D := (dC, dI)) (ci := ciW) (v := .long (lN (pw_b f h pp))) (C := R_W) (T := F_W) (N := 7) hx hb hts (fun w h => List.mem_cons_of_mem _ (in_W w h)) hown hKa hPa 0 rfl rfl 3 (by decide) (hts (.fieldLink R_P 112 "PeriodWords$Word" "ringBits" "J") (List.mem_cons_of_mem _ mb_83)) (fun _ h9 => h9) rfl d_P_alike_43 ?_
        refine lv_aload_n hx hb d_P_alike_46 rfl (lv_at hl 1 rfl) ?_
        refine va_get (D := (dC, dI)) (ci := ciW) (v := .long (lN (pw_b f2 h2 pp2))) (C := R_W) (T := F_W) (N := 7) hx hb hts (fun w h => List.mem_cons_of_mem _ (in_W w h)) hown hKb hPb 0 rfl rfl 3 (by decide) (hts (.fieldLink R_P 112 "PeriodWords$Word" "ringBits" "J") (List.mem_cons_of_mem _ mb_83)) (fun _ h9 => h9) rfl d_P_alike_47 ?_
        refine W.lcmp hx hb d_P_alike_50 ?_
        refine lv_topi (fun x_2 ex_2 => ?_)
        refine lv_if_ne (tgt := 58) hx hb d_P_alike_51 (by decide) (fun c_51 => ?_) (fun c_51 => ?_)
        · have c_51n : pw_b f h pp ≠ pw_b f2 h2 pp2 := fun z_ => c_51 (by rw [ex_2]; exact (pq_cmpN (by omega) (by omega)).mpr z_)
          refine lv_iconst (v := nI 0) hx hb d_P_alike_58 (by decide) ?_
          exact W.zret (v := (nI (0))) hx hb hr (by decide) (fun t_ ht_ hW_ => ⟨_, rfl, by (try dsimp only); rw [decide_eq_false (by omega)]; rfl, ht_⟩) (fun q h => absurd h List.not_mem_nil) d_P_alike_59
        · have c_51n : pw_b f h pp = pw_b f2 h2 pp2 := (pq_cmpN (by omega) (by omega)).mp (by rw [← ex_2]; exact c_51)
          refine lv_iconst (v := nI 1) hx hb d_P_alike_54 (by decide) ?_
          refine lv_goto (tgt := 59) hx hb d_P_alike_55 (by decide) ?_
          exact W.zret (v := (nI (1))) hx hb hr (by decide) (fun t_ ht_ hW_ => ⟨_, rfl, by (try dsimp only); rw [decide_eq_true (by omega)]; rfl, ht_⟩) (fun q h => absurd h List.not_mem_nil) d_P_alike_59
set_option maxHeartbeats 4000000 in
set_option maxRecDepth 100000 in
theorem c_P_needsTwo (l : Launch) (dC : Nat → ClassId) (dI : Nat → Nat → Nat) {how : Nat} (hh : how < 8) : Met l y_P_needsTwoWords ws_P_needsTwoWords ({ frames := 0, cells := 0, slots := 0, locals := 0 } : Room) (pw_R [.int (nI (how))] dC dI [] []) (vp_Si (fun r => r = nI (decide (how = 0 ∨ how = 1 ∨ how = 2 ∨ how = 4 ∨ how = 5)).toNat)) 0 0 (fun _ => False) := by
  refine Met.ofW (cc := b_P_needsTwoWords) (maxL := 1) (ret := (some .boolean)) (by decide) rfl ?_
  intro p e s m args below meth c s₁ B hml hv
  obtain ⟨rfl, hP, hK⟩ := hv
  have hx := B.exec
  have hb := B.bytes
  have hr := B.returns
  have hts := atoms_spec (ws := ws_P_needsTwoWords) B.pre
  have hown : s.vm.findClass R_P = some m.cls := findClass_of_methodNamed B.named
  have hlocks := B.notSynchronized
  have hl := lv_entry ([.int (nI (how))]) (n := 1) (Nat.le_of_ble_eq_true rfl)
  rw [lg_entry_eq]
  generalize (lg_sl ([.int (nI (how))]) ++ List.replicate (1 - (lg_sl ([.int (nI (how))])).length) Slot.unset).toArray = ls at hl ⊢
  have hl : lv_has ls 1 [(0, .int (nI (how)))] := hl
  refine lv_iload_n hx hb d_P_needsTwoWords_0 rfl (lv_at hl 0 rfl) ?_
  refine pq_if_eq (tgt := 24) (a := how) hx hb d_P_needsTwoWords_1 (by decide) (by omega) (fun c_1 => ?_) (fun c_1 => ?_)
  · refine lv_iconst (v := nI 1) hx hb d_P_needsTwoWords_24 (by decide) ?_
    refine lv_goto (tgt := 29) hx hb d_P_needsTwoWords_25 (by decide) ?_
    exact W.zret (v := (nI (1))) hx hb hr (by decide) (fun t_ ht_ hW_ => ⟨_, rfl, by (try dsimp only); rw [decide_eq_true (by omega)]; rfl, ht_⟩) (fun q h => absurd h List.not_mem_nil) d_P_needsTwoWords_29
  · refine lv_iload_n hx hb d_P_needsTwoWords_4 rfl (lv_at hl 0 rfl) ?_
    refine lv_iconst (v := nI 1) hx hb d_P_needsTwoWords_5 (by decide) ?_
    refine pq_icmp_eq (tgt := 24) (a := how) (b := 1) hx hb d_P_needsTwoWords_6 (by decide) (by omega) (by omega) (fun c_6 => ?_) (fun c_6 => ?_)
    · refine lv_iconst (v := nI 1) hx hb d_P_needsTwoWords_24 (by decide) ?_
      refine lv_goto (tgt := 29) hx hb d_P_needsTwoWords_25 (by decide) ?_
      exact W.zret (v := (nI (1))) hx hb hr (by decide) (fun t_ ht_ hW_ => ⟨_, rfl, by (try dsimp only); rw [decide_eq_true (by omega)]; rfl, ht_⟩) (fun q h => absurd h List.not_mem_nil) d_P_needsTwoWords_29
    · refine lv_iload_n hx hb d_P_needsTwoWords_9 rfl (lv_at hl 0 rfl) ?_
      refine lv_iconst (v := nI 2) hx hb d_P_needsTwoWords_10 (by decide) ?_
      refine pq_icmp_eq (tgt := 24) (a := how) (b := 2) hx hb d_P_needsTwoWords_11 (by decide) (by omega) (by omega) (fun c_11 => ?_) (fun c_11 => ?_)
      · refine lv_iconst (v := nI 1) hx hb d_P_needsTwoWords_24 (by decide) ?_
        refine lv_goto (tgt := 29) hx hb d_P_needsTwoWords_25 (by decide) ?_
        exact W.zret (v := (nI (1))) hx hb hr (by decide) (fun t_ ht_ hW_ => ⟨_, rfl, by (try dsimp only); rw [decide_eq_true (by omega)]; rfl, ht_⟩) (fun q h => absurd h List.not_mem_nil) d_P_needsTwoWords_29
      · refine lv_iload_n hx hb d_P_needsTwoWords_14 rfl (lv_at hl 0 rfl) ?_
        refine lv_iconst (v := nI 4) hx hb d_P_needsTwoWords_15 (by decide) ?_
        refine pq_icmp_eq (tgt := 24) (a := how) (b := 4) hx hb d_P_needsTwoWords_16 (by decide) (by omega) (by omega) (fun c_16 => ?_) (fun c_16 => ?_)
        · refine lv_iconst (v := nI 1) hx hb d_P_needsTwoWords_24 (by decide) ?_
          refine lv_goto (tgt := 29) hx hb d_P_needsTwoWords_25 (by decide) ?_
          exact W.zret (v := (nI (1))) hx hb hr (by decide) (fun t_ ht_ hW_ => ⟨_, rfl, by (try dsimp only); rw [decide_eq_true (by omega)]; rfl, ht_⟩) (fun q h => absurd h List.not_mem_nil) d_P_needsTwoWords_29
        · refine lv_iload_n hx hb d_P_needsTwoWords_19 rfl (lv_at hl 0 rfl) ?_
          refine lv_iconst (v := nI 5) hx hb d_P_needsTwoWords_20 (by decide) ?_
          refine pq_icmp_ne (tgt := 28) (a := how) (b := 5) hx hb d_P_needsTwoWords_21 (by decide) (by omega) (by omega) (fun c_21 => ?_) (fun c_21 => ?_)
          · refine lv_iconst (v := nI 0) hx hb d_P_needsTwoWords_28 (by decide) ?_
            exact W.zret (v := (nI (0))) hx hb hr (by decide) (fun t_ ht_ hW_ => ⟨_, rfl, by (try dsimp only); rw [decide_eq_false (by omega)]; rfl, ht_⟩) (fun q h => absurd h List.not_mem_nil) d_P_needsTwoWords_29
          · refine lv_iconst (v := nI 1) hx hb d_P_needsTwoWords_24 (by decide) ?_
            refine lv_goto (tgt := 29) hx hb d_P_needsTwoWords_25 (by decide) ?_
            exact W.zret (v := (nI (1))) hx hb hr (by decide) (fun t_ ht_ hW_ => ⟨_, rfl, by (try dsimp only); rw [decide_eq_true (by omega)]; rfl, ht_⟩) (fun q h => absurd h List.not_mem_nil) d_P_needsTwoWords_29
end
section
/-! bits of the words that are made, as ints -/
theorem pw_band (a b : Bool) : nI a.toNat &&& nI b.toNat = nI (a && b).toNat := by cases a <;> cases b <;> decide
theorem pw_bor (a b : Bool) : nI a.toNat ||| nI b.toNat = nI (a || b).toNat := by cases a <;> cases b <;> decide
theorem pw_bxor (a b : Bool) : nI a.toNat ^^^ nI b.toNat = nI (a ^^ b).toNat := by cases a <;> cases b <;> decide
theorem pw_bnot (a : Bool) : nI 1 - nI a.toNat = nI (!a).toNat := by cases a <;> decide
theorem pw_bhalf (a : Bool) (n : Nat) : nI a.toNat &&& (nI n ^^^ (-1)) = nI (a && decide (n % 2 = 0)).toNat := by
  have h : ∀ x : Int32, nI 1 &&& (x ^^^ (-1)) = nI 1 - (x &&& nI 1) := by
    intro x
    apply Int32.toBitVec_inj.mp
    rw [Int32.toBitVec_and, Int32.toBitVec_xor, Int32.toBitVec_sub, Int32.toBitVec_and]
    show 1#32 &&& (x.toBitVec ^^^ BitVec.allOnes 32) = 1#32 - (x.toBitVec &&& 1#32)
    generalize x.toBitVec = y
    rw [BitVec.and_one_eq_setWidth_ofBool_getLsbD]
    have e : 1#32 &&& (y ^^^ BitVec.allOnes 32) = BitVec.setWidth 32 (BitVec.ofBool ((y ^^^ BitVec.allOnes 32).getLsbD 0)) := by rw [BitVec.and_comm, BitVec.and_one_eq_setWidth_ofBool_getLsbD]
    rw [e, BitVec.getLsbD_xor, BitVec.getLsbD_allOnes]
    cases y.getLsbD 0 <;> decide
  cases a
  · show nI 0 &&& _ = nI 0
    apply Int32.toBitVec_inj.mp
    rw [Int32.toBitVec_and]
    show 0#32 &&& _ = 0#32
    exact BitVec.zero_and
  · show nI 1 &&& _ = _
    rw [h, pq_and1]
    rcases Nat.mod_two_eq_zero_or_one n with z | z
    · rw [z, decide_eq_true rfl]; decide
    · rw [z, decide_eq_false (by decide)]; decide
theorem pw_lt2 (b : Bool) : b.toNat < 2 := by cases b <;> decide
theorem pw_mk0 (f g : Nat → Bool) (d : Nat) : pw_mk 0 f g d = pw_and f g := rfl
theorem pw_mk1 (f g : Nat → Bool) (d : Nat) : pw_mk 1 f g d = pw_or f g := rfl
theorem pw_mk2 (f g : Nat → Bool) (d : Nat) : pw_mk 2 f g d = pw_xor f g := rfl
theorem pw_mk3 (f g : Nat → Bool) (d : Nat) : pw_mk 3 f g d = pw_not f := rfl
theorem pw_mk4 (f g : Nat → Bool) (d : Nat) : pw_mk 4 f g d = pw_on f g := rfl
theorem pw_mk5 (f g : Nat → Bool) (d : Nat) : pw_mk 5 f g d = pw_by f g := rfl
theorem pw_mk6 (f g : Nat → Bool) (d : Nat) : pw_mk 6 f g d = pw_late f d := rfl
theorem pw_mk7 (f g : Nat → Bool) (d : Nat) : pw_mk 7 f g d = pw_half f := rfl
/-- a draft: its cell, and its two words -/
abbrev dr (dd a a2 hd rd how late : Nat) : va_W := [(dd, .inr (ciD, [.int (nI hd), .int (nI rd), .int (nI how), .ref a, .ref a2, .int (nI late)]))]
/-- the register of the last 60 bits, and of the lengths that are left -/
theorem pw_reg_put {y : Nat} {b : Bool} : ∃ z, z < 2 ^ 64 ∧ (lN y <<< ((nI 1).toInt64 &&& 63)) ||| lN b.toNat = lN z ∧ z.testBit 0 = b ∧ ∀ j, j + 1 < 64 → z.testBit (j + 1) = y.testBit j := by
  obtain ⟨z, h1, h2, h3, h4⟩ := pq_lsb2 (y := y) (pw_lt2 b)
  refine ⟨z, h1, h2, ?_, h4⟩
  rw [h3]
  cases b <;> rfl
theorem pw_toL (b : Bool) : (nI b.toNat).toInt64 = lN b.toNat := nI_l (by have := pw_lt2 b; omega)
def pw_past (F : Nat → Bool) (s y : Nat) : Prop := y < 2 ^ 64 ∧ ∀ j, j < 60 → j < s → y.testBit j = F (s - 1 - j)
def pw_len (F : Nat → Bool) (hd i x : Nat) : Prop := x < 2 ^ 60 ∧ ∀ j, j < 60 → (x.testBit j = true ↔ ∀ k, k < i → F (hd + 60 + k) = F (hd + 60 + k - (j + 1)))
theorem pw_past_s {F : Nat → Bool} {s y z : Nat} (h : pw_past F s y) (h1 : z < 2 ^ 64) (h3 : z.testBit 0 = F s) (h4 : ∀ j, j + 1 < 64 → z.testBit (j + 1) = y.testBit j) : pw_past F (s + 1) z := by
  refine ⟨h1, ?_⟩
  intro j hj hs
  cases j with
  | zero => rw [h3]; rfl
  | succ j =>
    rw [h4 j (by omega), h.2 j (by omega) (by omega)]
    congr 1
    omega
theorem pw_len_0 (F : Nat → Bool) (hd : Nat) : pw_len F hd 0 (2 ^ 60 - 1) := by
  refine ⟨by decide, ?_⟩
  intro j hj
  rw [Nat.testBit_two_pow_sub_one, decide_eq_true hj]
  exact ⟨fun _ k hk => absurd hk (Nat.not_lt_zero k), fun _ => rfl⟩
theorem pw_len_s {F : Nat → Bool} {hd i x y m : Nat} (h : pw_len F hd i x) (hy : pw_past F (hd + 60 + i) y) (hm : m = if F (hd + 60 + i) = true then y else 2 ^ 64 - (y + 1)) : m < 2 ^ 64 ∧ lN x &&& lN m = lN (x &&& m) ∧ pw_len F hd (i + 1) (x &&& m) := by
  have hx64 : x < 2 ^ 64 := Nat.lt_trans h.1 (by decide)
  have hm64 : m < 2 ^ 64 := by
    have := hy.1
    rw [hm]
    split <;> omega
  refine ⟨hm64, wb_and hx64 hm64, Nat.lt_of_le_of_lt Nat.and_le_left h.1, ?_⟩
  intro j hj
  have hb : m.testBit j = true ↔ F (hd + 60 + i) = F (hd + 60 + i - (j + 1)) := by
    have e := hy.2 j hj (by omega)
    rw [show hd + 60 + i - 1 - j = hd + 60 + i - (j + 1) by omega] at e
    rw [hm]
    by_cases q : F (hd + 60 + i) = true
    · rw [if_pos q, e, q]
      exact ⟨fun z => z.symm, fun z => z.symm⟩
    · rw [if_neg q, Nat.testBit_two_pow_sub_succ hy.1, e, decide_eq_true (by omega)]
      have q' : F (hd + 60 + i) = false := by
        cases z : F (hd + 60 + i)
        · rfl
        · exact absurd z q
      rw [q']
      cases F (hd + 60 + i - (j + 1)) <;> simp
  rw [Nat.testBit_and, Bool.and_eq_true, h.2 j hj, hb]
  constructor
  · rintro ⟨z1, z2⟩ k hk
    rcases Nat.lt_or_ge k i with q | q
    · exact z1 k q
    · have : k = i := by omega
      subst this
      exact z2
  · intro z
    exact ⟨fun k hk => z k (by omega), z i (by omega)⟩
/-- what is left behind a whole round are the lengths that come back -/
theorem pw_len_E {F : Nat → Bool} {hd R x : Nat} (hR : 0 < R) (E : pw_E F hd R) (h : pw_len F hd R x) {j : Nat} (hj : j < 60) : x.testBit j = true ↔ pw_E F hd (j + 1) := by
  rw [h.2 j hj]
  constructor
  · intro z t ht
    -- t moved into the round that was looked at
    have hk := Nat.mod_add_div (t + (j + 1) + 60 * R - (hd + 60)) R
    have hlt := Nat.mod_lt (t + (j + 1) + 60 * R - (hd + 60)) hR
    rw [Nat.mul_comm R] at hk
    have h60 : 60 ≤ 60 * R := Nat.le_mul_of_pos_right 60 hR
    generalize hkk : (t + (j + 1) + 60 * R - (hd + 60)) % R = k at hk hlt
    generalize (t + (j + 1) + 60 * R - (hd + 60)) / R = q at hk
    have a := z k hlt
    have e1 := pw_E_mul E q (hd + 60 + k) (by omega)
    have e2 := pw_E_mul E q (hd + 60 + k - (j + 1)) (by omega)
    have e3 := pw_E_mul E 60 (t + (j + 1)) (by omega)
    have e4 := pw_E_mul E 60 t ht
    have t1 : hd + 60 + k + q * R = t + (j + 1) + 60 * R := by omega
    have t2 : hd + 60 + k - (j + 1) + q * R = t + 60 * R := by omega
    rw [t1] at e1
    rw [t2] at e2
    rw [← e3, ← e4, e1, e2, a]
  · intro Ej k _
    have a := Ej (hd + 60 + k - (j + 1)) (by omega)
    rw [← a]
    congr 1
    omega
theorem pw_len_R {F : Nat → Bool} {hd i R x : Nat} (h : pw_len F hd i x) (hx : i = R ∨ x = 0) : pw_len F hd R x ∨ x = 0 := by
  rcases hx with rfl | hx
  · exact Or.inl h
  · exact Or.inr hx
theorem pw_len_none {F : Nat → Bool} {hd i R x : Nat} (hR : 0 < R) (hi : i ≤ R) (E : pw_E F hd R) (h : pw_len F hd i x) (hx : x = 0) : ∀ q, 0 < q → q ≤ 60 → ¬ pw_E F hd q := by
  intro q h0 hq Eq
  have a := (h.2 (q - 1) (by omega)).mpr (fun k _ => by
    have a := Eq (hd + 60 + k - (q - 1 + 1)) (by omega)
    rw [← a]
    congr 1
    omega)
  rw [hx, Nat.zero_testBit] at a
  cases a
theorem pw_low_ex {x : Nat} (hx : x < 2 ^ 60) (h0 : x ≠ 0) : ∃ k, k < 60 ∧ x.testBit k = true ∧ ∀ j, j < k → x.testBit j = false := by
  obtain ⟨i, hi⟩ : ∃ i, x.testBit i = true := by
    rcases Classical.em (∃ i, x.testBit i = true) with h | h
    · exact h
    · exfalso
      apply h0
      apply Nat.eq_of_testBit_eq
      intro i
      rw [Nat.zero_testBit]
      cases z : x.testBit i
      · rfl
      · exact absurd ⟨i, z⟩ h
  obtain ⟨k, hk, hl⟩ := pk_least (fun k => x.testBit k = true) ⟨i, hi⟩
  refine ⟨k, ?_, hk, ?_⟩
  · rcases Nat.lt_or_ge k 60 with z | z
    · exact z
    · rw [Nat.testBit_lt_two_pow (Nat.lt_of_lt_of_le hx (Nat.pow_le_pow_right (by decide) z))] at hk
      cases hk
  · intro j hj
    cases z : x.testBit j
    · rfl
    · exact absurd z (hl j hj)
theorem pw_bor64 {F : Nat → Bool} {u i : Nat} (hi : i < 60) : lN (pw_b F u i) ||| lN ((F (u + i)).toNat * 2 ^ i) = lN (pw_b F u i + (F (u + i)).toNat * 2 ^ i) := by
  have h1 := pw_b_lt F u i
  have h2 := pw_b_lt F u (i + 1)
  rw [pw_b_s] at h2
  exact g_or' rfl h1 (Nat.lt_trans h2 (Nat.pow_lt_pow_right (by decide) (by omega)))
theorem pw_tnI {a b : Bool} (h : a.toNat = b.toNat) : a = b := by cases a <;> cases b <;> first | rfl | (exact absurd h (by decide))
theorem pw_on_0 {f g : Nat → Bool} {d t : Nat} (h : (f t).toNat = 0) : nI 0 = nI (pw_mk 4 f g d t).toNat := by
  have z : f t = false := by
    rcases pw_bt (f t) with q | q
    · omega
    · exact q.2
  show nI 0 = nI (f t && g (pw_c f t)).toNat
  rw [z]
  rfl
theorem pw_on_1 {f g : Nat → Bool} {d t : Nat} (h : 0 < (f t).toNat) : nI (g (pw_c f t)).toNat = nI (pw_mk 4 f g d t).toNat := by
  have z : f t = true := by
    rcases pw_bt (f t) with q | q
    · exact q.2
    · omega
  show _ = nI (f t && g (pw_c f t)).toNat
  rw [z]
  rfl
theorem pw_E_dn {F : Nat → Bool} {x rg : Nat} (E : pw_E F x rg) (h : (F (x - 1)).toNat = (F (x - 1 + rg)).toNat) : pw_E F (x - 1) rg := by
  intro t ht
  rcases Nat.lt_or_ge t x with y | y
  · rw [show t = x - 1 by omega]
    exact (pw_tnI h).symm
  · exact E t y
theorem pw_t1 {b : Bool} (h : b.toNat = 1) : b = true := by cases b <;> first | rfl | (exact absurd h (by decide))
theorem pw_t0 {b : Bool} (h : b.toNat ≠ 1) : ¬ b = true := by cases b <;> first | decide | (exact absurd rfl h)
theorem pw_reg1 {F : Nat → Bool} {hd i y z : Nat} (hi : i ≤ 60) (h60 : i < 60) (h : y < 2 ^ 64 ∧ ∀ j, j < i → y.testBit j = F (hd + i - 1 - j)) (h1 : z < 2 ^ 64) (h3 : z.testBit 0 = F (hd + i)) (h4 : ∀ j, j + 1 < 64 → z.testBit (j + 1) = y.testBit j) : z < 2 ^ 64 ∧ ∀ j, j < i + 1 → z.testBit j = F (hd + (i + 1) - 1 - j) := by
  refine ⟨h1, ?_⟩
  intro j hj
  cases j with
  | zero => rw [h3]; rfl
  | succ j =>
    rw [h4 j (by omega), h.2 j (by omega)]
    congr 1
    omega
theorem pw_reg2 {F : Nat → Bool} {hd i y : Nat} (hi : i = 60) (h : y < 2 ^ 64 ∧ ∀ j, j < i → y.testBit j = F (hd + i - 1 - j)) : pw_past F (hd + 60 + 0) y := by
  subst hi
  exact ⟨h.1, fun j hj _ => h.2 j hj⟩
theorem pw_len_full {F : Nat → Bool} {hd i R x : Nat} (hi : i ≤ R) (h : pw_len F hd i x) (h0 : x ≠ 0) (hx : R ≤ i ∨ x = 0) : pw_len F hd R x := by
  have : i = R := by omega
  rw [← this]
  exact h
theorem pw_len_min {F : Nat → Bool} {hd R x k : Nat} (hR : 0 < R) (E : pw_E F hd R) (h : pw_len F hd R x) (hk : k < 60) (hl : ∀ j, j < k → x.testBit j = false) : ∀ q, 0 < q → q < k + 1 → ¬ pw_E F hd q := by
  intro q h0 hq Eq
  have a := (pw_len_E hR E h (j := q - 1) (by omega)).mpr (by rw [show q - 1 + 1 = q by omega]; exact Eq)
  rw [hl (q - 1) (by omega)] at a
  cases a
/-- the class's own cells: the object, the array of words -/
abbrev pwc (o q n : Nat) (cW : ClassId) (wa : Nat → Option Nat) : va_W := [(o, .inr (ciP, [.ref q, .int (nI n)])), (q, .inl (cW, 40, .inr (.inr (.inr (.inr wa)))))]
end
section
set_option maxHeartbeats 4000000 in
set_option maxRecDepth 100000 in
theorem c_D_bitAt (l : Launch) (dC : Nat → ClassId) (dI : Nat → Nat → Nat) {a q h pp : Nat} {cA : ClassId} {f : Nat → Bool} {pl : Nat → Int32} (hw : wd_ok h pp f) {a2 q2 h2 pp2 : Nat} {cA2 : ClassId} {f2 : Nat → Bool} {pl2 : Nat → Int32} (hw2 : wd_ok h2 pp2 f2) (hpl2 : wd_pl h2 pp2 f2 pl2) {dd hd rd how late : Nat} (hhow : how < 8) (hlate : late < 100) (hby : how = 5 → 0 < pw_o f2 h2 pp2) {t : Nat} (ht : t < 1048576) : Met l y_D_bitAt ws_D_bitAt ({ frames := 2, cells := 0, slots := 0, locals := 44 } : Room) (pw_R [.ref dd, .int (nI (t))] dC dI [(cA, .int), (cA2, .int)] (dr dd a a2 hd rd how late ++ (wd a q cA h pp f pl ++ wd a2 q2 cA2 h2 pp2 f2 pl2))) (vp_Si (fun r => r = nI (pw_mk how f f2 late t).toNat)) 0 0 (fun _ => False) := by
  refine Met.ofW (cc := b_D_bitAt) (maxL := 2) (ret := (some .int)) (by decide) rfl ?_
  intro p e s m args below meth c s₁ B hml hv
  obtain ⟨rfl, hP, hK⟩ := hv
  have hx := B.exec
  have hb := B.bytes
  have hr := B.returns
  have hts := atoms_spec (ws := ws_D_bitAt) B.pre
  have hown : s.vm.findClass R_D = some m.cls := findClass_of_methodNamed B.named
  have hlocks := B.notSynchronized
  have hw0 := hw; obtain ⟨hh, hp0, hp6, hE⟩ := hw0
  have ho := pw_o_le f h pp
  have hc := pw_c_le f h
  have hw20 := hw2; obtain ⟨hh2, hp02, hp62, hE2⟩ := hw20
  have ho2 := pw_o_le f2 h2 pp2
  have hc2 := pw_c_le f2 h2
  have hPd := hP.sub (ws' := dr dd a a2 hd rd how late) [0] rfl
  have hKd := hK.sub (tys' := []) [] rfl
  have hPa := hP.sub (ws' := wd a q cA h pp f pl) [1, 2] rfl
  have hKa := hK.sub (tys' := [(cA, .int)]) [0] rfl
  have hPb := hP.sub (ws' := wd a2 q2 cA2 h2 pp2 f2 pl2) [3, 4] rfl
  have hKb := hK.sub (tys' := [(cA2, .int)]) [1] rfl
  have hl := lv_entry ([.ref dd, .int (nI (t))]) (n := 2) (Nat.le_of_ble_eq_true rfl)
  rw [lg_entry_eq]
  generalize (lg_sl ([.ref dd, .int (nI (t))]) ++ List.replicate (2 - (lg_sl ([.ref dd, .int (nI (t))])).length) Slot.unset).toArray = ls at hl ⊢
  have hl : lv_has ls 2 [(0, .ref dd), (1, .int (nI (t)))] := hl
  refine lv_aload_n hx hb d_D_bitAt_0 rfl (lv_at hl 0 rfl) ?_
  refine va_get (D := (dC, dI)) (ci := ciD) (v := .int (nI (how))) (C := R_D) (T := F_D) (N := 6) hx hb hts (fun w h => List.mem_cons_of_mem _ (in_D w h)) hown hKd hPd 0 rfl rfl 2 (by decide) (hts (.fieldLink R_D 9 "PeriodWords$Draft" "how" "I") (List.mem_cons_of_mem _ mb_121)) (fun _ h9 => h9) rfl d_D_bitAt_1 ?_
  rcases (show how = 0 ∨ how = 1 ∨ how = 2 ∨ how = 3 ∨ how = 4 ∨ how = 5 ∨ how = 6 ∨ how = 7 by omega) with rfl | rfl | rfl | rfl | rfl | rfl | rfl | rfl
  · refine lv_tableIn (tgt := 48) hx hb d_D_bitAt_4 (by decide) (by decide) rfl (by decide) ?_
    refine lv_aload_n hx hb d_D_bitAt_48 rfl (lv_at hl 0 rfl) ?_
    refine va_get (D := (dC, dI)) (ci := ciD) (v := .ref a) (C := R_D) (T := F_D) (N := 6) hx hb hts (fun w h => List.mem_cons_of_mem _ (in_D w h)) hown hKd hPd 0 rfl rfl 3 (by decide) (hts (.fieldLink R_D 15 "PeriodWords$Draft" "a" "LPeriodWords$Word;") (List.mem_cons_of_mem _ mb_122)) (fun _ h9 => h9) rfl d_D_bitAt_49 ?_
    refine lv_iload_n hx hb d_D_bitAt_52 rfl (lv_at hl 1 rfl) ?_
    refine vp_callSi (W.runV (As := [.int (nI (t))]) (rest := []) ⟨hx, hb, hml, hown, hts⟩ (c_W_bitAt l dC dI hw (t := t) (by omega)) (cwV 1 hts (gd_V mb_170 mb_171 mb_172 mb_24 mb_173) rfl rfl rfl (by decide +kernel) ⟨Nat.le_of_ble_eq_true rfl, Nat.le_of_ble_eq_true rfl⟩) (pw_R_V (va_recv hKa hPa (ci := ciW) (q0 := 0) rfl rfl) hPa hKa) rfl rfl hl.1 rfl (lv_room (Nat.le_of_ble_eq_true rfl)) d_D_bitAt_53 ⟨Nat.le_of_ble_eq_true rfl, Nat.le_of_ble_eq_true rfl⟩) (fun r_53 hr_53 => ?_)
    subst hr_53
    refine lv_aload_n hx hb d_D_bitAt_56 rfl (lv_at hl 0 rfl) ?_
    refine va_get (D := (dC, dI)) (ci := ciD) (v := .ref a2) (C := R_D) (T := F_D) (N := 6) hx hb hts (fun w h => List.mem_cons_of_mem _ (in_D w h)) hown hKd hPd 0 rfl rfl 4 (by decide) (hts (.fieldLink R_D 19 "PeriodWords$Draft" "b" "LPeriodWords$Word;") (List.mem_cons_of_mem _ mb_123)) (fun _ h9 => h9) rfl d_D_bitAt_57 ?_
    refine lv_iload_n hx hb d_D_bitAt_60 rfl (lv_at hl 1 rfl) ?_
    refine vp_callSi (W.runV (As := [.int (nI (t))]) (rest := [.int (nI ((f t).toNat))]) ⟨hx, hb, hml, hown, hts⟩ (c_W_bitAt l dC dI hw2 (t := t) (by omega)) (cwV 1 hts (gd_V mb_170 mb_171 mb_172 mb_24 mb_173) rfl rfl rfl (by decide +kernel) ⟨Nat.le_of_ble_eq_true rfl, Nat.le_of_ble_eq_true rfl⟩) (pw_R_V (va_recv hKb hPb (ci := ciW) (q0 := 0) rfl rfl) hPb hKb) rfl rfl hl.1 rfl (lv_room (Nat.le_of_ble_eq_true rfl)) d_D_bitAt_61 ⟨Nat.le_of_ble_eq_true rfl, Nat.le_of_ble_eq_true rfl⟩) (fun r_61 hr_61 => ?_)
    subst hr_61
    refine lv_iand hx hb d_D_bitAt_64 ?_
    refine lv_topi (fun x_1 ex_1 => ?_)
    refine pq_top (y := .int (nI ((f t && f2 t).toNat))) (by rw [ex_1, pw_band]) ?_
    exact W.iret (v := (nI ((f t && f2 t).toNat))) hx hb hr (fun t_ ht_ hW_ => ⟨_, rfl, rfl, ht_⟩) (fun q h => absurd h List.not_mem_nil) d_D_bitAt_65
  · refine lv_tableIn (tgt := 66) hx hb d_D_bitAt_4 (by decide) (by decide) rfl (by decide) ?_
    refine lv_aload_n hx hb d_D_bitAt_66 rfl (lv_at hl 0 rfl) ?_
    refine va_get (D := (dC, dI)) (ci := ciD) (v := .ref a) (C := R_D) (T := F_D) (N := 6) hx hb hts (fun w h => List.mem_cons_of_mem _ (in_D w h)) hown hKd hPd 0 rfl rfl 3 (by decide) (hts (.fieldLink R_D 15 "PeriodWords$Draft" "a" "LPeriodWords$Word;") (List.mem_cons_of_mem _ mb_122)) (fun _ h9 => h9) rfl d_D_bitAt_67 ?_
    refine lv_iload_n hx hb d_D_bitAt_70 rfl (lv_at hl 1 rfl) ?_
    refine vp_callSi (W.runV (As := [.int (nI (t))]) (rest := []) ⟨hx, hb, hml, hown, hts⟩ (c_W_bitAt l dC dI hw (t := t) (by omega)) (cwV 1 hts (gd_V mb_170 mb_171 mb_172 mb_24 mb_173) rfl rfl rfl (by decide +kernel) ⟨Nat.le_of_ble_eq_true rfl, Nat.le_of_ble_eq_true rfl⟩) (pw_R_V (va_recv hKa hPa (ci := ciW) (q0 := 0) rfl rfl) hPa hKa) rfl rfl hl.1 rfl (lv_room (Nat.le_of_ble_eq_true rfl)) d_D_bitAt_71 ⟨Nat.le_of_ble_eq_true rfl, Nat.le_of_ble_eq_true rfl⟩) (fun r_71 hr_71 => ?_)
    subst hr_71
    refine lv_aload_n hx hb d_D_bitAt_74 rfl (lv_at hl 0 rfl) ?_
    refine va_get (D := (dC, dI)) (ci := ciD) (v := .ref a2) (C := R_D) (T := F_D) (N := 6) hx hb hts (fun w h => List.mem_cons_of_mem _ (in_D w h)) hown hKd hPd 0 rfl rfl 4 (by decide) (hts (.fieldLink R_D 19 "PeriodWords$Draft" "b" "LPeriodWords$Word;") (List.mem_cons_of_mem _ mb_123)) (fun _ h9 => h9) rfl d_D_bitAt_75 ?_
    refine lv_iload_n hx hb d_D_bitAt_78 rfl (lv_at hl 1 rfl) ?_
    refine vp_callSi (W.runV (As := [.int (nI (t))]) (rest := [.int (nI ((f t).toNat))]) ⟨hx, hb, hml, hown, hts⟩ (c_W_bitAt l dC dI hw2 (t := t) (by omega)) (cwV 1 hts (gd_V mb_170 mb_171 mb_172 mb_24 mb_173) rfl rfl rfl (by decide +kernel) ⟨Nat.le_of_ble_eq_true rfl, Nat.le_of_ble_eq_true rfl⟩) (pw_R_V (va_recv hKb hPb (ci := ciW) (q0 := 0) rfl rfl) hPb hKb) rfl rfl hl.1 rfl (lv_room (Nat.le_of_ble_eq_true rfl)) d_D_bitAt_79 ⟨Nat.le_of_ble_eq_true rfl, Nat.le_of_ble_eq_true rfl⟩) (fun r_79 hr_79 => ?_)
    subst hr_79
    refine lv_ior hx hb d_D_bitAt_82 ?_
    refine lv_topi (fun x_2 ex_2 => ?_)
    refine pq_top (y := .int (nI ((f t || f2 t).toNat))) (by rw [ex_2, pw_bor]) ?_
    exact W.iret (v := (nI ((f t || f2 t).toNat))) hx hb hr (fun t_ ht_ hW_ => ⟨_, rfl, rfl, ht_⟩) (fun q h => absurd h List.not_mem_nil) d_D_bitAt_83
  · refine lv_tableIn (tgt := 84) hx hb d_D_bitAt_4 (by decide) (by decide) rfl (by decide) ?_
    refine lv_aload_n hx hb d_D_bitAt_84 rfl (lv_at hl 0 rfl) ?_
    refine va_get (D := (dC, dI)) (ci := ciD) (v := .ref a) (C := R_D) (T := F_D) (N := 6) hx hb hts (fun w h => List.mem_cons_of_mem _ (in_D w h)) hown hKd hPd 0 rfl rfl 3 (by decide) (hts (.fieldLink R_D 15 "PeriodWords$Draft" "a" "LPeriodWords$Word;") (List.mem_cons_of_mem _ mb_122)) (fun _ h9 => h9) rfl d_D_bitAt_85 ?_
    refine lv_iload_n hx hb d_D_bitAt_88 rfl (lv_at hl 1 rfl) ?_
    refine vp_callSi (W.runV (As := [.int (nI (t))]) (rest := []) ⟨hx, hb, hml, hown, hts⟩ (c_W_bitAt l dC dI hw (t := t) (by omega)) (cwV 1 hts (gd_V mb_170 mb_171 mb_172 mb_24 mb_173) rfl rfl rfl (by decide +kernel) ⟨Nat.le_of_ble_eq_true rfl, Nat.le_of_ble_eq_true rfl⟩) (pw_R_V (va_recv hKa hPa (ci := ciW) (q0 := 0) rfl rfl) hPa hKa) rfl rfl hl.1 rfl (lv_room (Nat.le_of_ble_eq_true rfl)) d_D_bitAt_89 ⟨Nat.le_of_ble_eq_true rfl, Nat.le_of_ble_eq_true rfl⟩) (fun r_89 hr_89 => ?_)
    subst hr_89
    refine lv_aload_n hx hb d_D_bitAt_92 rfl (lv_at hl 0 rfl) ?_
    refine va_get (D := (dC, dI)) (ci := ciD) (v := .ref a2) (C := R_D) (T := F_D) (N := 6) hx hb hts (fun w h => List.mem_cons_of_mem _ (in_D w h)) hown hKd hPd 0 rfl rfl 4 (by decide) (hts (.fieldLink R_D 19 "PeriodWords$Draft" "b" "LPeriodWords$Word;") (List.mem_cons_of_mem _ mb_123)) (fun _ h9 => h9) rfl d_D_bitAt_93 ?_
    refine lv_iload_n hx hb d_D_bitAt_96 rfl (lv_at hl 1 rfl) ?_
    refine vp_callSi (W.runV (As := [.int (nI (t))]) (rest := [.int (nI ((f t).toNat))]) ⟨hx, hb, hml, hown, hts⟩ (c_W_bitAt l dC dI hw2 (t := t) (by omega)) (cwV 1 hts (gd_V mb_170 mb_171 mb_172 mb_24 mb_173) rfl rfl rfl (by decide +kernel) ⟨Nat.le_of_ble_eq_true rfl, Nat.le_of_ble_eq_true rfl⟩) (pw_R_V (va_recv hKb hPb (ci := ciW) (q0 := 0) rfl rfl) hPb hKb) rfl rfl hl.1 rfl (lv_room (Nat.le_of_ble_eq_true rfl)) d_D_bitAt_97 ⟨Nat.le_of_ble_eq_true rfl, Nat.le_of_ble_eq_true rfl⟩) (fun r_97 hr_97 => ?_)
    subst hr_97
    refine lv_ixor hx hb d_D_bitAt_100 ?_
    refine lv_topi (fun x_3 ex_3 => ?_)
    refine pq_top (y := .int (nI ((f t ^^ f2 t).toNat))) (by rw [ex_3, pw_bxor]) ?_
    exact W.iret (v := (nI ((f t ^^ f2 t).toNat))) hx hb hr (fun t_ ht_ hW_ => ⟨_, rfl, rfl, ht_⟩) (fun q h => absurd h List.not_mem_nil) d_D_bitAt_101
  · refine lv_tableIn (tgt := 102) hx hb d_D_bitAt_4 (by decide) (by decide) rfl (by decide) ?_
    refine lv_iconst (v := nI 1) hx hb d_D_bitAt_102 (by decide) ?_
    refine lv_aload_n hx hb d_D_bitAt_103 rfl (lv_at hl 0 rfl) ?_
    refine va_get (D := (dC, dI)) (ci := ciD) (v := .ref a) (C := R_D) (T := F_D) (N := 6) hx hb hts (fun w h => List.mem_cons_of_mem _ (in_D w h)) hown hKd hPd 0 rfl rfl 3 (by decide) (hts (.fieldLink R_D 15 "PeriodWords$Draft" "a" "LPeriodWords$Word;") (List.mem_cons_of_mem _ mb_122)) (fun _ h9 => h9) rfl d_D_bitAt_104 ?_
    refine lv_iload_n hx hb d_D_bitAt_107 rfl (lv_at hl 1 rfl) ?_
    refine vp_callSi (W.runV (As := [.int (nI (t))]) (rest := [.int (nI (1))]) ⟨hx, hb, hml, hown, hts⟩ (c_W_bitAt l dC dI hw (t := t) (by omega)) (cwV 1 hts (gd_V mb_170 mb_171 mb_172 mb_24 mb_173) rfl rfl rfl (by decide +kernel) ⟨Nat.le_of_ble_eq_true rfl, Nat.le_of_ble_eq_true rfl⟩) (pw_R_V (va_recv hKa hPa (ci := ciW) (q0 := 0) rfl rfl) hPa hKa) rfl rfl hl.1 rfl (lv_room (Nat.le_of_ble_eq_true rfl)) d_D_bitAt_108 ⟨Nat.le_of_ble_eq_true rfl, Nat.le_of_ble_eq_true rfl⟩) (fun r_108 hr_108 => ?_)
    subst hr_108
    refine lv_isub hx hb d_D_bitAt_111 ?_
    refine lv_topi (fun x_4 ex_4 => ?_)
    refine pq_top (y := .int (nI ((!f t).toNat))) (by rw [ex_4, pw_bnot]) ?_
    exact W.iret (v := (nI ((!f t).toNat))) hx hb hr (fun t_ ht_ hW_ => ⟨_, rfl, rfl, ht_⟩) (fun q h => absurd h List.not_mem_nil) d_D_bitAt_112
  · refine lv_tableIn (tgt := 113) hx hb d_D_bitAt_4 (by decide) (by decide) rfl (by decide) ?_
    refine lv_aload_n hx hb d_D_bitAt_113 rfl (lv_at hl 0 rfl) ?_
    refine va_get (D := (dC, dI)) (ci := ciD) (v := .ref a) (C := R_D) (T := F_D) (N := 6) hx hb hts (fun w h => List.mem_cons_of_mem _ (in_D w h)) hown hKd hPd 0 rfl rfl 3 (by decide) (hts (.fieldLink R_D 15 "PeriodWords$Draft" "a" "LPeriodWords$Word;") (List.mem_cons_of_mem _ mb_122)) (fun _ h9 => h9) rfl d_D_bitAt_114 ?_
    refine lv_iload_n hx hb d_D_bitAt_117 rfl (lv_at hl 1 rfl) ?_
    refine vp_callSi (W.runV (As := [.int (nI (t))]) (rest := []) ⟨hx, hb, hml, hown, hts⟩ (c_W_bitAt l dC dI hw (t := t) (by omega)) (cwV 1 hts (gd_V mb_170 mb_171 mb_172 mb_24 mb_173) rfl rfl rfl (by decide +kernel) ⟨Nat.le_of_ble_eq_true rfl, Nat.le_of_ble_eq_true rfl⟩) (pw_R_V (va_recv hKa hPa (ci := ciW) (q0 := 0) rfl rfl) hPa hKa) rfl rfl hl.1 rfl (lv_room (Nat.le_of_ble_eq_true rfl)) d_D_bitAt_118 ⟨Nat.le_of_ble_eq_true rfl, Nat.le_of_ble_eq_true rfl⟩) (fun r_118 hr_118 => ?_)
    subst hr_118
    refine pq_if_ne (tgt := 128) (a := ((f t).toNat)) hx hb d_D_bitAt_121 (by decide) (by have := pw_lt2 (f t); omega) (fun c_121 => ?_) (fun c_121 => ?_)
    · have q1 := pw_c_le f t
      refine lv_aload_n hx hb d_D_bitAt_128 rfl (lv_at hl 0 rfl) ?_
      refine va_get (D := (dC, dI)) (ci := ciD) (v := .ref a2) (C := R_D) (T := F_D) (N := 6) hx hb hts (fun w h => List.mem_cons_of_mem _ (in_D w h)) hown hKd hPd 0 rfl rfl 4 (by decide) (hts (.fieldLink R_D 19 "PeriodWords$Draft" "b" "LPeriodWords$Word;") (List.mem_cons_of_mem _ mb_123)) (fun _ h9 => h9) rfl d_D_bitAt_129 ?_
      refine lv_aload_n hx hb d_D_bitAt_132 rfl (lv_at hl 0 rfl) ?_
      refine va_get (D := (dC, dI)) (ci := ciD) (v := .ref a) (C := R_D) (T := F_D) (N := 6) hx hb hts (fun w h => List.mem_cons_of_mem _ (in_D w h)) hown hKd hPd 0 rfl rfl 3 (by decide) (hts (.fieldLink R_D 15 "PeriodWords$Draft" "a" "LPeriodWords$Word;") (List.mem_cons_of_mem _ mb_122)) (fun _ h9 => h9) rfl d_D_bitAt_133 ?_
      refine lv_iload_n hx hb d_D_bitAt_136 rfl (lv_at hl 1 rfl) ?_
      refine vp_callSi (W.runV (As := [.int (nI (t))]) (rest := [.ref a2]) ⟨hx, hb, hml, hown, hts⟩ (c_W_onesBefore l dC dI hw (t := t) (by omega)) (cwV 1 hts (gd_V mb_174 mb_154 mb_155 mb_24 mb_156) rfl rfl rfl (by decide +kernel) ⟨Nat.le_of_ble_eq_true rfl, Nat.le_of_ble_eq_true rfl⟩) (pw_R_V (va_recv hKa hPa (ci := ciW) (q0 := 0) rfl rfl) hPa hKa) rfl rfl hl.1 rfl (lv_room (Nat.le_of_ble_eq_true rfl)) d_D_bitAt_137 ⟨Nat.le_of_ble_eq_true rfl, Nat.le_of_ble_eq_true rfl⟩) (fun r_137 hr_137 => ?_)
      subst hr_137
      refine vp_callSi (W.runV (As := [.int (nI (pw_c f t))]) (rest := []) ⟨hx, hb, hml, hown, hts⟩ (c_W_bitAt l dC dI hw2 (t := pw_c f t) (by omega)) (cwV 1 hts (gd_V mb_170 mb_171 mb_172 mb_24 mb_173) rfl rfl rfl (by decide +kernel) ⟨Nat.le_of_ble_eq_true rfl, Nat.le_of_ble_eq_true rfl⟩) (pw_R_V (va_recv hKb hPb (ci := ciW) (q0 := 0) rfl rfl) hPb hKb) rfl rfl hl.1 rfl (lv_room (Nat.le_of_ble_eq_true rfl)) d_D_bitAt_140 ⟨Nat.le_of_ble_eq_true rfl, Nat.le_of_ble_eq_true rfl⟩) (fun r_140 hr_140 => ?_)
      subst hr_140
      exact W.iret (v := (nI ((f2 (pw_c f t)).toNat))) hx hb hr (fun t_ ht_ hW_ => ⟨_, rfl, pw_on_1 c_121, ht_⟩) (fun q h => absurd h List.not_mem_nil) d_D_bitAt_143
    · refine lv_iconst (v := nI 0) hx hb d_D_bitAt_124 (by decide) ?_
      refine lv_goto (tgt := 143) hx hb d_D_bitAt_125 (by decide) ?_
      exact W.iret (v := (nI (0))) hx hb hr (fun t_ ht_ hW_ => ⟨_, rfl, pw_on_0 c_121, ht_⟩) (fun q h => absurd h List.not_mem_nil) d_D_bitAt_143
  · refine lv_tableIn (tgt := 144) hx hb d_D_bitAt_4 (by decide) (by decide) rfl (by decide) ?_
    have t2 := pw_tk_le hE2 hp02 (show 0 < t + 1 by omega) (Or.inl (hby rfl))
    have t4 : (t + 1) * pp2 ≤ 1048576 * 60 := Nat.mul_le_mul (by omega) hp62
    refine lv_aload_n hx hb d_D_bitAt_144 rfl (lv_at hl 0 rfl) ?_
    refine va_get (D := (dC, dI)) (ci := ciD) (v := .ref a) (C := R_D) (T := F_D) (N := 6) hx hb hts (fun w h => List.mem_cons_of_mem _ (in_D w h)) hown hKd hPd 0 rfl rfl 3 (by decide) (hts (.fieldLink R_D 15 "PeriodWords$Draft" "a" "LPeriodWords$Word;") (List.mem_cons_of_mem _ mb_122)) (fun _ h9 => h9) rfl d_D_bitAt_145 ?_
    refine lv_aload_n hx hb d_D_bitAt_148 rfl (lv_at hl 0 rfl) ?_
    refine va_get (D := (dC, dI)) (ci := ciD) (v := .ref a2) (C := R_D) (T := F_D) (N := 6) hx hb hts (fun w h => List.mem_cons_of_mem _ (in_D w h)) hown hKd hPd 0 rfl rfl 4 (by decide) (hts (.fieldLink R_D 19 "PeriodWords$Draft" "b" "LPeriodWords$Word;") (List.mem_cons_of_mem _ mb_123)) (fun _ h9 => h9) rfl d_D_bitAt_149 ?_
    refine lv_iload_n hx hb d_D_bitAt_152 rfl (lv_at hl 1 rfl) ?_
    refine lv_iconst (v := nI 1) hx hb d_D_bitAt_153 (by decide) ?_
    refine pq_iadd (a := t) (b := 1) hx hb d_D_bitAt_154 ?_
    refine vp_callSi (W.runV (As := [.int (nI (t + 1))]) (rest := [.ref a]) ⟨hx, hb, hml, hown, hts⟩ (c_W_tickOf l dC dI hw2 hpl2 (n := t + 1) (by omega) (by omega) (Or.inl (hby rfl))) (cwV 1 hts (gd_V mb_175 mb_139 mb_140 mb_24 mb_141) rfl rfl rfl (by decide +kernel) ⟨Nat.le_of_ble_eq_true rfl, Nat.le_of_ble_eq_true rfl⟩) (pw_R_V (va_recv hKb hPb (ci := ciW) (q0 := 0) rfl rfl) hPb hKb) rfl rfl hl.1 rfl (lv_room (Nat.le_of_ble_eq_true rfl)) d_D_bitAt_155 ⟨Nat.le_of_ble_eq_true rfl, Nat.le_of_ble_eq_true rfl⟩) (fun r_155 hr_155 => ?_)
    subst hr_155
    refine vp_callSi (W.runV (As := [.int (nI (pw_tk f2 (t + 1)))]) (rest := []) ⟨hx, hb, hml, hown, hts⟩ (c_W_bitAt l dC dI hw (t := pw_tk f2 (t + 1)) (by omega)) (cwV 1 hts (gd_V mb_170 mb_171 mb_172 mb_24 mb_173) rfl rfl rfl (by decide +kernel) ⟨Nat.le_of_ble_eq_true rfl, Nat.le_of_ble_eq_true rfl⟩) (pw_R_V (va_recv hKa hPa (ci := ciW) (q0 := 0) rfl rfl) hPa hKa) rfl rfl hl.1 rfl (lv_room (Nat.le_of_ble_eq_true rfl)) d_D_bitAt_158 ⟨Nat.le_of_ble_eq_true rfl, Nat.le_of_ble_eq_true rfl⟩) (fun r_158 hr_158 => ?_)
    subst hr_158
    exact W.iret (v := (nI ((f (pw_tk f2 (t + 1))).toNat))) hx hb hr (fun t_ ht_ hW_ => ⟨_, rfl, rfl, ht_⟩) (fun q h => absurd h List.not_mem_nil) d_D_bitAt_161
  · refine lv_tableIn (tgt := 162) hx hb d_D_bitAt_4 (by decide) (by decide) rfl (by decide) ?_
    refine lv_iload_n hx hb d_D_bitAt_162 rfl (lv_at hl 1 rfl) ?_
    refine lv_aload_n hx hb d_D_bitAt_163 rfl (lv_at hl 0 rfl) ?_
    refine va_get (D := (dC, dI)) (ci := ciD) (v := .int (nI (late))) (C := R_D) (T := F_D) (N := 6) hx hb hts (fun w h => List.mem_cons_of_mem _ (in_D w h)) hown hKd hPd 0 rfl rfl 5 (by decide) (hts (.fieldLink R_D 22 "PeriodWords$Draft" "late" "I") (List.mem_cons_of_mem _ mb_124)) (fun _ h9 => h9) rfl d_D_bitAt_164 ?_
    refine pq_icmp_ge (tgt := 174) (a := t) (b := late) hx hb d_D_bitAt_167 (by decide) (by omega) (by omega) (fun c_167 => ?_) (fun c_167 => ?_)
    · refine lv_aload_n hx hb d_D_bitAt_174 rfl (lv_at hl 0 rfl) ?_
      refine va_get (D := (dC, dI)) (ci := ciD) (v := .ref a) (C := R_D) (T := F_D) (N := 6) hx hb hts (fun w h => List.mem_cons_of_mem _ (in_D w h)) hown hKd hPd 0 rfl rfl 3 (by decide) (hts (.fieldLink R_D 15 "PeriodWords$Draft" "a" "LPeriodWords$Word;") (List.mem_cons_of_mem _ mb_122)) (fun _ h9 => h9) rfl d_D_bitAt_175 ?_
      refine lv_iload_n hx hb d_D_bitAt_178 rfl (lv_at hl 1 rfl) ?_
      refine lv_aload_n hx hb d_D_bitAt_179 rfl (lv_at hl 0 rfl) ?_
      refine va_get (D := (dC, dI)) (ci := ciD) (v := .int (nI (late))) (C := R_D) (T := F_D) (N := 6) hx hb hts (fun w h => List.mem_cons_of_mem _ (in_D w h)) hown hKd hPd 0 rfl rfl 5 (by decide) (hts (.fieldLink R_D 22 "PeriodWords$Draft" "late" "I") (List.mem_cons_of_mem _ mb_124)) (fun _ h9 => h9) rfl d_D_bitAt_180 ?_
      refine pq_isub (a := t) (b := late) hx hb d_D_bitAt_183 (by omega) ?_
      refine vp_callSi (W.runV (As := [.int (nI (t - late))]) (rest := []) ⟨hx, hb, hml, hown, hts⟩ (c_W_bitAt l dC dI hw (t := t - late) (by omega)) (cwV 1 hts (gd_V mb_170 mb_171 mb_172 mb_24 mb_173) rfl rfl rfl (by decide +kernel) ⟨Nat.le_of_ble_eq_true rfl, Nat.le_of_ble_eq_true rfl⟩) (pw_R_V (va_recv hKa hPa (ci := ciW) (q0 := 0) rfl rfl) hPa hKa) rfl rfl hl.1 rfl (lv_room (Nat.le_of_ble_eq_true rfl)) d_D_bitAt_184 ⟨Nat.le_of_ble_eq_true rfl, Nat.le_of_ble_eq_true rfl⟩) (fun r_184 hr_184 => ?_)
      subst hr_184
      exact W.iret (v := (nI ((f (t - late)).toNat))) hx hb hr (fun t_ ht_ hW_ => ⟨_, rfl, by (try dsimp only); show _ = nI (if t < late then false else f (t - late)).toNat; rw [if_neg (by omega)], ht_⟩) (fun q h => absurd h List.not_mem_nil) d_D_bitAt_187
    · refine lv_iconst (v := nI 0) hx hb d_D_bitAt_170 (by decide) ?_
      refine lv_goto (tgt := 187) hx hb d_D_bitAt_171 (by decide) ?_
      exact W.iret (v := (nI (0))) hx hb hr (fun t_ ht_ hW_ => ⟨_, rfl, by (try dsimp only); show _ = nI (if t < late then false else f (t - late)).toNat; rw [if_pos (by omega)]; rfl, ht_⟩) (fun q h => absurd h List.not_mem_nil) d_D_bitAt_187
  · refine lv_tableOut (tgt := 188) hx hb d_D_bitAt_4 (Or.inr (by decide)) (by decide) ?_
    refine lv_aload_n hx hb d_D_bitAt_188 rfl (lv_at hl 0 rfl) ?_
    refine va_get (D := (dC, dI)) (ci := ciD) (v := .ref a) (C := R_D) (T := F_D) (N := 6) hx hb hts (fun w h => List.mem_cons_of_mem _ (in_D w h)) hown hKd hPd 0 rfl rfl 3 (by decide) (hts (.fieldLink R_D 15 "PeriodWords$Draft" "a" "LPeriodWords$Word;") (List.mem_cons_of_mem _ mb_122)) (fun _ h9 => h9) rfl d_D_bitAt_189 ?_
    refine lv_iload_n hx hb d_D_bitAt_192 rfl (lv_at hl 1 rfl) ?_
    refine vp_callSi (W.runV (As := [.int (nI (t))]) (rest := []) ⟨hx, hb, hml, hown, hts⟩ (c_W_bitAt l dC dI hw (t := t) (by omega)) (cwV 1 hts (gd_V mb_170 mb_171 mb_172 mb_24 mb_173) rfl rfl rfl (by decide +kernel) ⟨Nat.le_of_ble_eq_true rfl, Nat.le_of_ble_eq_true rfl⟩) (pw_R_V (va_recv hKa hPa (ci := ciW) (q0 := 0) rfl rfl) hPa hKa) rfl rfl hl.1 rfl (lv_room (Nat.le_of_ble_eq_true rfl)) d_D_bitAt_193 ⟨Nat.le_of_ble_eq_true rfl, Nat.le_of_ble_eq_true rfl⟩) (fun r_193 hr_193 => ?_)
    subst hr_193
    refine lv_aload_n hx hb d_D_bitAt_196 rfl (lv_at hl 0 rfl) ?_
    refine va_get (D := (dC, dI)) (ci := ciD) (v := .ref a) (C := R_D) (T := F_D) (N := 6) hx hb hts (fun w h => List.mem_cons_of_mem _ (in_D w h)) hown hKd hPd 0 rfl rfl 3 (by decide) (hts (.fieldLink R_D 15 "PeriodWords$Draft" "a" "LPeriodWords$Word;") (List.mem_cons_of_mem _ mb_122)) (fun _ h9 => h9) rfl d_D_bitAt_197 ?_
    refine lv_iload_n hx hb d_D_bitAt_200 rfl (lv_at hl 1 rfl) ?_
    refine vp_callSi (W.runV (As := [.int (nI (t))]) (rest := [.int (nI ((f t).toNat))]) ⟨hx, hb, hml, hown, hts⟩ (c_W_onesBefore l dC dI hw (t := t) (by omega)) (cwV 1 hts (gd_V mb_174 mb_154 mb_155 mb_24 mb_156) rfl rfl rfl (by decide +kernel) ⟨Nat.le_of_ble_eq_true rfl, Nat.le_of_ble_eq_true rfl⟩) (pw_R_V (va_recv hKa hPa (ci := ciW) (q0 := 0) rfl rfl) hPa hKa) rfl rfl hl.1 rfl (lv_room (Nat.le_of_ble_eq_true rfl)) d_D_bitAt_201 ⟨Nat.le_of_ble_eq_true rfl, Nat.le_of_ble_eq_true rfl⟩) (fun r_201 hr_201 => ?_)
    subst hr_201
    refine lv_iconst (v := (-1)) hx hb d_D_bitAt_204 (by decide) ?_
    refine lv_ixor hx hb d_D_bitAt_205 ?_
    refine lv_topi (fun x_5 ex_5 => ?_)
    refine pq_top (y := .int (nI (pw_c f t) ^^^ (-1))) (by rw [ex_5]) ?_
    refine lv_iand hx hb d_D_bitAt_206 ?_
    refine lv_topi (fun x_6 ex_6 => ?_)
    refine pq_top (y := .int (nI ((f t && decide (pw_c f t % 2 = 0)).toNat))) (by rw [ex_6, pw_bhalf]) ?_
    exact W.iret (v := (nI ((f t && decide (pw_c f t % 2 = 0)).toNat))) hx hb hr (fun t_ ht_ hW_ => ⟨_, rfl, rfl, ht_⟩) (fun q h => absurd h List.not_mem_nil) d_D_bitAt_207
set_option maxHeartbeats 4000000 in
set_option maxRecDepth 100000 in
theorem c_D_bits (l : Launch) (dC : Nat → ClassId) (dI : Nat → Nat → Nat) {a q h pp : Nat} {cA : ClassId} {f : Nat → Bool} {pl : Nat → Int32} (hw : wd_ok h pp f) {a2 q2 h2 pp2 : Nat} {cA2 : ClassId} {f2 : Nat → Bool} {pl2 : Nat → Int32} (hw2 : wd_ok h2 pp2 f2) (hpl2 : wd_pl h2 pp2 f2 pl2) {dd hd rd how late : Nat} (hhow : how < 8) (hlate : late < 100) (hby : how = 5 → 0 < pw_o f2 h2 pp2) {u n : Nat} (hu : u < 1000000) (hn : n ≤ 60) : Met l y_D_bits ws_D_bits ({ frames := 3, cells := 0, slots := 0, locals := 65 } : Room) (pw_R [.ref dd, .int (nI (u)), .int (nI (n))] dC dI [(cA, .int), (cA2, .int)] (dr dd a a2 hd rd how late ++ (wd a q cA h pp f pl ++ wd a2 q2 cA2 h2 pp2 f2 pl2))) (vp_Sl (fun r => r = lN (pw_b (pw_mk how f f2 late) u n))) 0 0 (fun _ => False) := by
  refine Met.ofW (cc := b_D_bits) (maxL := 6) (ret := (some .long)) (by decide) rfl ?_
  intro p e s m args below meth c s₁ B hml hv
  obtain ⟨rfl, hP, hK⟩ := hv
  have hx := B.exec
  have hb := B.bytes
  have hr := B.returns
  have hts := atoms_spec (ws := ws_D_bits) B.pre
  have hown : s.vm.findClass R_D = some m.cls := findClass_of_methodNamed B.named
  have hlocks := B.notSynchronized
  have hw0 := hw; obtain ⟨hh, hp0, hp6, hE⟩ := hw0
  have ho := pw_o_le f h pp
  have hc := pw_c_le f h
  have hw20 := hw2; obtain ⟨hh2, hp02, hp62, hE2⟩ := hw20
  have ho2 := pw_o_le f2 h2 pp2
  have hc2 := pw_c_le f2 h2
  have hPd := hP.sub (ws' := dr dd a a2 hd rd how late) [0] rfl
  have hKd := hK.sub (tys' := []) [] rfl
  have hPa := hP.sub (ws' := wd a q cA h pp f pl) [1, 2] rfl
  have hKa := hK.sub (tys' := [(cA, .int)]) [0] rfl
  have hPb := hP.sub (ws' := wd a2 q2 cA2 h2 pp2 f2 pl2) [3, 4] rfl
  have hKb := hK.sub (tys' := [(cA2, .int)]) [1] rfl
  obtain ⟨F, hF⟩ : ∃ F, F = pw_mk how f f2 late := ⟨_, rfl⟩
  have hl := lv_entry ([.ref dd, .int (nI (u)), .int (nI (n))]) (n := 6) (Nat.le_of_ble_eq_true rfl)
  rw [lg_entry_eq]
  generalize (lg_sl ([.ref dd, .int (nI (u)), .int (nI (n))]) ++ List.replicate (6 - (lg_sl ([.ref dd, .int (nI (u)), .int (nI (n))])).length) Slot.unset).toArray = ls at hl ⊢
  have hl : lv_has ls 6 [(0, .ref dd), (1, .int (nI (u))), (2, .int (nI (n)))] := hl
  refine lv_lconst (v := lN 0) hx hb d_D_bits_0 (by decide) ?_
  refine lv_lstore_n (lv' := [(3, .long (lN (0))), (0, .ref dd), (1, .int (nI (u))), (2, .int (nI (n)))]) hx hb d_D_bits_1 rfl hl (by decide) rfl (fun ls hl => ?_)
  refine lv_iconst (v := nI 0) hx hb d_D_bits_2 (by decide) ?_
  refine lv_istore (lv' := [(5, .int (nI (0))), (3, .long (lN (0))), (0, .ref dd), (1, .int (nI (u))), (2, .int (nI (n)))]) hx hb d_D_bits_3 hl (by decide) rfl (fun ls hl => ?_)
  have B_5 : ∀ (k_ : Nat) (i : Nat) (ls : Array Slot), (n - i) < k_ → (i ≤ n) → lv_has ls 6 [(0, .ref dd), (1, .int (nI (u))), (2, .int (nI (n))), (3, .long (lN (pw_b (pw_mk how f f2 late) u i))), (5, .int (nI (i)))] → W p l e (headSpec ws_D_bits ({ frames := 3, cells := 0, slots := 0, locals := 65 } : Room)).room s m ([.ref dd, .int (nI (u)), .int (nI (n))]).toArray below meth c s.heap [] 0 0 (MQ below (vp_Sl (fun r => r = lN (pw_b (pw_mk how f f2 late) u n))) ([.ref dd, .int (nI (u)), .int (nI (n))]).toArray s 0 0 (fun _ => False)) (F0 m 5 ls []) := by
    intro k_
    induction k_ with
    | zero => intro i ls h_; omega
    | succ k_ ih_5 =>
      intro i ls hm_ hi hl
      refine lv_iload hx hb d_D_bits_5 (lv_at hl 4 rfl) ?_
      refine lv_iload_n hx hb d_D_bits_7 rfl (lv_at hl 2 rfl) ?_
      refine pq_icmp_ge (tgt := 32) (a := i) (b := n) hx hb d_D_bits_8 (by decide) (by omega) (by omega) (fun c_8 => ?_) (fun c_8 => ?_)
      · refine lv_lload_n hx hb d_D_bits_32 rfl (lv_at hl 3 rfl) ?_
        exact W.lret (v := (lN (pw_b (pw_mk how f f2 late) u i))) hx hb hr (fun t_ ht_ hW_ => ⟨_, rfl, by (try dsimp only); rw [show i = n by omega], ht_⟩) (fun q h => absurd h List.not_mem_nil) d_D_bits_33
      · refine lv_lload_n hx hb d_D_bits_11 rfl (lv_at hl 3 rfl) ?_
        refine lv_aload_n hx hb d_D_bits_12 rfl (lv_at hl 0 rfl) ?_
        refine lv_iload_n hx hb d_D_bits_13 rfl (lv_at hl 1 rfl) ?_
        refine lv_iload hx hb d_D_bits_14 (lv_at hl 4 rfl) ?_
        refine pq_iadd (a := u) (b := i) hx hb d_D_bits_16 ?_
        refine vp_callSi (W.runV (As := [.int (nI (u + i))]) (rest := [.long (lN (pw_b (pw_mk how f f2 late) u i))]) ⟨hx, hb, hml, hown, hts⟩ (c_D_bitAt l dC dI hw hw2 hpl2 (hd := hd) (rd := rd) hhow hlate hby (t := u + i) (by omega)) (cwV 1 hts (gd_V mb_186 mb_167 mb_168 mb_27 mb_169) rfl rfl rfl (by decide +kernel) ⟨Nat.le_of_ble_eq_true rfl, Nat.le_of_ble_eq_true rfl⟩) (pw_R_V (va_recv hKd hPd (ci := ciD) (q0 := 0) rfl rfl) hP hK) rfl rfl hl.1 rfl (lv_room (Nat.le_of_ble_eq_true rfl)) d_D_bits_17 ⟨Nat.le_of_ble_eq_true rfl, Nat.le_of_ble_eq_true rfl⟩) (fun r_17 hr_17 => ?_)
        subst hr_17
        refine lv_i2l hx hb d_D_bits_20 rfl ?_
        refine lv_topl (fun y_1 ey_1 => ?_)
        refine pq_top (y := .long (lN ((pw_mk how f f2 late (u + i)).toNat))) (by rw [ey_1, pw_toL]) ?_
        refine lv_iload hx hb d_D_bits_21 (lv_at hl 4 rfl) ?_
        refine lv_lshl hx hb d_D_bits_23 rfl ?_
        refine lv_topl (fun y_2 ey_2 => ?_)
        refine pq_top (y := .long (lN ((pw_mk how f f2 late (u + i)).toNat * 2 ^ i))) (by rw [ey_2, pq_lshl _ (show i < 64 by omega)]) ?_
        refine lv_lor hx hb d_D_bits_24 ?_
        refine lv_topl (fun y_3 ey_3 => ?_)
        refine pq_top (y := .long (lN (pw_b (pw_mk how f f2 late) u (i + 1)))) (by rw [ey_3, pw_bor64 (show i < 60 by omega)]; rfl) ?_
        refine lv_lstore_n (lv' := [(3, .long (lN (pw_b (pw_mk how f f2 late) u (i + 1)))), (0, .ref dd), (1, .int (nI (u))), (2, .int (nI (n))), (5, .int (nI (i)))]) hx hb d_D_bits_25 rfl hl (by decide) rfl (fun ls hl => ?_)
        refine lv_iinc (v := nI (i + 1)) (lv' := [(5, .int (nI (i + 1))), (3, .long (lN (pw_b (pw_mk how f f2 late) u (i + 1)))), (0, .ref dd), (1, .int (nI (u))), (2, .int (nI (n)))]) hx hb d_D_bits_26 hl (k := 4) rfl (pq_inc _) (by decide) rfl (fun ls hl => ?_)
        refine lv_goto (tgt := 5) hx hb d_D_bits_29 (by decide) ?_
        exact ih_5 (i + 1) ls (by omega) (by omega) (lv_sub hl [2, 3, 4, 1, 0] rfl)
  exact B_5 _ (0) ls (Nat.lt_succ_self _) (by omega) (lv_sub hl [2, 3, 4, 1, 0] rfl)
set_option maxHeartbeats 4000000 in
set_option maxRecDepth 100000 in
theorem c_P_shortestHead (l : Launch) (dC : Nat → ClassId) (dI : Nat → Nat → Nat) {a q h pp : Nat} {cA : ClassId} {f : Nat → Bool} {pl : Nat → Int32} (hw : wd_ok h pp f) {a2 q2 h2 pp2 : Nat} {cA2 : ClassId} {f2 : Nat → Bool} {pl2 : Nat → Int32} (hw2 : wd_ok h2 pp2 f2) (hpl2 : wd_pl h2 pp2 f2 pl2) {dd hd rd how late : Nat} (hhow : how < 8) (hlate : late < 100) (hby : how = 5 → 0 < pw_o f2 h2 pp2) {rg : Nat} (hrg : rg ≤ 60) (hhd : hd < 100000) (hEd : pw_E (pw_mk how f f2 late) hd rg) : Met l y_P_shortestHead ws_P_shortestHead ({ frames := 3, cells := 0, slots := 0, locals := 65 } : Room) (pw_R [.ref dd, .int (nI (rg))] dC dI [(cA, .int), (cA2, .int)] (dr dd a a2 hd rd how late ++ (wd a q cA h pp f pl ++ wd a2 q2 cA2 h2 pp2 f2 pl2))) (vp_Si (fun r => ∃ x, r = nI x ∧ x ≤ hd ∧ pw_E (pw_mk how f f2 late) x rg ∧ (x = 0 ∨ pw_mk how f f2 late (x - 1) ≠ pw_mk how f f2 late (x - 1 + rg)))) 0 0 (fun _ => False) := by
  refine Met.ofW (cc := b_P_shortestHead) (maxL := 3) (ret := (some .int)) (by decide) rfl ?_
  intro p e s m args below meth c s₁ B hml hv
  obtain ⟨rfl, hP, hK⟩ := hv
  have hx := B.exec
  have hb := B.bytes
  have hr := B.returns
  have hts := atoms_spec (ws := ws_P_shortestHead) B.pre
  have hown : s.vm.findClass R_P = some m.cls := findClass_of_methodNamed B.named
  have hlocks := B.notSynchronized
  have hw0 := hw; obtain ⟨hh, hp0, hp6, hE⟩ := hw0
  have ho := pw_o_le f h pp
  have hc := pw_c_le f h
  have hw20 := hw2; obtain ⟨hh2, hp02, hp62, hE2⟩ := hw20
  have ho2 := pw_o_le f2 h2 pp2
  have hc2 := pw_c_le f2 h2
  have hPd := hP.sub (ws' := dr dd a a2 hd rd how late) [0] rfl
  have hKd := hK.sub (tys' := []) [] rfl
  have hPa := hP.sub (ws' := wd a q cA h pp f pl) [1, 2] rfl
  have hKa := hK.sub (tys' := [(cA, .int)]) [0] rfl
  have hPb := hP.sub (ws' := wd a2 q2 cA2 h2 pp2 f2 pl2) [3, 4] rfl
  have hKb := hK.sub (tys' := [(cA2, .int)]) [1] rfl
  have hl := lv_entry ([.ref dd, .int (nI (rg))]) (n := 3) (Nat.le_of_ble_eq_true rfl)
  rw [lg_entry_eq]
  generalize (lg_sl ([.ref dd, .int (nI (rg))]) ++ List.replicate (3 - (lg_sl ([.ref dd, .int (nI (rg))])).length) Slot.unset).toArray = ls at hl ⊢
  have hl : lv_has ls 3 [(0, .ref dd), (1, .int (nI (rg)))] := hl
  refine lv_aload_n hx hb d_P_shortestHead_0 rfl (lv_at hl 0 rfl) ?_
  refine va_get (D := (dC, dI)) (ci := ciD) (v := .int (nI (hd))) (C := R_D) (T := F_D) (N := 6) hx hb hts (fun w h => List.mem_cons_of_mem _ (in_D w h)) hown hKd hPd 0 rfl rfl 0 (by decide) (hts (.fieldLink R_P 147 "PeriodWords$Draft" "headLength" "I") (List.mem_cons_of_mem _ mb_118)) (fun _ h9 => h9) rfl d_P_shortestHead_1 ?_
  refine lv_istore_n (lv' := [(2, .int (nI (hd))), (0, .ref dd), (1, .int (nI (rg)))]) hx hb d_P_shortestHead_4 rfl hl (by decide) rfl (fun ls hl => ?_)
  have B_5 : ∀ (k_ : Nat) (x : Nat) (ls : Array Slot), (x) < k_ → (x ≤ hd) → (pw_E (pw_mk how f f2 late) x rg) → lv_has ls 3 [(0, .ref dd), (1, .int (nI (rg))), (2, .int (nI (x)))] → W p l e (headSpec ws_P_shortestHead ({ frames := 3, cells := 0, slots := 0, locals := 65 } : Room)).room s m ([.ref dd, .int (nI (rg))]).toArray below meth c s.heap [] 0 0 (MQ below (vp_Si (fun r => ∃ x, r = nI x ∧ x ≤ hd ∧ pw_E (pw_mk how f f2 late) x rg ∧ (x = 0 ∨ pw_mk how f f2 late (x - 1) ≠ pw_mk how f f2 late (x - 1 + rg)))) ([.ref dd, .int (nI (rg))]).toArray s 0 0 (fun _ => False)) (F0 m 5 ls []) := by
    intro k_
    induction k_ with
    | zero => intro x ls h_; omega
    | succ k_ ih_5 =>
      intro x ls hm_ hx1 hxE hl
      refine lv_iload_n hx hb d_P_shortestHead_5 rfl (lv_at hl 2 rfl) ?_
      refine pq_if_le (tgt := 36) (a := x) hx hb d_P_shortestHead_6 (by decide) (by omega) (fun c_6 => ?_) (fun c_6 => ?_)
      · refine lv_iconst (v := nI 0) hx hb d_P_shortestHead_36 (by decide) ?_
        exact W.iret (v := (nI (0))) hx hb hr (fun t_ ht_ hW_ => ⟨_, rfl, ⟨0, rfl, Nat.zero_le _, by rw [← c_6]; exact hxE, Or.inl rfl⟩, ht_⟩) (fun q h => absurd h List.not_mem_nil) d_P_shortestHead_37
      · refine lv_aload_n hx hb d_P_shortestHead_9 rfl (lv_at hl 0 rfl) ?_
        refine lv_iload_n hx hb d_P_shortestHead_10 rfl (lv_at hl 2 rfl) ?_
        refine lv_iconst (v := nI 1) hx hb d_P_shortestHead_11 (by decide) ?_
        refine pq_isub (a := x) (b := 1) hx hb d_P_shortestHead_12 (by omega) ?_
        refine vp_callSi (W.runV (As := [.int (nI (x - 1))]) (rest := []) ⟨hx, hb, hml, hown, hts⟩ (c_D_bitAt l dC dI hw hw2 hpl2 (hd := hd) (rd := rd) hhow hlate hby (t := x - 1) (by omega)) (cwV 1 hts (gd_V mb_166 mb_167 mb_168 mb_27 mb_169) rfl rfl rfl (by decide +kernel) ⟨Nat.le_of_ble_eq_true rfl, Nat.le_of_ble_eq_true rfl⟩) (pw_R_V (va_recv hKd hPd (ci := ciD) (q0 := 0) rfl rfl) hP hK) rfl rfl hl.1 rfl (lv_room (Nat.le_of_ble_eq_true rfl)) d_P_shortestHead_13 ⟨Nat.le_of_ble_eq_true rfl, Nat.le_of_ble_eq_true rfl⟩) (fun r_13 hr_13 => ?_)
        subst hr_13
        refine lv_aload_n hx hb d_P_shortestHead_16 rfl (lv_at hl 0 rfl) ?_
        refine lv_iload_n hx hb d_P_shortestHead_17 rfl (lv_at hl 2 rfl) ?_
        refine lv_iconst (v := nI 1) hx hb d_P_shortestHead_18 (by decide) ?_
        refine pq_isub (a := x) (b := 1) hx hb d_P_shortestHead_19 (by omega) ?_
        refine lv_iload_n hx hb d_P_shortestHead_20 rfl (lv_at hl 1 rfl) ?_
        refine pq_iadd (a := (x - 1)) (b := rg) hx hb d_P_shortestHead_21 ?_
        refine vp_callSi (W.runV (As := [.int (nI ((x - 1) + rg))]) (rest := [.int (nI ((pw_mk how f f2 late (x - 1)).toNat))]) ⟨hx, hb, hml, hown, hts⟩ (c_D_bitAt l dC dI hw hw2 hpl2 (hd := hd) (rd := rd) hhow hlate hby (t := x - 1 + rg) (by omega)) (cwV 1 hts (gd_V mb_166 mb_167 mb_168 mb_27 mb_169) rfl rfl rfl (by decide +kernel) ⟨Nat.le_of_ble_eq_true rfl, Nat.le_of_ble_eq_true rfl⟩) (pw_R_V (va_recv hKd hPd (ci := ciD) (q0 := 0) rfl rfl) hP hK) rfl rfl hl.1 rfl (lv_room (Nat.le_of_ble_eq_true rfl)) d_P_shortestHead_22 ⟨Nat.le_of_ble_eq_true rfl, Nat.le_of_ble_eq_true rfl⟩) (fun r_22 hr_22 => ?_)
        subst hr_22
        refine pq_icmp_eq (tgt := 30) (a := ((pw_mk how f f2 late (x - 1)).toNat)) (b := ((pw_mk how f f2 late (x - 1 + rg)).toNat)) hx hb d_P_shortestHead_25 (by decide) (by have := pw_lt2 (pw_mk how f f2 late (x - 1)); omega) (by have := pw_lt2 (pw_mk how f f2 late (x - 1 + rg)); omega) (fun c_25 => ?_) (fun c_25 => ?_)
        · refine lv_iinc (v := nI (x - 1)) (lv' := [(2, .int (nI (x - 1))), (0, .ref dd), (1, .int (nI (rg)))]) hx hb d_P_shortestHead_30 hl (k := 2) rfl (pq_dec _ (by omega)) (by decide) rfl (fun ls hl => ?_)
          refine lv_goto (tgt := 5) hx hb d_P_shortestHead_33 (by decide) ?_
          exact ih_5 (x - 1) ls (by omega) (by omega) (pw_E_dn hxE c_25) (lv_sub hl [1, 2, 0] rfl)
        · refine lv_iload_n hx hb d_P_shortestHead_28 rfl (lv_at hl 2 rfl) ?_
          exact W.iret (v := (nI (x))) hx hb hr (fun t_ ht_ hW_ => ⟨_, rfl, ⟨x, rfl, hx1, hxE, Or.inr (fun z => c_25 (by rw [z]))⟩, ht_⟩) (fun q h => absurd h List.not_mem_nil) d_P_shortestHead_29
  exact B_5 _ (hd) ls (Nat.lt_succ_self _) (by omega) hEd (lv_sub hl [1, 2, 0] rfl)
set_option maxHeartbeats 4000000 in
set_option maxRecDepth 100000 in
theorem c_P_shortestRing (l : Launch) (dC : Nat → ClassId) (dI : Nat → Nat → Nat) {a q h pp : Nat} {cA : ClassId} {f : Nat → Bool} {pl : Nat → Int32} (hw : wd_ok h pp f) {a2 q2 h2 pp2 : Nat} {cA2 : ClassId} {f2 : Nat → Bool} {pl2 : Nat → Int32} (hw2 : wd_ok h2 pp2 f2) (hpl2 : wd_pl h2 pp2 f2 pl2) {dd hd rd how late : Nat} (hhow : how < 8) (hlate : late < 100) (hby : how = 5 → 0 < pw_o f2 h2 pp2) (hhd : hd < 100000) (hrd : rd < 100000) (hrd0 : 0 < rd) (hEd : pw_E (pw_mk how f f2 late) hd rd) : Met l y_P_shortestRing ws_P_shortestRing ({ frames := 3, cells := 0, slots := 0, locals := 65 } : Room) (pw_R [.ref dd] dC dI [(cA, .int), (cA2, .int)] (dr dd a a2 hd rd how late ++ (wd a q cA h pp f pl ++ wd a2 q2 cA2 h2 pp2 f2 pl2))) (vp_Si (fun r => (∃ x, r = nI x ∧ 0 < x ∧ x ≤ 60 ∧ pw_E (pw_mk how f f2 late) hd x ∧ ∀ q, 0 < q → q < x → ¬ pw_E (pw_mk how f f2 late) hd q) ∨ (r = -1 ∧ ∀ q, 0 < q → q ≤ 60 → ¬ pw_E (pw_mk how f f2 late) hd q))) 0 0 (fun _ => False) := by
  refine Met.ofW (cc := b_P_shortestRing) (maxL := 8) (ret := (some .int)) (by decide) rfl ?_
  intro p e s m args below meth c s₁ B hml hv
  obtain ⟨rfl, hP, hK⟩ := hv
  have hx := B.exec
  have hb := B.bytes
  have hr := B.returns
  have hts := atoms_spec (ws := ws_P_shortestRing) B.pre
  have hown : s.vm.findClass R_P = some m.cls := findClass_of_methodNamed B.named
  have hlocks := B.notSynchronized
  have hw0 := hw; obtain ⟨hh, hp0, hp6, hE⟩ := hw0
  have ho := pw_o_le f h pp
  have hc := pw_c_le f h
  have hw20 := hw2; obtain ⟨hh2, hp02, hp62, hE2⟩ := hw20
  have ho2 := pw_o_le f2 h2 pp2
  have hc2 := pw_c_le f2 h2
  have hPd := hP.sub (ws' := dr dd a a2 hd rd how late) [0] rfl
  have hKd := hK.sub (tys' := []) [] rfl
  have hPa := hP.sub (ws' := wd a q cA h pp f pl) [1, 2] rfl
  have hKa := hK.sub (tys' := [(cA, .int)]) [0] rfl
  have hPb := hP.sub (ws' := wd a2 q2 cA2 h2 pp2 f2 pl2) [3, 4] rfl
  have hKb := hK.sub (tys' := [(cA2, .int)]) [1] rfl
  have hl := lv_entry ([.ref dd]) (n := 8) (Nat.le_of_ble_eq_true rfl)
  rw [lg_entry_eq]
  generalize (lg_sl ([.ref dd]) ++ List.replicate (8 - (lg_sl ([.ref dd])).length) Slot.unset).toArray = ls at hl ⊢
  have hl : lv_has ls 8 [(0, .ref dd)] := hl
  refine lv_lconst (v := lN 0) hx hb d_P_shortestRing_0 (by decide) ?_
  refine lv_lstore_n (lv' := [(1, .long (lN (0))), (0, .ref dd)]) hx hb d_P_shortestRing_1 rfl hl (by decide) rfl (fun ls hl => ?_)
  refine lv_iconst (v := nI 0) hx hb d_P_shortestRing_2 (by decide) ?_
  refine lv_istore_n (lv' := [(3, .int (nI (0))), (1, .long (lN (0))), (0, .ref dd)]) hx hb d_P_shortestRing_3 rfl hl (by decide) rfl (fun ls hl => ?_)
  have B_4 : ∀ (k_ : Nat) (y : Nat) (i : Nat) (ls : Array Slot), (60 - i) < k_ → (i ≤ 60) → (y < 2 ^ 64 ∧ ∀ j, j < i → y.testBit j = pw_mk how f f2 late (hd + i - 1 - j)) → lv_has ls 8 [(0, .ref dd), (1, .long (lN (y))), (3, .int (nI (i)))] → W p l e (headSpec ws_P_shortestRing ({ frames := 3, cells := 0, slots := 0, locals := 65 } : Room)).room s m ([.ref dd]).toArray below meth c s.heap [] 0 0 (MQ below (vp_Si (fun r => (∃ x, r = nI x ∧ 0 < x ∧ x ≤ 60 ∧ pw_E (pw_mk how f f2 late) hd x ∧ ∀ q, 0 < q → q < x → ¬ pw_E (pw_mk how f f2 late) hd q) ∨ (r = -1 ∧ ∀ q, 0 < q → q ≤ 60 → ¬ pw_E (pw_mk how f f2 late) hd q))) ([.ref dd]).toArray s 0 0 (fun _ => False)) (F0 m 4 ls []) := by
    intro k_
    induction k_ with
    | zero => intro y i ls h_; omega
    | succ k_ ih_4 =>
      intro y i ls hm_ hi hyy hl
      refine lv_iload_n hx hb d_P_shortestRing_4 rfl (lv_at hl 2 rfl) ?_
      refine lv_bipush (v := nI 60) hx hb d_P_shortestRing_5 (by decide) ?_
      refine pq_icmp_ge (tgt := 32) (a := i) (b := 60) hx hb d_P_shortestRing_7 (by decide) (by omega) (by omega) (fun c_7 => ?_) (fun c_7 => ?_)
      · refine lv_aload_n hx hb d_P_shortestRing_32 rfl (lv_at hl 0 rfl) ?_
        refine va_get (D := (dC, dI)) (ci := ciD) (v := .int (nI (hd))) (C := R_D) (T := F_D) (N := 6) hx hb hts (fun w h => List.mem_cons_of_mem _ (in_D w h)) hown hKd hPd 0 rfl rfl 0 (by decide) (hts (.fieldLink R_P 147 "PeriodWords$Draft" "headLength" "I") (List.mem_cons_of_mem _ mb_118)) (fun _ h9 => h9) rfl d_P_shortestRing_33 ?_
        refine lv_bipush (v := nI 60) hx hb d_P_shortestRing_36 (by decide) ?_
        refine pq_iadd (a := hd) (b := 60) hx hb d_P_shortestRing_38 ?_
        refine lv_istore_n (lv' := [(3, .int (nI (hd + 60))), (0, .ref dd), (1, .long (lN (y)))]) hx hb d_P_shortestRing_39 rfl hl (by decide) rfl (fun ls hl => ?_)
        refine lv_ldc2 (v := (1152921504606846975)) hx hb hown (hts (.constantLong R_P 149 (1152921504606846975)) (List.mem_cons_of_mem _ mb_176)) d_P_shortestRing_40 ?_
        refine pq_top (y := .long (lN (2 ^ 60 - 1))) (by rw [show (1152921504606846975 : Int64) = lN (2 ^ 60 - 1) by decide +kernel]) ?_
        refine lv_lstore (lv' := [(4, .long (lN (2 ^ 60 - 1))), (3, .int (nI (hd + 60))), (0, .ref dd), (1, .long (lN (y)))]) hx hb d_P_shortestRing_43 hl (by decide) rfl (fun ls hl => ?_)
        refine lv_iconst (v := nI 0) hx hb d_P_shortestRing_45 (by decide) ?_
        refine lv_istore (lv' := [(6, .int (nI (0))), (4, .long (lN (2 ^ 60 - 1))), (3, .int (nI (hd + 60))), (0, .ref dd), (1, .long (lN (y)))]) hx hb d_P_shortestRing_46 hl (by decide) rfl (fun ls hl => ?_)
        have B_48 : ∀ (k_ : Nat) (y : Nat) (x : Nat) (i : Nat) (ls : Array Slot), (rd - i) < k_ → (i ≤ rd) → (pw_past (pw_mk how f f2 late) (hd + 60 + i) y) → (pw_len (pw_mk how f f2 late) hd i x) → lv_has ls 8 [(0, .ref dd), (1, .long (lN (y))), (3, .int (nI (hd + 60))), (4, .long (lN (x))), (6, .int (nI (i)))] → W p l e (headSpec ws_P_shortestRing ({ frames := 3, cells := 0, slots := 0, locals := 65 } : Room)).room s m ([.ref dd]).toArray below meth c s.heap [] 0 0 (MQ below (vp_Si (fun r => (∃ x, r = nI x ∧ 0 < x ∧ x ≤ 60 ∧ pw_E (pw_mk how f f2 late) hd x ∧ ∀ q, 0 < q → q < x → ¬ pw_E (pw_mk how f f2 late) hd q) ∨ (r = -1 ∧ ∀ q, 0 < q → q ≤ 60 → ¬ pw_E (pw_mk how f f2 late) hd q))) ([.ref dd]).toArray s 0 0 (fun _ => False)) (F0 m 48 ls []) := by
          intro k_
          induction k_ with
          | zero => intro y x i ls h_; omega
          | succ k_ ih_48 =>
            intro y x i ls hm_ hi hyy hxx hl
            refine lv_iload hx hb d_P_shortestRing_48 (lv_at hl 4 rfl) ?_
            refine lv_aload_n hx hb d_P_shortestRing_50 rfl (lv_at hl 0 rfl) ?_
            refine va_get (D := (dC, dI)) (ci := ciD) (v := .int (nI (rd))) (C := R_D) (T := F_D) (N := 6) hx hb hts (fun w h => List.mem_cons_of_mem _ (in_D w h)) hown hKd hPd 0 rfl rfl 1 (by decide) (hts (.fieldLink R_P 151 "PeriodWords$Draft" "ringLength" "I") (List.mem_cons_of_mem _ mb_120)) (fun _ h9 => h9) rfl d_P_shortestRing_51 ?_
            refine pq_icmp_ge (tgt := 108) (a := i) (b := rd) hx hb d_P_shortestRing_54 (by decide) (by omega) (by omega) (fun c_54 => ?_) (fun c_54 => ?_)
            · refine lv_lload hx hb d_P_shortestRing_108 (lv_at hl 3 rfl) ?_
              refine lv_lconst (v := lN 0) hx hb d_P_shortestRing_110 (by decide) ?_
              refine W.lcmp hx hb d_P_shortestRing_111 ?_
              refine lv_topi (fun x_1 ex_1 => ?_)
              refine lv_if_ne (tgt := 117) hx hb d_P_shortestRing_112 (by decide) (fun c_112 => ?_) (fun c_112 => ?_)
              · have c_112n : x ≠ 0 := fun z_ => c_112 (by rw [ex_1]; exact (pq_cmpN (Nat.lt_trans hxx.1 (by decide)) (by decide)).mpr z_)
                obtain ⟨k, hk60, hk1, hkl⟩ := pw_low_ex hxx.1 c_112n
                have hx64 : x < 2 ^ 64 := Nat.lt_trans hxx.1 (by decide)
                have hlow := pw_low hx64 hk1 hkl
                have hn64 : 2 ^ 64 - x < 2 ^ 64 := by omega
                have hfull := pw_len_full hi hxx c_112n (by first | exact Or.inl c_54 | exact Or.inr c_61n)
                refine lv_lload hx hb d_P_shortestRing_117 (lv_at hl 3 rfl) ?_
                refine lv_lload hx hb d_P_shortestRing_119 (lv_at hl 3 rfl) ?_
                refine lv_lneg hx hb d_P_shortestRing_121 ?_
                refine lv_topl (fun y_2 ey_2 => ?_)
                refine pq_top (y := .long (lN (2 ^ 64 - x))) (by rw [ey_2, pq_neg hx64]) ?_
                refine lv_land hx hb d_P_shortestRing_122 ?_
                refine lv_topl (fun y_3 ey_3 => ?_)
                refine pq_top (y := .long (lN (2 ^ k))) (by rw [ey_3, wb_and hx64 hn64, hlow]) ?_
                refine lv_lstore (lv' := [(6, .long (lN (2 ^ k))), (0, .ref dd), (1, .long (lN (y))), (3, .int (nI (hd + 60))), (4, .long (lN (x)))]) hx hb d_P_shortestRing_123 hl (by decide) rfl (fun ls hl => ?_)
                refine lv_lload hx hb d_P_shortestRing_125 (lv_at hl 0 rfl) ?_
                refine lv_lconst (v := lN 1) hx hb d_P_shortestRing_127 (by decide) ?_
                refine lv_lsub hx hb d_P_shortestRing_128 ?_
                refine lv_topl (fun y_4 ey_4 => ?_)
                refine pq_top (y := .long (lN (2 ^ k - 1))) (by rw [ey_4, lN_sub Nat.one_le_two_pow]) ?_
                refine vp_callSi (W.runS (As := [.long (lN (2 ^ k - 1))]) (rest := []) ⟨hx, hb, hml, hown, hts⟩ (c_bitCount l dC dI (x := 2 ^ k - 1) (by have := Nat.pow_lt_pow_right (show 1 < 2 by decide) (show k < 64 by omega); omega)) (va_cwS 1 hts (gd_S mb_178 mb_68 mb_26 mb_69) rfl rfl rfl (by decide +kernel) ⟨Nat.le_of_ble_eq_true rfl, Nat.le_of_ble_eq_true rfl⟩) (pw_R_S pw_P0 hKd) rfl rfl hl.1 rfl (lv_room (Nat.le_of_ble_eq_true rfl)) d_P_shortestRing_129 ⟨Nat.le_of_ble_eq_true rfl, Nat.le_of_ble_eq_true rfl⟩) (fun r_129 hr_129 => ?_)
                subst hr_129
                refine lv_iconst (v := nI 1) hx hb d_P_shortestRing_132 (by decide) ?_
                refine pq_iadd (a := (pw_p (2 ^ k - 1) 64)) (b := 1) hx hb d_P_shortestRing_133 ?_
                exact W.iret (v := (nI ((pw_p (2 ^ k - 1) 64) + 1))) hx hb hr (fun t_ ht_ hW_ => ⟨_, rfl, Or.inl ⟨k + 1, by rw [pw_ones k (by omega)], by omega, by omega, (pw_len_E hrd0 hEd hfull hk60).mp hk1, pw_len_min hrd0 hEd hfull hk60 hkl⟩, ht_⟩) (fun q h => absurd h List.not_mem_nil) d_P_shortestRing_134
              · have c_112n : x = 0 := (pq_cmpN (Nat.lt_trans hxx.1 (by decide)) (by decide)).mp (by rw [← ex_1]; exact c_112)
                refine lv_iconst (v := (-1)) hx hb d_P_shortestRing_115 (by decide) ?_
                exact W.iret (v := (-1)) hx hb hr (fun t_ ht_ hW_ => ⟨_, rfl, Or.inr ⟨rfl, pw_len_none hrd0 hi hEd hxx c_112n⟩, ht_⟩) (fun q h => absurd h List.not_mem_nil) d_P_shortestRing_116
            · refine lv_lload hx hb d_P_shortestRing_57 (lv_at hl 3 rfl) ?_
              refine lv_lconst (v := lN 0) hx hb d_P_shortestRing_59 (by decide) ?_
              refine W.lcmp hx hb d_P_shortestRing_60 ?_
              refine lv_topi (fun x_5 ex_5 => ?_)
              refine lv_if_eq (tgt := 108) hx hb d_P_shortestRing_61 (by decide) (fun c_61 => ?_) (fun c_61 => ?_)
              · have c_61n : x = 0 := (pq_cmpN (Nat.lt_trans hxx.1 (by decide)) (by decide)).mp (by rw [← ex_5]; exact c_61)
                refine lv_lload hx hb d_P_shortestRing_108 (lv_at hl 3 rfl) ?_
                refine lv_lconst (v := lN 0) hx hb d_P_shortestRing_110 (by decide) ?_
                refine W.lcmp hx hb d_P_shortestRing_111 ?_
                refine lv_topi (fun x_6 ex_6 => ?_)
                refine lv_if_ne (tgt := 117) hx hb d_P_shortestRing_112 (by decide) (fun c_112 => ?_) (fun c_112 => ?_)
                · have c_112n : x ≠ 0 := fun z_ => c_112 (by rw [ex_6]; exact (pq_cmpN (Nat.lt_trans hxx.1 (by decide)) (by decide)).mpr z_)
                  obtain ⟨k, hk60, hk1, hkl⟩ := pw_low_ex hxx.1 c_112n
                  have hx64 : x < 2 ^ 64 := Nat.lt_trans hxx.1 (by decide)
                  have hlow := pw_low hx64 hk1 hkl
                  have hn64 : 2 ^ 64 - x < 2 ^ 64 := by omega
                  have hfull := pw_len_full hi hxx c_112n (by first | exact Or.inl c_54 | exact Or.inr c_61n)
                  refine lv_lload hx hb d_P_shortestRing_117 (lv_at hl 3 rfl) ?_
                  refine lv_lload hx hb d_P_shortestRing_119 (lv_at hl 3 rfl) ?_
                  refine lv_lneg hx hb d_P_shortestRing_121 ?_
                  refine lv_topl (fun y_7 ey_7 => ?_)
                  refine pq_top (y := .long (lN (2 ^ 64 - x))) (by rw [ey_7, pq_neg hx64]) ?_
                  refine lv_land hx hb d_P_shortestRing_122 ?_
                  refine lv_topl (fun y_8 ey_8 => ?_)
                  refine pq_top (y := .long (lN (2 ^ k))) (by rw [ey_8, wb_and hx64 hn64, hlow]) ?_
                  refine lv_lstore (lv' := [(6, .long (lN (2 ^ k))), (0, .ref dd), (1, .long (lN (y))), (3, .int (nI (hd + 60))), (4, .long (lN (x)))]) hx hb d_P_shortestRing_123 hl (by decide) rfl (fun ls hl => ?_)
                  refine lv_lload hx hb d_P_shortestRing_125 (lv_at hl 0 rfl) ?_
                  refine lv_lconst (v := lN 1) hx hb d_P_shortestRing_127 (by decide) ?_
                  refine lv_lsub hx hb d_P_shortestRing_128 ?_
                  refine lv_topl (fun y_9 ey_9 => ?_)
                  refine pq_top (y := .long (lN (2 ^ k - 1))) (by rw [ey_9, lN_sub Nat.one_le_two_pow]) ?_
                  refine vp_callSi (W.runS (As := [.long (lN (2 ^ k - 1))]) (rest := []) ⟨hx, hb, hml, hown, hts⟩ (c_bitCount l dC dI (x := 2 ^ k - 1) (by have := Nat.pow_lt_pow_right (show 1 < 2 by decide) (show k < 64 by omega); omega)) (va_cwS 1 hts (gd_S mb_178 mb_68 mb_26 mb_69) rfl rfl rfl (by decide +kernel) ⟨Nat.le_of_ble_eq_true rfl, Nat.le_of_ble_eq_true rfl⟩) (pw_R_S pw_P0 hKd) rfl rfl hl.1 rfl (lv_room (Nat.le_of_ble_eq_true rfl)) d_P_shortestRing_129 ⟨Nat.le_of_ble_eq_true rfl, Nat.le_of_ble_eq_true rfl⟩) (fun r_129 hr_129 => ?_)
                  subst hr_129
                  refine lv_iconst (v := nI 1) hx hb d_P_shortestRing_132 (by decide) ?_
                  refine pq_iadd (a := (pw_p (2 ^ k - 1) 64)) (b := 1) hx hb d_P_shortestRing_133 ?_
                  exact W.iret (v := (nI ((pw_p (2 ^ k - 1) 64) + 1))) hx hb hr (fun t_ ht_ hW_ => ⟨_, rfl, Or.inl ⟨k + 1, by rw [pw_ones k (by omega)], by omega, by omega, (pw_len_E hrd0 hEd hfull hk60).mp hk1, pw_len_min hrd0 hEd hfull hk60 hkl⟩, ht_⟩) (fun q h => absurd h List.not_mem_nil) d_P_shortestRing_134
                · have c_112n : x = 0 := (pq_cmpN (Nat.lt_trans hxx.1 (by decide)) (by decide)).mp (by rw [← ex_6]; exact c_112)
                  refine lv_iconst (v := (-1)) hx hb d_P_shortestRing_115 (by decide) ?_
                  exact W.iret (v := (-1)) hx hb hr (fun t_ ht_ hW_ => ⟨_, rfl, Or.inr ⟨rfl, pw_len_none hrd0 hi hEd hxx c_112n⟩, ht_⟩) (fun q h => absurd h List.not_mem_nil) d_P_shortestRing_116
              · have c_61n : x ≠ 0 := fun z_ => c_61 (by rw [ex_5]; exact (pq_cmpN (Nat.lt_trans hxx.1 (by decide)) (by decide)).mpr z_)
                refine lv_aload_n hx hb d_P_shortestRing_64 rfl (lv_at hl 0 rfl) ?_
                refine lv_iload_n hx hb d_P_shortestRing_65 rfl (lv_at hl 2 rfl) ?_
                refine lv_iload hx hb d_P_shortestRing_66 (lv_at hl 4 rfl) ?_
                refine pq_iadd (a := (hd + 60)) (b := i) hx hb d_P_shortestRing_68 ?_
                refine vp_callSi (W.runV (As := [.int (nI ((hd + 60) + i))]) (rest := []) ⟨hx, hb, hml, hown, hts⟩ (c_D_bitAt l dC dI hw hw2 hpl2 (hd := hd) (rd := rd) hhow hlate hby (t := hd + 60 + i) (by omega)) (cwV 1 hts (gd_V mb_166 mb_167 mb_168 mb_27 mb_169) rfl rfl rfl (by decide +kernel) ⟨Nat.le_of_ble_eq_true rfl, Nat.le_of_ble_eq_true rfl⟩) (pw_R_V (va_recv hKd hPd (ci := ciD) (q0 := 0) rfl rfl) hP hK) rfl rfl hl.1 rfl (lv_room (Nat.le_of_ble_eq_true rfl)) d_P_shortestRing_69 ⟨Nat.le_of_ble_eq_true rfl, Nat.le_of_ble_eq_true rfl⟩) (fun r_69 hr_69 => ?_)
                subst hr_69
                refine lv_istore (lv' := [(7, .int (nI ((pw_mk how f f2 late (hd + 60 + i)).toNat))), (0, .ref dd), (1, .long (lN (y))), (3, .int (nI (hd + 60))), (4, .long (lN (x))), (6, .int (nI (i)))]) hx hb d_P_shortestRing_72 hl (by decide) rfl (fun ls hl => ?_)
                refine lv_lload hx hb d_P_shortestRing_74 (lv_at hl 4 rfl) ?_
                refine lv_iload hx hb d_P_shortestRing_76 (lv_at hl 0 rfl) ?_
                refine lv_iconst (v := nI 1) hx hb d_P_shortestRing_78 (by decide) ?_
                refine pq_icmp_ne (tgt := 86) (a := ((pw_mk how f f2 late (hd + 60 + i)).toNat)) (b := 1) hx hb d_P_shortestRing_79 (by decide) (by have := pw_lt2 (pw_mk how f f2 late (hd + 60 + i)); omega) (by omega) (fun c_79 => ?_) (fun c_79 => ?_)
                · refine lv_lload_n hx hb d_P_shortestRing_86 rfl (lv_at hl 2 rfl) ?_
                  refine lv_ldc2 (v := (-1)) hx hb hown (hts (.constantLong R_P 152 (-1)) (List.mem_cons_of_mem _ mb_177)) d_P_shortestRing_87 ?_
                  refine lv_lxor hx hb d_P_shortestRing_90 ?_
                  refine lv_topl (fun y_10 ey_10 => ?_)
                  refine pq_top (y := .long (lN (2 ^ 64 - (y + 1)))) (by rw [ey_10, pq_not hyy.1]) ?_
                  have B_91 : ∀ (mk_ : Nat) (ls : Array Slot), (mk_ = if pw_mk how f f2 late (hd + 60 + i) = true then y else 2 ^ 64 - (y + 1)) → lv_has ls 8 [(0, .ref dd), (1, .long (lN (y))), (3, .int (nI (hd + 60))), (4, .long (lN (x))), (6, .int (nI (i))), (7, .int (nI ((pw_mk how f f2 late (hd + 60 + i)).toNat)))] → W p l e (headSpec ws_P_shortestRing ({ frames := 3, cells := 0, slots := 0, locals := 65 } : Room)).room s m ([.ref dd]).toArray below meth c s.heap [] 0 0 (MQ below (vp_Si (fun r => (∃ x, r = nI x ∧ 0 < x ∧ x ≤ 60 ∧ pw_E (pw_mk how f f2 late) hd x ∧ ∀ q, 0 < q → q < x → ¬ pw_E (pw_mk how f f2 late) hd q) ∨ (r = -1 ∧ ∀ q, 0 < q → q ≤ 60 → ¬ pw_E (pw_mk how f f2 late) hd q))) ([.ref dd]).toArray s 0 0 (fun _ => False)) (F0 m 91 ls [.long (lN (mk_)), .long (lN (x))]) := by
                    intro mk_ ls hmm hl
                    obtain ⟨hm1, hm2, hm3⟩ := pw_len_s hxx hyy hmm
                    refine lv_land hx hb d_P_shortestRing_91 ?_
                    refine pq_top (y := .long (lN (x &&& mk_))) (by rw [hm2]) ?_
                    refine lv_lstore (lv' := [(4, .long (lN (x &&& mk_))), (0, .ref dd), (1, .long (lN (y))), (3, .int (nI (hd + 60))), (6, .int (nI (i))), (7, .int (nI ((pw_mk how f f2 late (hd + 60 + i)).toNat)))]) hx hb d_P_shortestRing_92 hl (by decide) rfl (fun ls hl => ?_)
                    refine lv_lload_n hx hb d_P_shortestRing_94 rfl (lv_at hl 2 rfl) ?_
                    refine lv_iconst (v := nI 1) hx hb d_P_shortestRing_95 (by decide) ?_
                    refine lv_lshl hx hb d_P_shortestRing_96 rfl ?_
                    refine lv_topl (fun y_11 ey_11 => ?_)
                    refine pq_top (y := .long (lN y <<< ((nI 1).toInt64 &&& 63))) (by rw [ey_11]) ?_
                    refine lv_iload hx hb d_P_shortestRing_97 (lv_at hl 5 rfl) ?_
                    refine lv_i2l hx hb d_P_shortestRing_99 rfl ?_
                    refine lv_topl (fun y_12 ey_12 => ?_)
                    refine pq_top (y := .long (lN ((pw_mk how f f2 late (hd + 60 + i)).toNat))) (by rw [ey_12, pw_toL]) ?_
                    obtain ⟨z_, hz1, hz2, hz3, hz4⟩ := pw_reg_put (y := y) (b := (pw_mk how f f2 late) (hd + 60 + i))
                    refine lv_lor hx hb d_P_shortestRing_100 ?_
                    refine pq_top (y := .long (lN z_)) (by rw [hz2]) ?_
                    refine lv_lstore_n (lv' := [(1, .long (lN (z_))), (4, .long (lN (x &&& mk_))), (0, .ref dd), (3, .int (nI (hd + 60))), (6, .int (nI (i))), (7, .int (nI ((pw_mk how f f2 late (hd + 60 + i)).toNat)))]) hx hb d_P_shortestRing_101 rfl hl (by decide) rfl (fun ls hl => ?_)
                    refine lv_iinc (v := nI (i + 1)) (lv' := [(6, .int (nI (i + 1))), (1, .long (lN (z_))), (4, .long (lN (x &&& mk_))), (0, .ref dd), (3, .int (nI (hd + 60))), (7, .int (nI ((pw_mk how f f2 late (hd + 60 + i)).toNat)))]) hx hb d_P_shortestRing_102 hl (k := 4) rfl (pq_inc _) (by decide) rfl (fun ls hl => ?_)
                    refine lv_goto (tgt := 48) hx hb d_P_shortestRing_105 (by decide) ?_
                    exact ih_48 (z_) (x &&& mk_) (i + 1) ls (by omega) (by omega) (pw_past_s hyy hz1 hz3 hz4) hm3 (lv_sub hl [3, 1, 4, 2, 0] rfl)
                  exact B_91 (2 ^ 64 - (y + 1)) ls (by rw [if_neg (pw_t0 c_79)]) (lv_sub hl [1, 2, 3, 4, 5, 0] rfl)
                · refine lv_lload_n hx hb d_P_shortestRing_82 rfl (lv_at hl 2 rfl) ?_
                  refine lv_goto (tgt := 91) hx hb d_P_shortestRing_83 (by decide) ?_
                  have B_91 : ∀ (mk_ : Nat) (ls : Array Slot), (mk_ = if pw_mk how f f2 late (hd + 60 + i) = true then y else 2 ^ 64 - (y + 1)) → lv_has ls 8 [(0, .ref dd), (1, .long (lN (y))), (3, .int (nI (hd + 60))), (4, .long (lN (x))), (6, .int (nI (i))), (7, .int (nI ((pw_mk how f f2 late (hd + 60 + i)).toNat)))] → W p l e (headSpec ws_P_shortestRing ({ frames := 3, cells := 0, slots := 0, locals := 65 } : Room)).room s m ([.ref dd]).toArray below meth c s.heap [] 0 0 (MQ below (vp_Si (fun r => (∃ x, r = nI x ∧ 0 < x ∧ x ≤ 60 ∧ pw_E (pw_mk how f f2 late) hd x ∧ ∀ q, 0 < q → q < x → ¬ pw_E (pw_mk how f f2 late) hd q) ∨ (r = -1 ∧ ∀ q, 0 < q → q ≤ 60 → ¬ pw_E (pw_mk how f f2 late) hd q))) ([.ref dd]).toArray s 0 0 (fun _ => False)) (F0 m 91 ls [.long (lN (mk_)), .long (lN (x))]) := by
                    intro mk_ ls hmm hl
                    obtain ⟨hm1, hm2, hm3⟩ := pw_len_s hxx hyy hmm
                    refine lv_land hx hb d_P_shortestRing_91 ?_
                    refine pq_top (y := .long (lN (x &&& mk_))) (by rw [hm2]) ?_
                    refine lv_lstore (lv' := [(4, .long (lN (x &&& mk_))), (0, .ref dd), (1, .long (lN (y))), (3, .int (nI (hd + 60))), (6, .int (nI (i))), (7, .int (nI ((pw_mk how f f2 late (hd + 60 + i)).toNat)))]) hx hb d_P_shortestRing_92 hl (by decide) rfl (fun ls hl => ?_)
                    refine lv_lload_n hx hb d_P_shortestRing_94 rfl (lv_at hl 2 rfl) ?_
                    refine lv_iconst (v := nI 1) hx hb d_P_shortestRing_95 (by decide) ?_
                    refine lv_lshl hx hb d_P_shortestRing_96 rfl ?_
                    refine lv_topl (fun y_13 ey_13 => ?_)
                    refine pq_top (y := .long (lN y <<< ((nI 1).toInt64 &&& 63))) (by rw [ey_13]) ?_
                    refine lv_iload hx hb d_P_shortestRing_97 (lv_at hl 5 rfl) ?_
                    refine lv_i2l hx hb d_P_shortestRing_99 rfl ?_
                    refine lv_topl (fun y_14 ey_14 => ?_)
                    refine pq_top (y := .long (lN ((pw_mk how f f2 late (hd + 60 + i)).toNat))) (by rw [ey_14, pw_toL]) ?_
                    obtain ⟨z_, hz1, hz2, hz3, hz4⟩ := pw_reg_put (y := y) (b := (pw_mk how f f2 late) (hd + 60 + i))
                    refine lv_lor hx hb d_P_shortestRing_100 ?_
                    refine pq_top (y := .long (lN z_)) (by rw [hz2]) ?_
                    refine lv_lstore_n (lv' := [(1, .long (lN (z_))), (4, .long (lN (x &&& mk_))), (0, .ref dd), (3, .int (nI (hd + 60))), (6, .int (nI (i))), (7, .int (nI ((pw_mk how f f2 late (hd + 60 + i)).toNat)))]) hx hb d_P_shortestRing_101 rfl hl (by decide) rfl (fun ls hl => ?_)
                    refine lv_iinc (v := nI (i + 1)) (lv' := [(6, .int (nI (i + 1))), (1, .long (lN (z_))), (4, .long (lN (x &&& mk_))), (0, .ref dd), (3, .int (nI (hd + 60))), (7, .int (nI ((pw_mk how f f2 late (hd + 60 + i)).toNat)))]) hx hb d_P_shortestRing_102 hl (k := 4) rfl (pq_inc _) (by decide) rfl (fun ls hl => ?_)
                    refine lv_goto (tgt := 48) hx hb d_P_shortestRing_105 (by decide) ?_
                    exact ih_48 (z_) (x &&& mk_) (i + 1) ls (by omega) (by omega) (pw_past_s hyy hz1 hz3 hz4) hm3 (lv_sub hl [3, 1, 4, 2, 0] rfl)
                  exact B_91 (y) ls (by rw [if_pos (pw_t1 c_79)]) (lv_sub hl [1, 2, 3, 4, 5, 0] rfl)
        exact B_48 _ (y) (2 ^ 60 - 1) (0) ls (Nat.lt_succ_self _) (by omega) (pw_reg2 (show i = 60 by omega) hyy) (pw_len_0 _ _) (lv_sub hl [3, 4, 2, 1, 0] rfl)
      · refine lv_lload_n hx hb d_P_shortestRing_10 rfl (lv_at hl 1 rfl) ?_
        refine lv_iconst (v := nI 1) hx hb d_P_shortestRing_11 (by decide) ?_
        refine lv_lshl hx hb d_P_shortestRing_12 rfl ?_
        refine lv_topl (fun y_15 ey_15 => ?_)
        refine pq_top (y := .long (lN y <<< ((nI 1).toInt64 &&& 63))) (by rw [ey_15]) ?_
        refine lv_aload_n hx hb d_P_shortestRing_13 rfl (lv_at hl 0 rfl) ?_
        refine lv_aload_n hx hb d_P_shortestRing_14 rfl (lv_at hl 0 rfl) ?_
        refine va_get (D := (dC, dI)) (ci := ciD) (v := .int (nI (hd))) (C := R_D) (T := F_D) (N := 6) hx hb hts (fun w h => List.mem_cons_of_mem _ (in_D w h)) hown hKd hPd 0 rfl rfl 0 (by decide) (hts (.fieldLink R_P 147 "PeriodWords$Draft" "headLength" "I") (List.mem_cons_of_mem _ mb_118)) (fun _ h9 => h9) rfl d_P_shortestRing_15 ?_
        refine lv_iload_n hx hb d_P_shortestRing_18 rfl (lv_at hl 2 rfl) ?_
        refine pq_iadd (a := hd) (b := i) hx hb d_P_shortestRing_19 ?_
        refine vp_callSi (W.runV (As := [.int (nI (hd + i))]) (rest := [.long (lN y <<< ((nI 1).toInt64 &&& 63))]) ⟨hx, hb, hml, hown, hts⟩ (c_D_bitAt l dC dI hw hw2 hpl2 (hd := hd) (rd := rd) hhow hlate hby (t := hd + i) (by omega)) (cwV 1 hts (gd_V mb_166 mb_167 mb_168 mb_27 mb_169) rfl rfl rfl (by decide +kernel) ⟨Nat.le_of_ble_eq_true rfl, Nat.le_of_ble_eq_true rfl⟩) (pw_R_V (va_recv hKd hPd (ci := ciD) (q0 := 0) rfl rfl) hP hK) rfl rfl hl.1 rfl (lv_room (Nat.le_of_ble_eq_true rfl)) d_P_shortestRing_20 ⟨Nat.le_of_ble_eq_true rfl, Nat.le_of_ble_eq_true rfl⟩) (fun r_20 hr_20 => ?_)
        subst hr_20
        refine lv_i2l hx hb d_P_shortestRing_23 rfl ?_
        refine lv_topl (fun y_16 ey_16 => ?_)
        refine pq_top (y := .long (lN ((pw_mk how f f2 late (hd + i)).toNat))) (by rw [ey_16, pw_toL]) ?_
        obtain ⟨z_, hz1, hz2, hz3, hz4⟩ := pw_reg_put (y := y) (b := (pw_mk how f f2 late) (hd + i))
        refine lv_lor hx hb d_P_shortestRing_24 ?_
        refine pq_top (y := .long (lN z_)) (by rw [hz2]) ?_
        refine lv_lstore_n (lv' := [(1, .long (lN (z_))), (0, .ref dd), (3, .int (nI (i)))]) hx hb d_P_shortestRing_25 rfl hl (by decide) rfl (fun ls hl => ?_)
        refine lv_iinc (v := nI (i + 1)) (lv' := [(3, .int (nI (i + 1))), (1, .long (lN (z_))), (0, .ref dd)]) hx hb d_P_shortestRing_26 hl (k := 2) rfl (pq_inc _) (by decide) rfl (fun ls hl => ?_)
        refine lv_goto (tgt := 4) hx hb d_P_shortestRing_29 (by decide) ?_
        exact ih_4 (z_) (i + 1) ls (by omega) (by omega) (pw_reg1 hi c_7 hyy hz1 hz3 hz4) (lv_sub hl [2, 1, 0] rfl)
  exact B_4 _ (0) (0) ls (Nat.lt_succ_self _) (by omega) ⟨by decide, fun j hj => absurd hj (Nat.not_lt_zero j)⟩ (lv_sub hl [2, 1, 0] rfl)
set_option maxHeartbeats 4000000 in
set_option maxRecDepth 100000 in
theorem c_P_find (l : Launch) (dC : Nat → ClassId) (dI : Nat → Nat → Nat) {o q n : Nat} {cW : ClassId} {wa : Nat → Option Nat} (hn : n ≤ 40) {x : Int32} : Met l y_P_find ws_P_find ({ frames := 0, cells := 0, slots := 0, locals := 0 } : Room) (pw_R [.ref o, .int (x)] dC dI [(cW, .object "PeriodWords$Word")] (pwc o q n cW wa)) (va_Sq (fun r => (∃ i, i < n ∧ x = nI i ∧ r = wa i) ∨ ((¬ ∃ i, i < n ∧ x = nI i) ∧ r = none))) 0 0 (fun _ => False) := by
  refine Met.ofW (cc := b_P_find) (maxL := 2) (ret := (some (.object "PeriodWords$Word"))) (by decide) rfl ?_
  intro p e s m args below meth c s₁ B hml hv
  obtain ⟨rfl, hP, hK⟩ := hv
  have hx := B.exec
  have hb := B.bytes
  have hr := B.returns
  have hts := atoms_spec (ws := ws_P_find) B.pre
  have hown : s.vm.findClass R_P = some m.cls := findClass_of_methodNamed B.named
  have hlocks := B.notSynchronized
  have hl := lv_entry ([.ref o, .int (x)]) (n := 2) (Nat.le_of_ble_eq_true rfl)
  rw [lg_entry_eq]
  generalize (lg_sl ([.ref o, .int (x)]) ++ List.replicate (2 - (lg_sl ([.ref o, .int (x)])).length) Slot.unset).toArray = ls at hl ⊢
  have hl : lv_has ls 2 [(0, .ref o), (1, .int (x))] := hl
  refine lv_iload_n hx hb d_P_find_0 rfl (lv_at hl 1 rfl) ?_
  refine lv_if_lt (tgt := 21) hx hb d_P_find_1 (by decide) (fun c_1 => ?_) (fun c_1 => ?_)
  · refine lv_null hx hb d_P_find_21 ?_
    exact W.aret (v := .null) hx hb hr (Or.inl ⟨_, rfl⟩) (Or.inl rfl) (fun t_ ht_ hW_ => ⟨none, rfl, Or.inr ⟨fun ⟨i, hi, e⟩ => (by subst e; first | exact nI_pos (by omega) c_1 | exact absurd ((nI_leI (by omega) (by omega)).mp c_9) (by omega)), rfl⟩, ht_⟩) (fun q h => absurd h List.not_mem_nil) d_P_find_22
  · refine lv_iload_n hx hb d_P_find_4 rfl (lv_at hl 1 rfl) ?_
    refine lv_aload_n hx hb d_P_find_5 rfl (lv_at hl 0 rfl) ?_
    refine va_get (D := (dC, dI)) (ci := ciP) (v := .int (nI (n))) (C := R_P) (T := F_P) (N := 2) hx hb hts (fun w h => List.mem_cons_of_mem _ (in_P w h)) hown hK hP 0 rfl rfl 1 (by decide) (hts (.fieldLink R_P 15 "PeriodWords" "count" "I") (List.mem_cons_of_mem _ mb_46)) (fun _ h9 => h9) rfl d_P_find_6 ?_
    refine lv_icmp_ge (tgt := 21) hx hb d_P_find_9 (by decide) (fun c_9 => ?_) (fun c_9 => ?_)
    · refine lv_null hx hb d_P_find_21 ?_
      exact W.aret (v := .null) hx hb hr (Or.inl ⟨_, rfl⟩) (Or.inl rfl) (fun t_ ht_ hW_ => ⟨none, rfl, Or.inr ⟨fun ⟨i, hi, e⟩ => (by subst e; first | exact nI_pos (by omega) c_1 | exact absurd ((nI_leI (by omega) (by omega)).mp c_9) (by omega)), rfl⟩, ht_⟩) (fun q h => absurd h List.not_mem_nil) d_P_find_22
    · obtain ⟨j, hj, rfl⟩ : ∃ j, j < n ∧ x = nI j := by
        rcases pk_ix x (n := n) (by omega) with z | z | z
        · exact absurd z c_1
        · exact absurd z c_9
        · exact z
      refine lv_iload_n hx hb d_P_find_12 rfl (lv_at hl 1 rfl) ?_
      refine lv_aload_n hx hb d_P_find_13 rfl (lv_at hl 0 rfl) ?_
      refine va_get (D := (dC, dI)) (ci := ciP) (v := .ref q) (C := R_P) (T := F_P) (N := 2) hx hb hts (fun w h => List.mem_cons_of_mem _ (in_P w h)) hown hK hP 0 rfl rfl 0 (by decide) (hts (.fieldLink R_P 11 "PeriodWords" "words" "[LPeriodWords$Word;") (List.mem_cons_of_mem _ mb_45)) (fun _ h9 => h9) rfl d_P_find_14 ?_
      refine va_alen hx hb hK hP 1 0 rfl rfl (v := nI (40)) rfl d_P_find_17 ?_
      refine pq_icmp_lt (tgt := 23) (a := j) (b := 40) hx hb d_P_find_18 (by decide) (by omega) (by omega) (fun c_18 => ?_) (fun c_18 => absurd c_18 (by omega))
      refine lv_aload_n hx hb d_P_find_23 rfl (lv_at hl 0 rfl) ?_
      refine va_get (D := (dC, dI)) (ci := ciP) (v := .ref q) (C := R_P) (T := F_P) (N := 2) hx hb hts (fun w h => List.mem_cons_of_mem _ (in_P w h)) hown hK hP 0 rfl rfl 0 (by decide) (hts (.fieldLink R_P 11 "PeriodWords" "words" "[LPeriodWords$Word;") (List.mem_cons_of_mem _ mb_45)) (fun _ h9 => h9) rfl d_P_find_24 ?_
      refine lv_iload_n hx hb d_P_find_27 rfl (lv_at hl 1 rfl) ?_
      refine va_aldq hx hb hK hP 1 0 rfl rfl (vp_in_nI (n := j) (by omega) (by omega)) d_P_find_28 ?_
      refine pq_top (y := va_rf (wa j)) (by rw [pq_cl (by omega)]) ?_
      exact W.aret (v := va_rf (wa j)) hx hb hr (Or.inl ⟨_, rfl⟩) (va_rf_or _) (fun t_ ht_ hW_ => ⟨(wa j), rfl, Or.inl ⟨j, hj, rfl, rfl⟩, ht_⟩) (fun q h => absurd h List.not_mem_nil) d_P_find_29
end
section
/-! what each call answers, said of the words alone: W i is (HEAD's length, RING's length, bits) -/
abbrev pw_V : Type := Nat × Nat × (Nat → Bool)
/-- the word v lies at a in the heap H, all of it at z0 or beyond -/
def wdAt (dC : Nat → ClassId) (dI : Nat → Nat → Nat) (z0 : Nat) (H : Heap) (U : State) (a : Nat) (v : pw_V) : Prop :=
  ∃ (q : Nat) (cA : ClassId) (pl : Nat → Int32), va_P (dC, dI) vwCl (wd a q cA v.1 v.2.1 v.2.2 pl) H ∧ va_K (dC, dI) vwCl [(cA, .int)] U ∧ wd_pl v.1 v.2.1 v.2.2 pl ∧ wd_ok v.1 v.2.1 v.2.2 ∧ z0 ≤ a ∧ z0 ≤ q
def wdAll (dC : Nat → ClassId) (dI : Nat → Nat → Nat) (z0 : Nat) (H : Heap) (U : State) (n : Nat) (wa : Nat → Option Nat) (W : Nat → pw_V) : Prop :=
  ∀ i, i < n → ∃ a, wa i = some a ∧ wdAt dC dI z0 H U a (W i)
theorem wdAt.moved {dC : Nat → ClassId} {dI : Nat → Nat → Nat} {z0 : Nat} {H : Heap} {u U : State} {a : Nat} {v : pw_V} (hvm : u.vm.Alike U.vm) (h : wdAt dC dI z0 H u a v) : wdAt dC dI z0 H U a v := by
  obtain ⟨q, cA, pl, h1, h2, h3⟩ := h
  exact ⟨q, cA, pl, h1, va_K.moved hvm h2, h3⟩
theorem wdAll.moved {dC : Nat → ClassId} {dI : Nat → Nat → Nat} {z0 : Nat} {H : Heap} {u U : State} {n : Nat} {wa : Nat → Option Nat} {W : Nat → pw_V} (hvm : u.vm.Alike U.vm) (h : wdAll dC dI z0 H u n wa W) : wdAll dC dI z0 H U n wa W := by
  intro i hi
  obtain ⟨a, h1, h2⟩ := h i hi
  exact ⟨a, h1, h2.moved hvm⟩
/-- the words stay where only cells below z0, or new ones, are written -/
theorem wdAt.kept {dC : Nat → ClassId} {dI : Nat → Nat → Nat} {z0 : Nat} {H H1 : Heap} {U : State} {a : Nat} {v : pw_V} (hk : ∀ q : Nat, z0 ≤ q → q < H.size → H1[q]? = H[q]?) (h : wdAt dC dI z0 H U a v) : wdAt dC dI z0 H1 U a v := by
  obtain ⟨q, cA, pl, h1, h2, h3, h4, h5, h6⟩ := h
  refine ⟨q, cA, pl, ?_, h2, h3, h4, h5, h6⟩
  intro k x hx
  have hat := h1 k x hx
  have hlt := va_at.lt hat
  have hz : z0 ≤ x.1 := by
    match k, hx with
    | 0, hx => cases hx; exact h5
    | 1, hx => cases hx; exact h6
    | k + 2, hx => simp at hx
  exact va_at.kept hat (hk x.1 hz hlt)
theorem wdAll.kept {dC : Nat → ClassId} {dI : Nat → Nat → Nat} {z0 : Nat} {H H1 : Heap} {U : State} {n : Nat} {wa : Nat → Option Nat} {W : Nat → pw_V} (hk : ∀ q : Nat, z0 ≤ q → q < H.size → H1[q]? = H[q]?) (h : wdAll dC dI z0 H U n wa W) : wdAll dC dI z0 H1 U n wa W := by
  intro i hi
  obtain ⟨a, h1, h2⟩ := h i hi
  exact ⟨a, h1, h2.kept hk⟩
/-- a contract's start where the class's cells and its words are there, and nothing is written -/
def pw_X (av : List Value) (dC : Nat → ClassId) (dI : Nat → Nat → Nat) (z0 o q n : Nat) (cW : ClassId) (wa : Nat → Option Nat) (W : Nat → pw_V) : Array Value → State → Prop := va_Pc av (fun U => va_P (dC, dI) vwCl (pwc o q n cW wa) U.heap ∧ va_K (dC, dI) vwCl [(cW, .object "PeriodWords$Word")] U ∧ wdAll dC dI z0 U.heap U n wa W)
theorem pw_X_blind {av : List Value} {dC : Nat → ClassId} {dI : Nat → Nat → Nat} {z0 o q n : Nat} {cW : ClassId} {wa : Nat → Option Nat} {W : Nat → pw_V} : FrameBlind (pw_X av dC dI z0 o q n cW wa W) := fun a U g mk x => by
  obtain ⟨x0, xP, xK, xW⟩ := x
  exact ⟨x0, xP, va_K.moved (u := U) (U := U.calling g mk a) (Vm.Alike.refl U.vm) xK, wdAll.moved (u := U) (U := U.calling g mk a) (Vm.Alike.refl U.vm) xW⟩
/-- the answer where it asks for a word by its number -/
def sp_1 (n : Nat) (x : Int32) (val : Nat → Int32 → Prop) (none_ : Int32 → Prop) (r : Int32) : Prop := (∃ i, i < n ∧ x = nI i ∧ val i r) ∨ ((¬ ∃ i, i < n ∧ x = nI i) ∧ none_ r)
theorem sp_1_u {n : Nat} {x : Int32} {val : Nat → Int32 → Prop} {nn : Int32 → Prop} {r r' : Int32} (hn : n ≤ 40) (h : sp_1 n x val nn r) (h' : sp_1 n x val nn r') (hv : ∀ i, i < n → ∀ r r', val i r → val i r' → r = r') (hnn : ∀ r r', nn r → nn r' → r = r') : r = r' := by
  rcases h with ⟨i, hi, e, h⟩ | ⟨h0, h⟩
  · rcases h' with ⟨j, hj, e', h'⟩ | ⟨h0', h'⟩
    · rw [e] at e'
      have := (nI_eq (show i < 2 ^ 31 by omega) (show j < 2 ^ 31 by omega)).mp e'
      subst this
      exact hv i hi r r' h h'
    · exact absurd ⟨i, hi, e⟩ h0'
  · rcases h' with ⟨j, hj, e', h'⟩ | ⟨h0', h'⟩
    · exact absurd ⟨j, hj, e'⟩ h0
    · exact hnn r r' h h'
def sp_form (v : pw_V) (y r : Int32) : Prop := r = if y = nI 0 then nI v.1 else if y = nI 1 then nI v.2.1 else if y = nI 2 then nI (pw_o v.2.2 v.1 v.2.1 / Nat.gcd (pw_o v.2.2 v.1 v.2.1) v.2.1) else if y = nI 3 then nI (v.2.1 / Nat.gcd (pw_o v.2.2 v.1 v.2.1) v.2.1) else if y = nI 4 then nI (pw_c v.2.2 v.1) else (-1)
def sp_far (y : Int32) (val : Nat → Int32) (r : Int32) : Prop := (∃ j, j ≤ 1000000000 ∧ y = nI j ∧ r = val j) ∨ ((¬ ∃ j, j ≤ 1000000000 ∧ y = nI j) ∧ r = -1)
def sp_q (v w : pw_V) : Prop := v.1 = w.1 ∧ pw_b v.2.2 0 v.1 = pw_b w.2.2 0 w.1 ∧ v.2.1 = w.2.1 ∧ pw_b v.2.2 v.1 v.2.1 = pw_b w.2.2 w.1 w.2.1
def sp_same (W : Nat → pw_V) (i : Nat) (r : Int32) : Prop := ∃ k, k ≤ i ∧ r = nI k ∧ sp_q (W k) (W i) ∧ ∀ j, j < k → ¬ sp_q (W j) (W i)
def sp_ahead (v w : pw_V) (r : Int32) : Prop := (r = nI 1 ∧ pw_ah v.2.2 w.2.2) ∨ (r = nI 0 ∧ ¬ pw_ah v.2.2 w.2.2)
theorem pq_sw5 (y : Int32) : y = nI 0 ∨ y = nI 1 ∨ y = nI 2 ∨ y = nI 3 ∨ y = nI 4 ∨ ((y.toInt < 0 ∨ 4 < y.toInt) ∧ y ≠ nI 0 ∧ y ≠ nI 1 ∧ y ≠ nI 2 ∧ y ≠ nI 3 ∧ y ≠ nI 4) := by
  rcases pk_ix y (n := 5) (by decide) with h | h | ⟨j, hj, rfl⟩
  · right; right; right; right; right
    have h0 : y.toInt < 0 := by rw [Int32.lt_iff_toInt_lt] at h; exact h
    refine ⟨Or.inl h0, ?_, ?_, ?_, ?_, ?_⟩ <;> (rintro rfl; revert h0; decide)
  · right; right; right; right; right
    have h0 : 5 ≤ y.toInt := by rw [Int32.le_iff_toInt_le] at h; exact h
    refine ⟨Or.inr (by omega), ?_, ?_, ?_, ?_, ?_⟩ <;> (rintro rfl; revert h0; decide)
  · rcases (show j = 0 ∨ j = 1 ∨ j = 2 ∨ j = 3 ∨ j = 4 by omega) with rfl | rfl | rfl | rfl | rfl <;> simp
theorem pq_far {y : Int32} (h0 : ¬ y < 0) (h1 : y ≤ nI 1000000000) : ∃ j, j ≤ 1000000000 ∧ y = nI j := nI_of2 (M := nI 1000000000) (by decide) h0 h1
end
section
/-! THE WAIT and AHEAD -/
def pw_wt (v w : pw_V) (r : Int32) : Prop :=
  (pw_o w.2.2 w.1 w.2.1 = 0 → (0 < pw_o v.2.2 v.1 v.2.1 ∨ pw_c w.2.2 w.1 ≤ pw_c v.2.2 v.1) → r = nI (pw_md v.2.2 w.2.2 (pw_c w.2.2 w.1))) ∧
  (pw_o w.2.2 w.1 w.2.1 = 0 → ¬ (0 < pw_o v.2.2 v.1 v.2.1 ∨ pw_c w.2.2 w.1 ≤ pw_c v.2.2 v.1) → r = -1) ∧
  (0 < pw_o w.2.2 w.1 w.2.1 → pw_o v.2.2 v.1 v.2.1 * w.2.1 < pw_o w.2.2 w.1 w.2.1 * v.2.1 → r = -1) ∧
  (0 < pw_o w.2.2 w.1 w.2.1 → pw_o w.2.2 w.1 w.2.1 * v.2.1 ≤ pw_o v.2.2 v.1 v.2.1 * w.2.1 → r = nI (pw_md v.2.2 w.2.2 (max (pw_c v.2.2 v.1) (pw_c w.2.2 w.1) + pw_o v.2.2 v.1 v.2.1 / Nat.gcd (pw_o v.2.2 v.1 v.2.1) (pw_o w.2.2 w.1 w.2.1) * pw_o w.2.2 w.1 w.2.1)))
theorem pw_md_bd {f g : Nat → Bool} {h p N : Nat} (E : pw_E f h p) (hh : h ≤ 60) (hp : 0 < p) (hp6 : p ≤ 60) (hN : N ≤ 10000) (hx : ∀ n, 0 < n → n ≤ N → 0 < pw_o f h p ∨ n ≤ pw_c f h) : pw_md f g N < 1000000 := by
  have : pw_md f g N ≤ 999999 := pw_md_le (fun n h0 hn => by
    have a := pw_tk_le E hp h0 (hx n h0 hn)
    have b : n * p ≤ 10000 * 60 := Nat.mul_le_mul (by omega) hp6
    omega)
  omega
theorem pw_md_0 {f g : Nat → Bool} {N : Nat} : pw_md f g N = 0 ↔ ∀ n, 0 < n → n ≤ N → pw_tk f n ≤ pw_tk g n := by
  constructor
  · intro h n h0 hn
    have := pw_md_ge f g h0 hn
    omega
  · intro h
    have : pw_md f g N ≤ 0 := pw_md_le (fun n h0 hn => by have := h n h0 hn; omega)
    omega
theorem pw_ah_tk {f g : Nat → Bool} (h : pw_ah f g) {n : Nat} (hg : ∃ t, pw_N g n t) : (∃ t, pw_N f n t) ∧ pw_tk f n ≤ pw_tk g n := by
  obtain ⟨t, N⟩ := hg
  obtain ⟨u, K, hu⟩ := (pw_ah_iff f g).mp h n t N
  exact ⟨⟨u, K⟩, by rw [pw_tk_of N, pw_tk_of K]; exact hu⟩
theorem pw_tk_ah {f g : Nat → Bool} (h : ∀ n, (∃ t, pw_N g n t) → (∃ t, pw_N f n t) ∧ pw_tk f n ≤ pw_tk g n) : pw_ah f g := by
  rw [pw_ah_iff]
  intro n t N
  obtain ⟨⟨u, K⟩, hle⟩ := h n ⟨t, N⟩
  rw [pw_tk_of N, pw_tk_of K] at hle
  exact ⟨u, K, hle⟩
theorem pw_lcm {x y : Nat} (hx : 0 < x) (hy : 0 < y) : 0 < x / Nat.gcd x y * y ∧ x ∣ x / Nat.gcd x y * y ∧ y ∣ x / Nat.gcd x y * y ∧ x / Nat.gcd x y * y ≤ x * y := by
  have hg := Nat.gcd_pos_of_pos_right x hy
  obtain ⟨a, ha⟩ := Nat.gcd_dvd_left x y
  obtain ⟨b, hb⟩ := Nat.gcd_dvd_right x y
  have e : x / Nat.gcd x y = a := Nat.div_eq_of_eq_mul_right hg ha
  rw [e]
  have ha0 : 0 < a := by
    rcases Nat.eq_zero_or_pos a with z | z
    · rw [z, Nat.mul_zero] at ha; omega
    · exact z
  refine ⟨Nat.mul_pos ha0 hy, ⟨b, ?_⟩, ⟨a, Nat.mul_comm a y⟩, Nat.mul_le_mul_right y ?_⟩
  · calc a * y = a * (Nat.gcd x y * b) := by rw [← hb]
      _ = x * b := by rw [← Nat.mul_assoc, Nat.mul_comm a, ← ha]
  · calc a = 1 * a := (Nat.one_mul a).symm
      _ ≤ Nat.gcd x y * a := Nat.mul_le_mul_right a hg
      _ = x := ha.symm
theorem pw_oa {f g : Nat → Bool} {h p h2 p2 : Nat} (hp : 0 < p) (ho : 0 < pw_o g h2 p2) (hr : pw_o g h2 p2 * p ≤ pw_o f h p * p2) : 0 < pw_o f h p := by
  rcases Nat.eq_zero_or_pos (pw_o f h p) with z | z
  · rw [z, Nat.zero_mul] at hr
    have := Nat.mul_pos ho hp
    omega
  · exact z
/-- the wait is one of three: none; a number below a million -/
theorem pw_wt_cases {v w : pw_V} {r : Int32} (hv : wd_ok v.1 v.2.1 v.2.2) (hw : wd_ok w.1 w.2.1 w.2.2) (h : pw_wt v w r) : (r = -1 ∧ ¬ pw_ah v.2.2 w.2.2) ∨ ∃ d, d < 1000000 ∧ r = nI d ∧ (d = 0 ↔ pw_ah v.2.2 w.2.2) := by
  obtain ⟨hp, pp, f⟩ := v
  obtain ⟨hq, qq, g⟩ := w
  obtain ⟨a1, a2, a3, a4⟩ := hv
  obtain ⟨b1, b2, b3, b4⟩ := hw
  obtain ⟨c1, c2, c3, c4⟩ := h
  dsimp only at *
  have oa := pw_o_le f hp pp
  have ob := pw_o_le g hq qq
  have ca := pw_c_le f hp
  have cb := pw_c_le g hq
  rcases Nat.eq_zero_or_pos (pw_o g hq qq) with z | z
  · rcases Classical.em (0 < pw_o f hp pp ∨ pw_c g hq ≤ pw_c f hp) with y | y
    · right
      refine ⟨_, pw_md_bd a4 a1 a2 a3 (by omega) (fun n h0 hn => by omega), c1 z y, ?_⟩
      rw [pw_md_0]
      constructor
      · intro k
        apply pw_tk_ah
        intro n hn
        have n0 : 0 < n := by obtain ⟨t, N⟩ := hn; exact pw_N_pos N
        have := (pw_has b4 b2 n0).mp hn
        exact ⟨(pw_has a4 a2 n0).mpr (by omega), k n n0 (by omega)⟩
      · intro k n n0 hn
        exact (pw_ah_tk k ((pw_has b4 b2 n0).mpr (Or.inr hn))).2
    · left
      refine ⟨c2 z y, ?_⟩
      intro k
      have k1 := k hq
      have k2 := pw_o_0c a4 a2 (show pw_o f hp pp = 0 by omega) hq
      omega
  · rcases Nat.lt_or_ge (pw_o f hp pp * qq) (pw_o g hq qq * pp) with y | y
    · left
      refine ⟨c3 z y, ?_⟩
      intro k
      have := ((pw_ah_round a4 b4 a2 b2 (M := hp + hq) (by omega) (by omega)).mp k).1
      omega
    · right
      have o1 := pw_oa a2 z y
      obtain ⟨l1, l2, l3, l4⟩ := pw_lcm o1 z
      have l5 : pw_o f hp pp * pw_o g hq qq ≤ 60 * 60 := Nat.mul_le_mul (by omega) (by omega)
      refine ⟨_, pw_md_bd a4 a1 a2 a3 (by omega) (fun n h0 hn => Or.inl o1), c4 z y, ?_⟩
      rw [pw_md_0]
      constructor
      · intro k
        apply pw_tk_ah
        intro n hn
        have n0 : 0 < n := by obtain ⟨t, N⟩ := hn; exact pw_N_pos N
        refine ⟨(pw_has a4 a2 n0).mpr (Or.inl o1), ?_⟩
        have st := pw_md_st (N := max (pw_c f hp) (pw_c g hq) + pw_o f hp pp / Nat.gcd (pw_o f hp pp) (pw_o g hq qq) * pw_o g hq qq + n) a4 b4 a2 b2 o1 z (Nat.le_max_left _ _) (Nat.le_max_right _ _) l1 l2 l3 y (by omega)
        rw [pw_md_0.mpr k] at st
        exact pw_md_0.mp st n n0 (by omega)
      · intro k n n0 hn
        exact (pw_ah_tk k ((pw_has b4 b2 n0).mpr (Or.inl z))).2
theorem pw_wt_ah {v w : pw_V} {r : Int32} (hv : wd_ok v.1 v.2.1 v.2.2) (hw : wd_ok w.1 w.2.1 w.2.2) (h : pw_wt v w r) : r = 0 ↔ pw_ah v.2.2 w.2.2 := by
  rcases pw_wt_cases hv hw h with ⟨h1, h2⟩ | ⟨d, h1, h2, h3⟩
  · rw [h1]
    exact ⟨fun z => absurd z (by decide), fun z => absurd z h2⟩
  · rw [h2, ← h3]
    exact nI_eq (b := 0) (by omega) (by decide)
end
section
/-- the answer where it asks for two words -/
def sp_2 (n : Nat) (x y : Int32) (val : Nat → Nat → Int32 → Prop) (none_ : Int32 → Prop) (r : Int32) : Prop := (∃ i j, i < n ∧ x = nI i ∧ j < n ∧ y = nI j ∧ val i j r) ∨ ((¬ ∃ i j, i < n ∧ x = nI i ∧ j < n ∧ y = nI j) ∧ none_ r)
theorem sp_2_u {n : Nat} {x y : Int32} {val : Nat → Nat → Int32 → Prop} {nn : Int32 → Prop} {r r' : Int32} (hn : n ≤ 40) (h : sp_2 n x y val nn r) (h' : sp_2 n x y val nn r') (hv : ∀ i j, i < n → j < n → ∀ r r', val i j r → val i j r' → r = r') (hnn : ∀ r r', nn r → nn r' → r = r') : r = r' := by
  rcases h with ⟨i, k, hi, e, hk, f, h⟩ | ⟨h0, h⟩
  · rcases h' with ⟨j, k', hj, e', hk', f', h'⟩ | ⟨h0', h'⟩
    · rw [e] at e'
      rw [f] at f'
      have := (nI_eq (show i < 2 ^ 31 by omega) (show j < 2 ^ 31 by omega)).mp e'
      subst this
      have := (nI_eq (show k < 2 ^ 31 by omega) (show k' < 2 ^ 31 by omega)).mp f'
      subst this
      exact hv i k hi hk r r' h h'
    · exact absurd ⟨i, k, hi, e, hk, f⟩ h0'
  · rcases h' with ⟨j, k', hj, e', hk', f', h'⟩ | ⟨h0', h'⟩
    · exact absurd ⟨j, k', hj, e', hk', f'⟩ h0
    · exact hnn r r' h h'
theorem sp_form_no {v : pw_V} {y : Int32} (n0 : y ≠ nI 0) (n1 : y ≠ nI 1) (n2 : y ≠ nI 2) (n3 : y ≠ nI 3) (n4 : y ≠ nI 4) : sp_form v y (-1) := by
  unfold sp_form
  rw [if_neg n0, if_neg n1, if_neg n2, if_neg n3, if_neg n4]
end
section
set_option maxHeartbeats 4000000 in
set_option maxRecDepth 100000 in
theorem c_P_bit (l : Launch) (dC : Nat → ClassId) (dI : Nat → Nat → Nat) {z0 o q n : Nat} {cW : ClassId} {wa : Nat → Option Nat} {Wd : Nat → pw_V} (hn : n ≤ 40) {x y : Int32} : Met l y_P_bit ws_P_bit ({ frames := 1, cells := 0, slots := 0, locals := 21 } : Room) (pw_X [.ref o, .int (x), .int (y)] dC dI z0 o q n cW wa Wd) (vp_Si (sp_1 n x (fun i r => sp_far y (fun j => nI ((Wd i).2.2 j).toNat) r) (fun r => r = -1))) 0 0 (fun _ => False) := by
  refine Met.ofW (cc := b_P_bit) (maxL := 4) (ret := (some .int)) (by decide) rfl ?_
  intro p e s m args below meth c s₁ B hml hv
  obtain ⟨rfl, hP, hK, hall⟩ := hv
  have hx := B.exec
  have hb := B.bytes
  have hr := B.returns
  have hts := atoms_spec (ws := ws_P_bit) B.pre
  have hown : s.vm.findClass R_P = some m.cls := findClass_of_methodNamed B.named
  have hlocks := B.notSynchronized
  have hl := lv_entry ([.ref o, .int (x), .int (y)]) (n := 4) (Nat.le_of_ble_eq_true rfl)
  rw [lg_entry_eq]
  generalize (lg_sl ([.ref o, .int (x), .int (y)]) ++ List.replicate (4 - (lg_sl ([.ref o, .int (x), .int (y)])).length) Slot.unset).toArray = ls at hl ⊢
  have hl : lv_has ls 4 [(0, .ref o), (1, .int (x)), (2, .int (y))] := hl
  refine lv_aload_n hx hb d_P_bit_0 rfl (lv_at hl 0 rfl) ?_
  refine lv_iload_n hx hb d_P_bit_1 rfl (lv_at hl 1 rfl) ?_
  refine va_csq (W.runV (As := [.int (x)]) (rest := []) ⟨hx, hb, hml, hown, hts⟩ (c_P_find l dC dI hn (x := x)) (cwV 1 hts (gd_V mb_195 mb_197 mb_1 mb_22 mb_198) rfl rfl rfl (by decide +kernel) ⟨Nat.le_of_ble_eq_true rfl, Nat.le_of_ble_eq_true rfl⟩) (pw_R_V (va_recv hK hP (ci := ciP) (q0 := 0) rfl rfl) hP hK) rfl rfl hl.1 rfl (lv_room (Nat.le_of_ble_eq_true rfl)) d_P_bit_2 ⟨Nat.le_of_ble_eq_true rfl, Nat.le_of_ble_eq_true rfl⟩) (fun r_2 hr_2 => ?_)
  rcases hr_2 with ⟨i1, hi1, hx1, hr1⟩ | ⟨hno1, hr1⟩
  · obtain ⟨a1, hwa1, q1, cA1, pl1, hPw1, hKw1, hpl1, hok1, hz1, hzq1⟩ := hall i1 hi1
    have hok1_ := hok1; obtain ⟨hh1, hp01, hp61, hE1⟩ := hok1_
    have ho1 := pw_o_le (Wd i1).2.2 (Wd i1).1 (Wd i1).2.1
    have hc1 := pw_c_le (Wd i1).2.2 (Wd i1).1
    rw [hx1] at hl
    refine pq_top (y := .ref a1) (by rw [hr1, hwa1]; rfl) ?_
    refine lv_astore_n (lv' := [(3, .ref a1), (0, .ref o), (1, .int (nI (i1))), (2, .int (y))]) hx hb d_P_bit_5 rfl hl (by decide) rfl (fun ls hl => ?_)
    refine lv_aload_n hx hb d_P_bit_6 rfl (lv_at hl 0 rfl) ?_
    refine lv_ifnull hx hb d_P_bit_7 ?_
    refine lv_iload_n hx hb d_P_bit_10 rfl (lv_at hl 3 rfl) ?_
    refine lv_if_lt (tgt := 20) hx hb d_P_bit_11 (by decide) (fun c_11 => ?_) (fun c_11 => ?_)
    · refine lv_iconst (v := (-1)) hx hb d_P_bit_20 (by decide) ?_
      exact W.iret (v := (-1)) hx hb hr (fun t_ ht_ hW_ => ⟨_, rfl, Or.inl ⟨i1, hi1, hx1, Or.inr ⟨fun ⟨j, hj, e⟩ => (by subst e; first | exact nI_pos (by omega) c_11 | exact c_17 (nI_le hj (by decide))), rfl⟩⟩, ht_⟩) (fun q h => absurd h List.not_mem_nil) d_P_bit_21
    · refine lv_iload_n hx hb d_P_bit_14 rfl (lv_at hl 3 rfl) ?_
      refine lv_ldc (v := nI 1000000000) hx hb hown (hts (.constant R_P 65 (nI 1000000000)) (List.mem_cons_of_mem _ mb_203)) d_P_bit_15 ?_
      refine lv_icmp_le (tgt := 22) hx hb d_P_bit_17 (by decide) (fun c_17 => ?_) (fun c_17 => ?_)
      · obtain ⟨j, hj, rfl⟩ := pq_far c_11 c_17
        refine lv_aload_n hx hb d_P_bit_22 rfl (lv_at hl 0 rfl) ?_
        refine lv_iload_n hx hb d_P_bit_23 rfl (lv_at hl 3 rfl) ?_
        refine vp_callSi (W.runV (As := [.int (nI (j))]) (rest := []) ⟨hx, hb, hml, hown, hts⟩ (c_W_bitAt l dC dI hok1 (t := j) (by omega)) (cwV 1 hts (gd_V mb_204 mb_171 mb_172 mb_24 mb_173) rfl rfl rfl (by decide +kernel) ⟨Nat.le_of_ble_eq_true rfl, Nat.le_of_ble_eq_true rfl⟩) (pw_R_V (va_recv hKw1 hPw1 (ci := ciW) (q0 := 0) rfl rfl) hPw1 hKw1) rfl rfl hl.1 rfl (lv_room (Nat.le_of_ble_eq_true rfl)) d_P_bit_24 ⟨Nat.le_of_ble_eq_true rfl, Nat.le_of_ble_eq_true rfl⟩) (fun r_24 hr_24 => ?_)
        subst hr_24
        exact W.iret (v := (nI (((Wd i1).2.2 j).toNat))) hx hb hr (fun t_ ht_ hW_ => ⟨_, rfl, Or.inl ⟨i1, hi1, hx1, Or.inl ⟨j, hj, rfl, rfl⟩⟩, ht_⟩) (fun q h => absurd h List.not_mem_nil) d_P_bit_27
      · refine lv_iconst (v := (-1)) hx hb d_P_bit_20 (by decide) ?_
        exact W.iret (v := (-1)) hx hb hr (fun t_ ht_ hW_ => ⟨_, rfl, Or.inl ⟨i1, hi1, hx1, Or.inr ⟨fun ⟨j, hj, e⟩ => (by subst e; first | exact nI_pos (by omega) c_11 | exact c_17 (nI_le hj (by decide))), rfl⟩⟩, ht_⟩) (fun q h => absurd h List.not_mem_nil) d_P_bit_21
  · refine pq_top (y := .null) (by rw [hr1]; rfl) ?_
    refine lv_astore_nN (lv' := [(3, .null), (0, .ref o), (1, .int (x)), (2, .int (y))]) hx hb d_P_bit_5 rfl hl (by decide) rfl (fun ls hl => ?_)
    refine lv_aload_nN hx hb d_P_bit_6 rfl (lv_at hl 0 rfl) ?_
    refine lv_ifnullN (tgt := 20) hx hb d_P_bit_7 (by decide) ?_
    refine lv_iconst (v := (-1)) hx hb d_P_bit_20 (by decide) ?_
    exact W.iret (v := (-1)) hx hb hr (fun t_ ht_ hW_ => ⟨_, rfl, Or.inr ⟨hno1, rfl⟩, ht_⟩) (fun q h => absurd h List.not_mem_nil) d_P_bit_21
set_option maxHeartbeats 4000000 in
set_option maxRecDepth 100000 in
theorem c_P_ones (l : Launch) (dC : Nat → ClassId) (dI : Nat → Nat → Nat) {z0 o q n : Nat} {cW : ClassId} {wa : Nat → Option Nat} {Wd : Nat → pw_V} (hn : n ≤ 40) {x y : Int32} : Met l y_P_ones ws_P_ones ({ frames := 2, cells := 0, slots := 0, locals := 44 } : Room) (pw_X [.ref o, .int (x), .int (y)] dC dI z0 o q n cW wa Wd) (vp_Si (sp_1 n x (fun i r => sp_far y (fun j => nI (pw_c (Wd i).2.2 j)) r) (fun r => r = -1))) 0 0 (fun _ => False) := by
  refine Met.ofW (cc := b_P_ones) (maxL := 4) (ret := (some .int)) (by decide) rfl ?_
  intro p e s m args below meth c s₁ B hml hv
  obtain ⟨rfl, hP, hK, hall⟩ := hv
  have hx := B.exec
  have hb := B.bytes
  have hr := B.returns
  have hts := atoms_spec (ws := ws_P_ones) B.pre
  have hown : s.vm.findClass R_P = some m.cls := findClass_of_methodNamed B.named
  have hlocks := B.notSynchronized
  have hl := lv_entry ([.ref o, .int (x), .int (y)]) (n := 4) (Nat.le_of_ble_eq_true rfl)
  rw [lg_entry_eq]
  generalize (lg_sl ([.ref o, .int (x), .int (y)]) ++ List.replicate (4 - (lg_sl ([.ref o, .int (x), .int (y)])).length) Slot.unset).toArray = ls at hl ⊢
  have hl : lv_has ls 4 [(0, .ref o), (1, .int (x)), (2, .int (y))] := hl
  refine lv_aload_n hx hb d_P_ones_0 rfl (lv_at hl 0 rfl) ?_
  refine lv_iload_n hx hb d_P_ones_1 rfl (lv_at hl 1 rfl) ?_
  refine va_csq (W.runV (As := [.int (x)]) (rest := []) ⟨hx, hb, hml, hown, hts⟩ (c_P_find l dC dI hn (x := x)) (cwV 1 hts (gd_V mb_195 mb_197 mb_1 mb_22 mb_198) rfl rfl rfl (by decide +kernel) ⟨Nat.le_of_ble_eq_true rfl, Nat.le_of_ble_eq_true rfl⟩) (pw_R_V (va_recv hK hP (ci := ciP) (q0 := 0) rfl rfl) hP hK) rfl rfl hl.1 rfl (lv_room (Nat.le_of_ble_eq_true rfl)) d_P_ones_2 ⟨Nat.le_of_ble_eq_true rfl, Nat.le_of_ble_eq_true rfl⟩) (fun r_2 hr_2 => ?_)
  rcases hr_2 with ⟨i1, hi1, hx1, hr1⟩ | ⟨hno1, hr1⟩
  · obtain ⟨a1, hwa1, q1, cA1, pl1, hPw1, hKw1, hpl1, hok1, hz1, hzq1⟩ := hall i1 hi1
    have hok1_ := hok1; obtain ⟨hh1, hp01, hp61, hE1⟩ := hok1_
    have ho1 := pw_o_le (Wd i1).2.2 (Wd i1).1 (Wd i1).2.1
    have hc1 := pw_c_le (Wd i1).2.2 (Wd i1).1
    rw [hx1] at hl
    refine pq_top (y := .ref a1) (by rw [hr1, hwa1]; rfl) ?_
    refine lv_astore_n (lv' := [(3, .ref a1), (0, .ref o), (1, .int (nI (i1))), (2, .int (y))]) hx hb d_P_ones_5 rfl hl (by decide) rfl (fun ls hl => ?_)
    refine lv_aload_n hx hb d_P_ones_6 rfl (lv_at hl 0 rfl) ?_
    refine lv_ifnull hx hb d_P_ones_7 ?_
    refine lv_iload_n hx hb d_P_ones_10 rfl (lv_at hl 3 rfl) ?_
    refine lv_if_lt (tgt := 20) hx hb d_P_ones_11 (by decide) (fun c_11 => ?_) (fun c_11 => ?_)
    · refine lv_iconst (v := (-1)) hx hb d_P_ones_20 (by decide) ?_
      exact W.iret (v := (-1)) hx hb hr (fun t_ ht_ hW_ => ⟨_, rfl, Or.inl ⟨i1, hi1, hx1, Or.inr ⟨fun ⟨j, hj, e⟩ => (by subst e; first | exact nI_pos (by omega) c_11 | exact c_17 (nI_le hj (by decide))), rfl⟩⟩, ht_⟩) (fun q h => absurd h List.not_mem_nil) d_P_ones_21
    · refine lv_iload_n hx hb d_P_ones_14 rfl (lv_at hl 3 rfl) ?_
      refine lv_ldc (v := nI 1000000000) hx hb hown (hts (.constant R_P 65 (nI 1000000000)) (List.mem_cons_of_mem _ mb_203)) d_P_ones_15 ?_
      refine lv_icmp_le (tgt := 22) hx hb d_P_ones_17 (by decide) (fun c_17 => ?_) (fun c_17 => ?_)
      · obtain ⟨j, hj, rfl⟩ := pq_far c_11 c_17
        refine lv_aload_n hx hb d_P_ones_22 rfl (lv_at hl 0 rfl) ?_
        refine lv_iload_n hx hb d_P_ones_23 rfl (lv_at hl 3 rfl) ?_
        refine vp_callSi (W.runV (As := [.int (nI (j))]) (rest := []) ⟨hx, hb, hml, hown, hts⟩ (c_W_onesBefore l dC dI hok1 (t := j) (by omega)) (cwV 1 hts (gd_V mb_153 mb_154 mb_155 mb_24 mb_156) rfl rfl rfl (by decide +kernel) ⟨Nat.le_of_ble_eq_true rfl, Nat.le_of_ble_eq_true rfl⟩) (pw_R_V (va_recv hKw1 hPw1 (ci := ciW) (q0 := 0) rfl rfl) hPw1 hKw1) rfl rfl hl.1 rfl (lv_room (Nat.le_of_ble_eq_true rfl)) d_P_ones_24 ⟨Nat.le_of_ble_eq_true rfl, Nat.le_of_ble_eq_true rfl⟩) (fun r_24 hr_24 => ?_)
        subst hr_24
        exact W.iret (v := (nI (pw_c (Wd i1).2.2 j))) hx hb hr (fun t_ ht_ hW_ => ⟨_, rfl, Or.inl ⟨i1, hi1, hx1, Or.inl ⟨j, hj, rfl, rfl⟩⟩, ht_⟩) (fun q h => absurd h List.not_mem_nil) d_P_ones_27
      · refine lv_iconst (v := (-1)) hx hb d_P_ones_20 (by decide) ?_
        exact W.iret (v := (-1)) hx hb hr (fun t_ ht_ hW_ => ⟨_, rfl, Or.inl ⟨i1, hi1, hx1, Or.inr ⟨fun ⟨j, hj, e⟩ => (by subst e; first | exact nI_pos (by omega) c_11 | exact c_17 (nI_le hj (by decide))), rfl⟩⟩, ht_⟩) (fun q h => absurd h List.not_mem_nil) d_P_ones_21
  · refine pq_top (y := .null) (by rw [hr1]; rfl) ?_
    refine lv_astore_nN (lv' := [(3, .null), (0, .ref o), (1, .int (x)), (2, .int (y))]) hx hb d_P_ones_5 rfl hl (by decide) rfl (fun ls hl => ?_)
    refine lv_aload_nN hx hb d_P_ones_6 rfl (lv_at hl 0 rfl) ?_
    refine lv_ifnullN (tgt := 20) hx hb d_P_ones_7 (by decide) ?_
    refine lv_iconst (v := (-1)) hx hb d_P_ones_20 (by decide) ?_
    exact W.iret (v := (-1)) hx hb hr (fun t_ ht_ hW_ => ⟨_, rfl, Or.inr ⟨hno1, rfl⟩, ht_⟩) (fun q h => absurd h List.not_mem_nil) d_P_ones_21
set_option maxHeartbeats 4000000 in
set_option maxRecDepth 100000 in
theorem c_P_total (l : Launch) (dC : Nat → ClassId) (dI : Nat → Nat → Nat) {z0 o q n : Nat} {cW : ClassId} {wa : Nat → Option Nat} {Wd : Nat → pw_V} (hn : n ≤ 40) : Met l y_P_total ws_P_total ({ frames := 0, cells := 0, slots := 0, locals := 0 } : Room) (pw_X [.ref o] dC dI z0 o q n cW wa Wd) (vp_Si (fun r => r = nI n)) 0 0 (fun _ => False) := by
  refine Met.ofW (cc := b_P_total) (maxL := 1) (ret := (some .int)) (by decide) rfl ?_
  intro p e s m args below meth c s₁ B hml hv
  obtain ⟨rfl, hP, hK, hall⟩ := hv
  have hx := B.exec
  have hb := B.bytes
  have hr := B.returns
  have hts := atoms_spec (ws := ws_P_total) B.pre
  have hown : s.vm.findClass R_P = some m.cls := findClass_of_methodNamed B.named
  have hlocks := B.notSynchronized
  have hl := lv_entry ([.ref o]) (n := 1) (Nat.le_of_ble_eq_true rfl)
  rw [lg_entry_eq]
  generalize (lg_sl ([.ref o]) ++ List.replicate (1 - (lg_sl ([.ref o])).length) Slot.unset).toArray = ls at hl ⊢
  have hl : lv_has ls 1 [(0, .ref o)] := hl
  refine lv_aload_n hx hb d_P_total_0 rfl (lv_at hl 0 rfl) ?_
  refine va_get (D := (dC, dI)) (ci := ciP) (v := .int (nI (n))) (C := R_P) (T := F_P) (N := 2) hx hb hts (fun w h => List.mem_cons_of_mem _ (in_P w h)) hown hK hP 0 rfl rfl 1 (by decide) (hts (.fieldLink R_P 15 "PeriodWords" "count" "I") (List.mem_cons_of_mem _ mb_46)) (fun _ h9 => h9) rfl d_P_total_1 ?_
  exact W.iret (v := (nI (n))) hx hb hr (fun t_ ht_ hW_ => ⟨_, rfl, rfl, ht_⟩) (fun q h => absurd h List.not_mem_nil) d_P_total_4
set_option maxHeartbeats 4000000 in
set_option maxRecDepth 100000 in
theorem c_P_form (l : Launch) (dC : Nat → ClassId) (dI : Nat → Nat → Nat) {z0 o q n : Nat} {cW : ClassId} {wa : Nat → Option Nat} {Wd : Nat → pw_V} (hn : n ≤ 40) {x y : Int32} : Met l y_P_form ws_P_form ({ frames := 2, cells := 0, slots := 0, locals := 46 } : Room) (pw_X [.ref o, .int (x), .int (y)] dC dI z0 o q n cW wa Wd) (vp_Si (sp_1 n x (fun i r => sp_form (Wd i) y r) (fun r => r = -1))) 0 0 (fun _ => False) := by
  refine Met.ofW (cc := b_P_form) (maxL := 4) (ret := (some .int)) (by decide) rfl ?_
  intro p e s m args below meth c s₁ B hml hv
  obtain ⟨rfl, hP, hK, hall⟩ := hv
  have hx := B.exec
  have hb := B.bytes
  have hr := B.returns
  have hts := atoms_spec (ws := ws_P_form) B.pre
  have hown : s.vm.findClass R_P = some m.cls := findClass_of_methodNamed B.named
  have hlocks := B.notSynchronized
  have hl := lv_entry ([.ref o, .int (x), .int (y)]) (n := 4) (Nat.le_of_ble_eq_true rfl)
  rw [lg_entry_eq]
  generalize (lg_sl ([.ref o, .int (x), .int (y)]) ++ List.replicate (4 - (lg_sl ([.ref o, .int (x), .int (y)])).length) Slot.unset).toArray = ls at hl ⊢
  have hl : lv_has ls 4 [(0, .ref o), (1, .int (x)), (2, .int (y))] := hl
  refine lv_aload_n hx hb d_P_form_0 rfl (lv_at hl 0 rfl) ?_
  refine lv_iload_n hx hb d_P_form_1 rfl (lv_at hl 1 rfl) ?_
  refine va_csq (W.runV (As := [.int (x)]) (rest := []) ⟨hx, hb, hml, hown, hts⟩ (c_P_find l dC dI hn (x := x)) (cwV 1 hts (gd_V mb_195 mb_197 mb_1 mb_22 mb_198) rfl rfl rfl (by decide +kernel) ⟨Nat.le_of_ble_eq_true rfl, Nat.le_of_ble_eq_true rfl⟩) (pw_R_V (va_recv hK hP (ci := ciP) (q0 := 0) rfl rfl) hP hK) rfl rfl hl.1 rfl (lv_room (Nat.le_of_ble_eq_true rfl)) d_P_form_2 ⟨Nat.le_of_ble_eq_true rfl, Nat.le_of_ble_eq_true rfl⟩) (fun r_2 hr_2 => ?_)
  rcases hr_2 with ⟨i1, hi1, hx1, hr1⟩ | ⟨hno1, hr1⟩
  · obtain ⟨a1, hwa1, q1, cA1, pl1, hPw1, hKw1, hpl1, hok1, hz1, hzq1⟩ := hall i1 hi1
    have hok1_ := hok1; obtain ⟨hh1, hp01, hp61, hE1⟩ := hok1_
    have ho1 := pw_o_le (Wd i1).2.2 (Wd i1).1 (Wd i1).2.1
    have hc1 := pw_c_le (Wd i1).2.2 (Wd i1).1
    rw [hx1] at hl
    refine pq_top (y := .ref a1) (by rw [hr1, hwa1]; rfl) ?_
    refine lv_astore_n (lv' := [(3, .ref a1), (0, .ref o), (1, .int (nI (i1))), (2, .int (y))]) hx hb d_P_form_5 rfl hl (by decide) rfl (fun ls hl => ?_)
    refine lv_aload_n hx hb d_P_form_6 rfl (lv_at hl 0 rfl) ?_
    refine lv_ifnonnull (tgt := 12) hx hb d_P_form_7 (by decide) ?_
    refine lv_iload_n hx hb d_P_form_12 rfl (lv_at hl 3 rfl) ?_
    rcases pq_sw5 y with rfl | rfl | rfl | rfl | rfl | ⟨hout, n0, n1, n2, n3, n4⟩
    · refine lv_tableIn (tgt := 48) hx hb d_P_form_13 (by decide) (by decide) rfl (by decide) ?_
      refine lv_aload_n hx hb d_P_form_48 rfl (lv_at hl 0 rfl) ?_
      refine va_get (D := (dC, dI)) (ci := ciW) (v := .int (nI ((Wd i1).1))) (C := R_W) (T := F_W) (N := 7) hx hb hts (fun w h => List.mem_cons_of_mem _ (in_W w h)) hown hKw1 hPw1 0 rfl rfl 0 (by decide) (hts (.fieldLink R_P 52 "PeriodWords$Word" "headLength" "I") (List.mem_cons_of_mem _ mb_77)) (fun _ h9 => h9) rfl d_P_form_49 ?_
      exact W.iret (v := (nI ((Wd i1).1))) hx hb hr (fun t_ ht_ hW_ => ⟨_, rfl, Or.inl ⟨i1, hi1, hx1, rfl⟩, ht_⟩) (fun q h => absurd h List.not_mem_nil) d_P_form_52
    · refine lv_tableIn (tgt := 53) hx hb d_P_form_13 (by decide) (by decide) rfl (by decide) ?_
      refine lv_aload_n hx hb d_P_form_53 rfl (lv_at hl 0 rfl) ?_
      refine va_get (D := (dC, dI)) (ci := ciW) (v := .int (nI ((Wd i1).2.1))) (C := R_W) (T := F_W) (N := 7) hx hb hts (fun w h => List.mem_cons_of_mem _ (in_W w h)) hown hKw1 hPw1 0 rfl rfl 2 (by decide) (hts (.fieldLink R_P 55 "PeriodWords$Word" "ringLength" "I") (List.mem_cons_of_mem _ mb_81)) (fun _ h9 => h9) rfl d_P_form_54 ?_
      exact W.iret (v := (nI ((Wd i1).2.1))) hx hb hr (fun t_ ht_ hW_ => ⟨_, rfl, Or.inl ⟨i1, hi1, hx1, rfl⟩, ht_⟩) (fun q h => absurd h List.not_mem_nil) d_P_form_57
    · refine lv_tableIn (tgt := 58) hx hb d_P_form_13 (by decide) (by decide) rfl (by decide) ?_
      refine lv_aload_n hx hb d_P_form_58 rfl (lv_at hl 0 rfl) ?_
      refine va_get (D := (dC, dI)) (ci := ciW) (v := .int (nI (pw_o (Wd i1).2.2 (Wd i1).1 (Wd i1).2.1))) (C := R_W) (T := F_W) (N := 7) hx hb hts (fun w h => List.mem_cons_of_mem _ (in_W w h)) hown hKw1 hPw1 0 rfl rfl 5 (by decide) (hts (.fieldLink R_P 42 "PeriodWords$Word" "ringOnes" "I") (List.mem_cons_of_mem _ mb_87)) (fun _ h9 => h9) rfl d_P_form_59 ?_
      refine lv_aload_n hx hb d_P_form_62 rfl (lv_at hl 0 rfl) ?_
      refine va_get (D := (dC, dI)) (ci := ciW) (v := .int (nI (pw_o (Wd i1).2.2 (Wd i1).1 (Wd i1).2.1))) (C := R_W) (T := F_W) (N := 7) hx hb hts (fun w h => List.mem_cons_of_mem _ (in_W w h)) hown hKw1 hPw1 0 rfl rfl 5 (by decide) (hts (.fieldLink R_P 42 "PeriodWords$Word" "ringOnes" "I") (List.mem_cons_of_mem _ mb_87)) (fun _ h9 => h9) rfl d_P_form_63 ?_
      refine lv_aload_n hx hb d_P_form_66 rfl (lv_at hl 0 rfl) ?_
      refine va_get (D := (dC, dI)) (ci := ciW) (v := .int (nI ((Wd i1).2.1))) (C := R_W) (T := F_W) (N := 7) hx hb hts (fun w h => List.mem_cons_of_mem _ (in_W w h)) hown hKw1 hPw1 0 rfl rfl 2 (by decide) (hts (.fieldLink R_P 55 "PeriodWords$Word" "ringLength" "I") (List.mem_cons_of_mem _ mb_81)) (fun _ h9 => h9) rfl d_P_form_67 ?_
      refine vp_callSi (W.runS (As := [.int (nI (pw_o (Wd i1).2.2 (Wd i1).1 (Wd i1).2.1)), .int (nI ((Wd i1).2.1))]) (rest := [.int (nI (pw_o (Wd i1).2.2 (Wd i1).1 (Wd i1).2.1))]) ⟨hx, hb, hml, hown, hts⟩ (c_P_cd l dC dI (x := pw_o (Wd i1).2.2 (Wd i1).1 (Wd i1).2.1) (y := (Wd i1).2.1) (by omega) (by omega) (by omega)) (va_cwS 2 hts (gd_S mb_147 mb_148 mb_22 mb_149) rfl rfl rfl (by decide +kernel) ⟨Nat.le_of_ble_eq_true rfl, Nat.le_of_ble_eq_true rfl⟩) (pw_R_S pw_P0 (hK.sub [] rfl)) rfl rfl hl.1 rfl (lv_room (Nat.le_of_ble_eq_true rfl)) d_P_form_70 ⟨Nat.le_of_ble_eq_true rfl, Nat.le_of_ble_eq_true rfl⟩) (fun r_70 hr_70 => ?_)
      subst hr_70
      have hg0 := Nat.gcd_pos_of_pos_right (pw_o (Wd i1).2.2 (Wd i1).1 (Wd i1).2.1) hp01
      have hg1 := Nat.gcd_le_right (pw_o (Wd i1).2.2 (Wd i1).1 (Wd i1).2.1) hp01
      refine pq_idiv (a := (pw_o (Wd i1).2.2 (Wd i1).1 (Wd i1).2.1)) (b := (Nat.gcd (pw_o (Wd i1).2.2 (Wd i1).1 (Wd i1).2.1) (Wd i1).2.1)) hx hb d_P_form_73 (by omega) (by omega) (by omega) ?_
      exact W.iret (v := (nI ((pw_o (Wd i1).2.2 (Wd i1).1 (Wd i1).2.1) / (Nat.gcd (pw_o (Wd i1).2.2 (Wd i1).1 (Wd i1).2.1) (Wd i1).2.1)))) hx hb hr (fun t_ ht_ hW_ => ⟨_, rfl, Or.inl ⟨i1, hi1, hx1, rfl⟩, ht_⟩) (fun q h => absurd h List.not_mem_nil) d_P_form_74
    · refine lv_tableIn (tgt := 75) hx hb d_P_form_13 (by decide) (by decide) rfl (by decide) ?_
      refine lv_aload_n hx hb d_P_form_75 rfl (lv_at hl 0 rfl) ?_
      refine va_get (D := (dC, dI)) (ci := ciW) (v := .int (nI ((Wd i1).2.1))) (C := R_W) (T := F_W) (N := 7) hx hb hts (fun w h => List.mem_cons_of_mem _ (in_W w h)) hown hKw1 hPw1 0 rfl rfl 2 (by decide) (hts (.fieldLink R_P 55 "PeriodWords$Word" "ringLength" "I") (List.mem_cons_of_mem _ mb_81)) (fun _ h9 => h9) rfl d_P_form_76 ?_
      refine lv_aload_n hx hb d_P_form_79 rfl (lv_at hl 0 rfl) ?_
      refine va_get (D := (dC, dI)) (ci := ciW) (v := .int (nI (pw_o (Wd i1).2.2 (Wd i1).1 (Wd i1).2.1))) (C := R_W) (T := F_W) (N := 7) hx hb hts (fun w h => List.mem_cons_of_mem _ (in_W w h)) hown hKw1 hPw1 0 rfl rfl 5 (by decide) (hts (.fieldLink R_P 42 "PeriodWords$Word" "ringOnes" "I") (List.mem_cons_of_mem _ mb_87)) (fun _ h9 => h9) rfl d_P_form_80 ?_
      refine lv_aload_n hx hb d_P_form_83 rfl (lv_at hl 0 rfl) ?_
      refine va_get (D := (dC, dI)) (ci := ciW) (v := .int (nI ((Wd i1).2.1))) (C := R_W) (T := F_W) (N := 7) hx hb hts (fun w h => List.mem_cons_of_mem _ (in_W w h)) hown hKw1 hPw1 0 rfl rfl 2 (by decide) (hts (.fieldLink R_P 55 "PeriodWords$Word" "ringLength" "I") (List.mem_cons_of_mem _ mb_81)) (fun _ h9 => h9) rfl d_P_form_84 ?_
      refine vp_callSi (W.runS (As := [.int (nI (pw_o (Wd i1).2.2 (Wd i1).1 (Wd i1).2.1)), .int (nI ((Wd i1).2.1))]) (rest := [.int (nI ((Wd i1).2.1))]) ⟨hx, hb, hml, hown, hts⟩ (c_P_cd l dC dI (x := pw_o (Wd i1).2.2 (Wd i1).1 (Wd i1).2.1) (y := (Wd i1).2.1) (by omega) (by omega) (by omega)) (va_cwS 2 hts (gd_S mb_147 mb_148 mb_22 mb_149) rfl rfl rfl (by decide +kernel) ⟨Nat.le_of_ble_eq_true rfl, Nat.le_of_ble_eq_true rfl⟩) (pw_R_S pw_P0 (hK.sub [] rfl)) rfl rfl hl.1 rfl (lv_room (Nat.le_of_ble_eq_true rfl)) d_P_form_87 ⟨Nat.le_of_ble_eq_true rfl, Nat.le_of_ble_eq_true rfl⟩) (fun r_87 hr_87 => ?_)
      subst hr_87
      have hg0 := Nat.gcd_pos_of_pos_right (pw_o (Wd i1).2.2 (Wd i1).1 (Wd i1).2.1) hp01
      have hg1 := Nat.gcd_le_right (pw_o (Wd i1).2.2 (Wd i1).1 (Wd i1).2.1) hp01
      refine pq_idiv (a := ((Wd i1).2.1)) (b := (Nat.gcd (pw_o (Wd i1).2.2 (Wd i1).1 (Wd i1).2.1) (Wd i1).2.1)) hx hb d_P_form_90 (by omega) (by omega) (by omega) ?_
      exact W.iret (v := (nI (((Wd i1).2.1) / (Nat.gcd (pw_o (Wd i1).2.2 (Wd i1).1 (Wd i1).2.1) (Wd i1).2.1)))) hx hb hr (fun t_ ht_ hW_ => ⟨_, rfl, Or.inl ⟨i1, hi1, hx1, rfl⟩, ht_⟩) (fun q h => absurd h List.not_mem_nil) d_P_form_91
    · refine lv_tableIn (tgt := 92) hx hb d_P_form_13 (by decide) (by decide) rfl (by decide) ?_
      refine lv_aload_n hx hb d_P_form_92 rfl (lv_at hl 0 rfl) ?_
      refine va_get (D := (dC, dI)) (ci := ciW) (v := .int (nI (pw_c (Wd i1).2.2 (Wd i1).1))) (C := R_W) (T := F_W) (N := 7) hx hb hts (fun w h => List.mem_cons_of_mem _ (in_W w h)) hown hKw1 hPw1 0 rfl rfl 4 (by decide) (hts (.fieldLink R_P 62 "PeriodWords$Word" "headOnes" "I") (List.mem_cons_of_mem _ mb_85)) (fun _ h9 => h9) rfl d_P_form_93 ?_
      exact W.iret (v := (nI (pw_c (Wd i1).2.2 (Wd i1).1))) hx hb hr (fun t_ ht_ hW_ => ⟨_, rfl, Or.inl ⟨i1, hi1, hx1, rfl⟩, ht_⟩) (fun q h => absurd h List.not_mem_nil) d_P_form_96
    · refine lv_tableOut (tgt := 97) hx hb d_P_form_13 hout (by decide) ?_
      refine lv_iconst (v := (-1)) hx hb d_P_form_97 (by decide) ?_
      exact W.iret (v := (-1)) hx hb hr (fun t_ ht_ hW_ => ⟨_, rfl, Or.inl ⟨i1, hi1, hx1, sp_form_no n0 n1 n2 n3 n4⟩, ht_⟩) (fun q h => absurd h List.not_mem_nil) d_P_form_98
  · refine pq_top (y := .null) (by rw [hr1]; rfl) ?_
    refine lv_astore_nN (lv' := [(3, .null), (0, .ref o), (1, .int (x)), (2, .int (y))]) hx hb d_P_form_5 rfl hl (by decide) rfl (fun ls hl => ?_)
    refine lv_aload_nN hx hb d_P_form_6 rfl (lv_at hl 0 rfl) ?_
    refine lv_ifnonnullN hx hb d_P_form_7 ?_
    refine lv_iconst (v := (-1)) hx hb d_P_form_10 (by decide) ?_
    exact W.iret (v := (-1)) hx hb hr (fun t_ ht_ hW_ => ⟨_, rfl, Or.inr ⟨hno1, rfl⟩, ht_⟩) (fun q h => absurd h List.not_mem_nil) d_P_form_11
set_option maxHeartbeats 4000000 in
set_option maxRecDepth 100000 in
theorem c_P_same (l : Launch) (dC : Nat → ClassId) (dI : Nat → Nat → Nat) {z0 o q n : Nat} {cW : ClassId} {wa : Nat → Option Nat} {Wd : Nat → pw_V} (hn : n ≤ 40) {x : Int32} : Met l y_P_same ws_P_same ({ frames := 1, cells := 0, slots := 0, locals := 21 } : Room) (pw_X [.ref o, .int (x)] dC dI z0 o q n cW wa Wd) (vp_Si (sp_1 n x (fun i r => sp_same Wd i r) (fun r => r = -1))) 0 0 (fun _ => False) := by
  refine Met.ofW (cc := b_P_same) (maxL := 4) (ret := (some .int)) (by decide) rfl ?_
  intro p e s m args below meth c s₁ B hml hv
  obtain ⟨rfl, hP, hK, hall⟩ := hv
  have hx := B.exec
  have hb := B.bytes
  have hr := B.returns
  have hts := atoms_spec (ws := ws_P_same) B.pre
  have hown : s.vm.findClass R_P = some m.cls := findClass_of_methodNamed B.named
  have hlocks := B.notSynchronized
  have hl := lv_entry ([.ref o, .int (x)]) (n := 4) (Nat.le_of_ble_eq_true rfl)
  rw [lg_entry_eq]
  generalize (lg_sl ([.ref o, .int (x)]) ++ List.replicate (4 - (lg_sl ([.ref o, .int (x)])).length) Slot.unset).toArray = ls at hl ⊢
  have hl : lv_has ls 4 [(0, .ref o), (1, .int (x))] := hl
  refine lv_aload_n hx hb d_P_same_0 rfl (lv_at hl 0 rfl) ?_
  refine lv_iload_n hx hb d_P_same_1 rfl (lv_at hl 1 rfl) ?_
  refine va_csq (W.runV (As := [.int (x)]) (rest := []) ⟨hx, hb, hml, hown, hts⟩ (c_P_find l dC dI hn (x := x)) (cwV 1 hts (gd_V mb_195 mb_197 mb_1 mb_22 mb_198) rfl rfl rfl (by decide +kernel) ⟨Nat.le_of_ble_eq_true rfl, Nat.le_of_ble_eq_true rfl⟩) (pw_R_V (va_recv hK hP (ci := ciP) (q0 := 0) rfl rfl) hP hK) rfl rfl hl.1 rfl (lv_room (Nat.le_of_ble_eq_true rfl)) d_P_same_2 ⟨Nat.le_of_ble_eq_true rfl, Nat.le_of_ble_eq_true rfl⟩) (fun r_2 hr_2 => ?_)
  rcases hr_2 with ⟨i1, hi1, hx1, hr1⟩ | ⟨hno1, hr1⟩
  · obtain ⟨a1, hwa1, q1, cA1, pl1, hPw1, hKw1, hpl1, hok1, hz1, hzq1⟩ := hall i1 hi1
    have hok1_ := hok1; obtain ⟨hh1, hp01, hp61, hE1⟩ := hok1_
    have ho1 := pw_o_le (Wd i1).2.2 (Wd i1).1 (Wd i1).2.1
    have hc1 := pw_c_le (Wd i1).2.2 (Wd i1).1
    rw [hx1] at hl
    refine pq_top (y := .ref a1) (by rw [hr1, hwa1]; rfl) ?_
    refine lv_astore_n (lv' := [(2, .ref a1), (0, .ref o), (1, .int (nI (i1)))]) hx hb d_P_same_5 rfl hl (by decide) rfl (fun ls hl => ?_)
    refine lv_aload_n hx hb d_P_same_6 rfl (lv_at hl 0 rfl) ?_
    refine lv_ifnonnull (tgt := 12) hx hb d_P_same_7 (by decide) ?_
    refine lv_iconst (v := nI 0) hx hb d_P_same_12 (by decide) ?_
    refine lv_istore_n (lv' := [(3, .int (nI (0))), (2, .ref a1), (0, .ref o), (1, .int (nI (i1)))]) hx hb d_P_same_13 rfl hl (by decide) rfl (fun ls hl => ?_)
    have B_14 : ∀ (k_ : Nat) (k : Nat) (ls : Array Slot), (i1 - k) < k_ → (k ≤ i1) → (∀ j, j < k → ¬ sp_q (Wd j) (Wd i1)) → lv_has ls 4 [(0, .ref o), (1, .int (nI (i1))), (2, .ref a1), (3, .int (nI (k)))] → W p l e (headSpec ws_P_same ({ frames := 1, cells := 0, slots := 0, locals := 21 } : Room)).room s m ([.ref o, .int (x)]).toArray below meth c s.heap [] 0 0 (MQ below (vp_Si (sp_1 n x (fun i r => sp_same Wd i r) (fun r => r = -1))) ([.ref o, .int (x)]).toArray s 0 0 (fun _ => False)) (F0 m 14 ls []) := by
      intro k_
      induction k_ with
      | zero => intro k ls h_; omega
      | succ k_ ih_14 =>
        intro k ls hm_ hk hne hl
        refine lv_iload_n hx hb d_P_same_14 rfl (lv_at hl 3 rfl) ?_
        refine lv_iload_n hx hb d_P_same_15 rfl (lv_at hl 1 rfl) ?_
        refine pq_icmp_ge (tgt := 39) (a := k) (b := i1) hx hb d_P_same_16 (by decide) (by omega) (by omega) (fun c_16 => ?_) (fun c_16 => ?_)
        · refine lv_iload_n hx hb d_P_same_39 rfl (lv_at hl 1 rfl) ?_
          exact W.iret (v := (nI (i1))) hx hb hr (fun t_ ht_ hW_ => ⟨_, rfl, Or.inl ⟨i1, hi1, hx1, i1, Nat.le_refl _, rfl, ⟨rfl, rfl, rfl, rfl⟩, by rw [show i1 = k by omega] at hne ⊢; exact hne⟩, ht_⟩) (fun q h => absurd h List.not_mem_nil) d_P_same_40
        · refine lv_aload_n hx hb d_P_same_19 rfl (lv_at hl 0 rfl) ?_
          refine lv_iload_n hx hb d_P_same_20 rfl (lv_at hl 3 rfl) ?_
          refine va_csq (W.runV (As := [.int (nI (k))]) (rest := []) ⟨hx, hb, hml, hown, hts⟩ (c_P_find l dC dI hn (x := nI k)) (cwV 1 hts (gd_V mb_195 mb_197 mb_1 mb_22 mb_198) rfl rfl rfl (by decide +kernel) ⟨Nat.le_of_ble_eq_true rfl, Nat.le_of_ble_eq_true rfl⟩) (pw_R_V (va_recv hK hP (ci := ciP) (q0 := 0) rfl rfl) hP hK) rfl rfl hl.1 rfl (lv_room (Nat.le_of_ble_eq_true rfl)) d_P_same_21 ⟨Nat.le_of_ble_eq_true rfl, Nat.le_of_ble_eq_true rfl⟩) (fun r_21 hr_21 => ?_)
          obtain ⟨a2, hwa2, q2, cA2, pl2, hPw2, hKw2, hpl2, hok2, hz2, hzq2⟩ := hall k (by omega)
          have hr2 : r_21 = some a2 := by
            rcases hr_21 with ⟨i, hi, e, hr⟩ | ⟨hno, _⟩
            · rw [← (nI_eq (show k < 2 ^ 31 by omega) (show i < 2 ^ 31 by omega)).mp e] at hr; rw [hr, hwa2]
            · exact absurd ⟨k, by omega, rfl⟩ hno
          refine pq_top (y := .ref a2) (by rw [hr2]; rfl) ?_
          refine lv_aload_n hx hb d_P_same_24 rfl (lv_at hl 2 rfl) ?_
          refine vp_callSi (W.runS (As := [.ref a2, .ref a1]) (rest := []) ⟨hx, hb, hml, hown, hts⟩ (c_P_alike l dC dI hok2 hok1) (va_cwS 2 hts (gd_S mb_213 mb_214 mb_22 mb_215) rfl rfl rfl (by decide +kernel) ⟨Nat.le_of_ble_eq_true rfl, Nat.le_of_ble_eq_true rfl⟩) (pw_R_S (hPw2.app hPw1) (hKw2.app hKw1)) rfl rfl hl.1 rfl (lv_room (Nat.le_of_ble_eq_true rfl)) d_P_same_25 ⟨Nat.le_of_ble_eq_true rfl, Nat.le_of_ble_eq_true rfl⟩) (fun r_25 hr_25 => ?_)
          subst hr_25
          have hdd := pw_bt (decide ((Wd k).1 = (Wd i1).1 ∧ pw_b (Wd k).2.2 0 (Wd k).1 = pw_b (Wd i1).2.2 0 (Wd i1).1 ∧ (Wd k).2.1 = (Wd i1).2.1 ∧ pw_b (Wd k).2.2 (Wd k).1 (Wd k).2.1 = pw_b (Wd i1).2.2 (Wd i1).1 (Wd i1).2.1))
          rw [decide_eq_true_iff, decide_eq_false_iff_not] at hdd
          refine pq_if_eq (tgt := 33) (a := ((decide ((Wd k).1 = (Wd i1).1 ∧ pw_b (Wd k).2.2 0 (Wd k).1 = pw_b (Wd i1).2.2 0 (Wd i1).1 ∧ (Wd k).2.1 = (Wd i1).2.1 ∧ pw_b (Wd k).2.2 (Wd k).1 (Wd k).2.1 = pw_b (Wd i1).2.2 (Wd i1).1 (Wd i1).2.1)).toNat)) hx hb d_P_same_28 (by decide) (by omega) (fun c_28 => ?_) (fun c_28 => ?_)
          · refine lv_iinc (v := nI (k + 1)) (lv' := [(3, .int (nI (k + 1))), (0, .ref o), (1, .int (nI (i1))), (2, .ref a1)]) hx hb d_P_same_33 hl (k := 3) rfl (pq_inc _) (by decide) rfl (fun ls hl => ?_)
            refine lv_goto (tgt := 14) hx hb d_P_same_36 (by decide) ?_
            exact ih_14 (k + 1) ls (by clear hdd; omega) c_16 (lt_s hne (fun z => hdd.elim (fun d => by omega) (fun d => d.2 z))) (lv_sub hl [1, 2, 3, 0] rfl)
          · refine lv_iload_n hx hb d_P_same_31 rfl (lv_at hl 3 rfl) ?_
            exact W.iret (v := (nI (k))) hx hb hr (fun t_ ht_ hW_ => ⟨_, rfl, Or.inl ⟨i1, hi1, hx1, k, hk, rfl, (hdd.elim (fun d => d.2) (fun d => by exfalso; omega)), hne⟩, ht_⟩) (fun q h => absurd h List.not_mem_nil) d_P_same_32
    exact B_14 _ (0) ls (Nat.lt_succ_self _) (by omega) (fun j hj => absurd hj (Nat.not_lt_zero j)) (lv_sub hl [2, 3, 1, 0] rfl)
  · refine pq_top (y := .null) (by rw [hr1]; rfl) ?_
    refine lv_astore_nN (lv' := [(2, .null), (0, .ref o), (1, .int (x))]) hx hb d_P_same_5 rfl hl (by decide) rfl (fun ls hl => ?_)
    refine lv_aload_nN hx hb d_P_same_6 rfl (lv_at hl 0 rfl) ?_
    refine lv_ifnonnullN hx hb d_P_same_7 ?_
    refine lv_iconst (v := (-1)) hx hb d_P_same_10 (by decide) ?_
    exact W.iret (v := (-1)) hx hb hr (fun t_ ht_ hW_ => ⟨_, rfl, Or.inr ⟨hno1, rfl⟩, ht_⟩) (fun q h => absurd h List.not_mem_nil) d_P_same_11
set_option maxHeartbeats 4000000 in
set_option maxRecDepth 100000 in
theorem c_P_ahead (l : Launch) (dC : Nat → ClassId) (dI : Nat → Nat → Nat) {z0 o q n : Nat} {cW : ClassId} {wa : Nat → Option Nat} {Wd : Nat → pw_V} (hn : n ≤ 40) {x y : Int32} : Met l y_P_ahead ws_P_ahead ({ frames := 4, cells := 0, slots := 0, locals := 89 } : Room) (pw_X [.ref o, .int (x), .int (y)] dC dI z0 o q n cW wa Wd) (vp_Si (sp_2 n x y (fun i j r => sp_ahead (Wd i) (Wd j) r) (fun r => r = nI 0))) 0 0 (fun _ => False) := by
  refine Met.ofW (cc := b_P_ahead) (maxL := 5) (ret := (some .boolean)) (by decide) rfl ?_
  intro p e s m args below meth c s₁ B hml hv
  obtain ⟨rfl, hP, hK, hall⟩ := hv
  have hx := B.exec
  have hb := B.bytes
  have hr := B.returns
  have hts := atoms_spec (ws := ws_P_ahead) B.pre
  have hown : s.vm.findClass R_P = some m.cls := findClass_of_methodNamed B.named
  have hlocks := B.notSynchronized
  have hl := lv_entry ([.ref o, .int (x), .int (y)]) (n := 5) (Nat.le_of_ble_eq_true rfl)
  rw [lg_entry_eq]
  generalize (lg_sl ([.ref o, .int (x), .int (y)]) ++ List.replicate (5 - (lg_sl ([.ref o, .int (x), .int (y)])).length) Slot.unset).toArray = ls at hl ⊢
  have hl : lv_has ls 5 [(0, .ref o), (1, .int (x)), (2, .int (y))] := hl
  refine lv_aload_n hx hb d_P_ahead_0 rfl (lv_at hl 0 rfl) ?_
  refine lv_iload_n hx hb d_P_ahead_1 rfl (lv_at hl 1 rfl) ?_
  refine va_csq (W.runV (As := [.int (x)]) (rest := []) ⟨hx, hb, hml, hown, hts⟩ (c_P_find l dC dI hn (x := x)) (cwV 1 hts (gd_V mb_195 mb_197 mb_1 mb_22 mb_198) rfl rfl rfl (by decide +kernel) ⟨Nat.le_of_ble_eq_true rfl, Nat.le_of_ble_eq_true rfl⟩) (pw_R_V (va_recv hK hP (ci := ciP) (q0 := 0) rfl rfl) hP hK) rfl rfl hl.1 rfl (lv_room (Nat.le_of_ble_eq_true rfl)) d_P_ahead_2 ⟨Nat.le_of_ble_eq_true rfl, Nat.le_of_ble_eq_true rfl⟩) (fun r_2 hr_2 => ?_)
  rcases hr_2 with ⟨i1, hi1, hx1, hr1⟩ | ⟨hno1, hr1⟩
  · obtain ⟨a1, hwa1, q1, cA1, pl1, hPw1, hKw1, hpl1, hok1, hz1, hzq1⟩ := hall i1 hi1
    have hok1_ := hok1; obtain ⟨hh1, hp01, hp61, hE1⟩ := hok1_
    have ho1 := pw_o_le (Wd i1).2.2 (Wd i1).1 (Wd i1).2.1
    have hc1 := pw_c_le (Wd i1).2.2 (Wd i1).1
    rw [hx1] at hl
    refine pq_top (y := .ref a1) (by rw [hr1, hwa1]; rfl) ?_
    refine lv_astore_n (lv' := [(3, .ref a1), (0, .ref o), (1, .int (nI (i1))), (2, .int (y))]) hx hb d_P_ahead_5 rfl hl (by decide) rfl (fun ls hl => ?_)
    refine lv_aload_n hx hb d_P_ahead_6 rfl (lv_at hl 1 rfl) ?_
    refine lv_iload_n hx hb d_P_ahead_7 rfl (lv_at hl 3 rfl) ?_
    refine va_csq (W.runV (As := [.int (y)]) (rest := []) ⟨hx, hb, hml, hown, hts⟩ (c_P_find l dC dI hn (x := y)) (cwV 1 hts (gd_V mb_195 mb_197 mb_1 mb_22 mb_198) rfl rfl rfl (by decide +kernel) ⟨Nat.le_of_ble_eq_true rfl, Nat.le_of_ble_eq_true rfl⟩) (pw_R_V (va_recv hK hP (ci := ciP) (q0 := 0) rfl rfl) hP hK) rfl rfl hl.1 rfl (lv_room (Nat.le_of_ble_eq_true rfl)) d_P_ahead_8 ⟨Nat.le_of_ble_eq_true rfl, Nat.le_of_ble_eq_true rfl⟩) (fun r_8 hr_8 => ?_)
    rcases hr_8 with ⟨i2, hi2, hx2, hr2⟩ | ⟨hno2, hr2⟩
    · obtain ⟨a2, hwa2, q2, cA2, pl2, hPw2, hKw2, hpl2, hok2, hz2, hzq2⟩ := hall i2 hi2
      have hok2_ := hok2; obtain ⟨hh2, hp02, hp62, hE2⟩ := hok2_
      have ho2 := pw_o_le (Wd i2).2.2 (Wd i2).1 (Wd i2).2.1
      have hc2 := pw_c_le (Wd i2).2.2 (Wd i2).1
      rw [hx2] at hl
      refine pq_top (y := .ref a2) (by rw [hr2, hwa2]; rfl) ?_
      refine lv_astore (lv' := [(4, .ref a2), (3, .ref a1), (0, .ref o), (1, .int (nI (i1))), (2, .int (nI (i2)))]) hx hb d_P_ahead_11 hl (by decide) rfl (fun ls hl => ?_)
      refine lv_aload_n hx hb d_P_ahead_13 rfl (lv_at hl 1 rfl) ?_
      refine lv_ifnull hx hb d_P_ahead_14 ?_
      refine lv_aload hx hb d_P_ahead_17 (lv_at hl 0 rfl) ?_
      refine lv_ifnonnull (tgt := 24) hx hb d_P_ahead_19 (by decide) ?_
      refine lv_aload_n hx hb d_P_ahead_24 rfl (lv_at hl 1 rfl) ?_
      refine lv_aload hx hb d_P_ahead_25 (lv_at hl 0 rfl) ?_
      refine vp_callSi (W.runS (As := [.ref a1, .ref a2]) (rest := []) ⟨hx, hb, hml, hown, hts⟩ (c_P_leastWait l dC dI hok1 hok2 hpl1 hpl2) (va_cwS 2 hts (gd_S mb_220 mb_221 mb_22 mb_222) rfl rfl rfl (by decide +kernel) ⟨Nat.le_of_ble_eq_true rfl, Nat.le_of_ble_eq_true rfl⟩) (pw_R_S (hPw1.app hPw2) (hKw1.app hKw2)) rfl rfl hl.1 rfl (lv_room (Nat.le_of_ble_eq_true rfl)) d_P_ahead_27 ⟨Nat.le_of_ble_eq_true rfl, Nat.le_of_ble_eq_true rfl⟩) (fun r_27 hr_27 => ?_)
      have hwt : pw_wt (Wd i1) (Wd i2) r_27 := hr_27
      have hwa := pw_wt_ah hok1 hok2 hwt
      refine lv_if_ne (tgt := 37) hx hb d_P_ahead_30 (by decide) (fun c_30 => ?_) (fun c_30 => ?_)
      · refine lv_iconst (v := nI 0) hx hb d_P_ahead_37 (by decide) ?_
        exact W.zret (v := (nI (0))) hx hb hr (by decide) (fun t_ ht_ hW_ => ⟨_, rfl, Or.inl ⟨i1, i2, hi1, hx1, hi2, hx2, Or.inr ⟨rfl, fun z => c_30 (hwa.mpr z)⟩⟩, ht_⟩) (fun q h => absurd h List.not_mem_nil) d_P_ahead_38
      · refine lv_iconst (v := nI 1) hx hb d_P_ahead_33 (by decide) ?_
        refine lv_goto (tgt := 38) hx hb d_P_ahead_34 (by decide) ?_
        exact W.zret (v := (nI (1))) hx hb hr (by decide) (fun t_ ht_ hW_ => ⟨_, rfl, Or.inl ⟨i1, i2, hi1, hx1, hi2, hx2, Or.inl ⟨rfl, hwa.mp c_30⟩⟩, ht_⟩) (fun q h => absurd h List.not_mem_nil) d_P_ahead_38
    · refine pq_top (y := .null) (by rw [hr2]; rfl) ?_
      refine lv_astoreN (lv' := [(4, .null), (3, .ref a1), (0, .ref o), (1, .int (nI (i1))), (2, .int (y))]) hx hb d_P_ahead_11 hl (by decide) rfl (fun ls hl => ?_)
      refine lv_aload_n hx hb d_P_ahead_13 rfl (lv_at hl 1 rfl) ?_
      refine lv_ifnull hx hb d_P_ahead_14 ?_
      refine lv_aloadN hx hb d_P_ahead_17 (lv_at hl 0 rfl) ?_
      refine lv_ifnonnullN hx hb d_P_ahead_19 ?_
      refine lv_iconst (v := nI 0) hx hb d_P_ahead_22 (by decide) ?_
      exact W.zret (v := (nI (0))) hx hb hr (by decide) (fun t_ ht_ hW_ => ⟨_, rfl, Or.inr ⟨fun ⟨i, j, hi, e, hj, e2⟩ => hno2 ⟨j, hj, e2⟩, rfl⟩, ht_⟩) (fun q h => absurd h List.not_mem_nil) d_P_ahead_23
  · refine pq_top (y := .null) (by rw [hr1]; rfl) ?_
    refine lv_astore_nN (lv' := [(3, .null), (0, .ref o), (1, .int (x)), (2, .int (y))]) hx hb d_P_ahead_5 rfl hl (by decide) rfl (fun ls hl => ?_)
    refine lv_aload_n hx hb d_P_ahead_6 rfl (lv_at hl 1 rfl) ?_
    refine lv_iload_n hx hb d_P_ahead_7 rfl (lv_at hl 3 rfl) ?_
    refine va_csq (W.runV (As := [.int (y)]) (rest := []) ⟨hx, hb, hml, hown, hts⟩ (c_P_find l dC dI hn (x := y)) (cwV 1 hts (gd_V mb_195 mb_197 mb_1 mb_22 mb_198) rfl rfl rfl (by decide +kernel) ⟨Nat.le_of_ble_eq_true rfl, Nat.le_of_ble_eq_true rfl⟩) (pw_R_V (va_recv hK hP (ci := ciP) (q0 := 0) rfl rfl) hP hK) rfl rfl hl.1 rfl (lv_room (Nat.le_of_ble_eq_true rfl)) d_P_ahead_8 ⟨Nat.le_of_ble_eq_true rfl, Nat.le_of_ble_eq_true rfl⟩) (fun r_8 hr_8 => ?_)
    rcases hr_8 with ⟨i2, hi2, hx2, hr2⟩ | ⟨hno2, hr2⟩
    · obtain ⟨a2, hwa2, q2, cA2, pl2, hPw2, hKw2, hpl2, hok2, hz2, hzq2⟩ := hall i2 hi2
      have hok2_ := hok2; obtain ⟨hh2, hp02, hp62, hE2⟩ := hok2_
      have ho2 := pw_o_le (Wd i2).2.2 (Wd i2).1 (Wd i2).2.1
      have hc2 := pw_c_le (Wd i2).2.2 (Wd i2).1
      rw [hx2] at hl
      refine pq_top (y := .ref a2) (by rw [hr2, hwa2]; rfl) ?_
      refine lv_astore (lv' := [(4, .ref a2), (3, .null), (0, .ref o), (1, .int (x)), (2, .int (nI (i2)))]) hx hb d_P_ahead_11 hl (by decide) rfl (fun ls hl => ?_)
      refine lv_aload_nN hx hb d_P_ahead_13 rfl (lv_at hl 1 rfl) ?_
      refine lv_ifnullN (tgt := 22) hx hb d_P_ahead_14 (by decide) ?_
      refine lv_iconst (v := nI 0) hx hb d_P_ahead_22 (by decide) ?_
      exact W.zret (v := (nI (0))) hx hb hr (by decide) (fun t_ ht_ hW_ => ⟨_, rfl, Or.inr ⟨fun ⟨i, j, hi, e, hj, e2⟩ => hno1 ⟨i, hi, e⟩, rfl⟩, ht_⟩) (fun q h => absurd h List.not_mem_nil) d_P_ahead_23
    · refine pq_top (y := .null) (by rw [hr2]; rfl) ?_
      refine lv_astoreN (lv' := [(4, .null), (3, .null), (0, .ref o), (1, .int (x)), (2, .int (y))]) hx hb d_P_ahead_11 hl (by decide) rfl (fun ls hl => ?_)
      refine lv_aload_nN hx hb d_P_ahead_13 rfl (lv_at hl 1 rfl) ?_
      refine lv_ifnullN (tgt := 22) hx hb d_P_ahead_14 (by decide) ?_
      refine lv_iconst (v := nI 0) hx hb d_P_ahead_22 (by decide) ?_
      exact W.zret (v := (nI (0))) hx hb hr (by decide) (fun t_ ht_ hW_ => ⟨_, rfl, Or.inr ⟨fun ⟨i, j, hi, e, hj, e2⟩ => hno1 ⟨i, hi, e⟩, rfl⟩, ht_⟩) (fun q h => absurd h List.not_mem_nil) d_P_ahead_23
end
section
theorem d_M_init_0 : decode b_M_init 0 = .ok (.aload_n 0, 1) := by decide +kernel
theorem d_M_init_1 : decode b_M_init 1 = .ok (.invokespecial 1, 3) := by decide +kernel
theorem d_M_init_4 : decode b_M_init 4 = .ok (.aload_n 0, 1) := by decide +kernel
theorem d_M_init_5 : decode b_M_init 5 = .ok (.bipush 40, 2) := by decide +kernel
theorem d_M_init_7 : decode b_M_init 7 = .ok (.newarray .int, 2) := by decide +kernel
theorem d_M_init_9 : decode b_M_init 9 = .ok (.putfield 7, 3) := by decide +kernel
theorem d_M_init_12 : decode b_M_init 12 = .ok (.aload_n 0, 1) := by decide +kernel
theorem d_M_init_13 : decode b_M_init 13 = .ok (.bipush 40, 2) := by decide +kernel
theorem d_M_init_15 : decode b_M_init 15 = .ok (.newarray .int, 2) := by decide +kernel
theorem d_M_init_17 : decode b_M_init 17 = .ok (.putfield 13, 3) := by decide +kernel
theorem d_M_init_20 : decode b_M_init 20 = .ok (.aload_n 0, 1) := by decide +kernel
theorem d_M_init_21 : decode b_M_init 21 = .ok (.bipush 40, 2) := by decide +kernel
theorem d_M_init_23 : decode b_M_init 23 = .ok (.newarray .long, 2) := by decide +kernel
theorem d_M_init_25 : decode b_M_init 25 = .ok (.putfield 16, 3) := by decide +kernel
theorem d_M_init_28 : decode b_M_init 28 = .ok (.aload_n 0, 1) := by decide +kernel
theorem d_M_init_29 : decode b_M_init 29 = .ok (.bipush 40, 2) := by decide +kernel
theorem d_M_init_31 : decode b_M_init 31 = .ok (.newarray .long, 2) := by decide +kernel
theorem d_M_init_33 : decode b_M_init 33 = .ok (.putfield 20, 3) := by decide +kernel
theorem d_M_init_36 : decode b_M_init 36 = .ok (.aload_n 0, 1) := by decide +kernel
theorem d_M_init_37 : decode b_M_init 37 = .ok (.sipush 7400, 3) := by decide +kernel
theorem d_M_init_40 : decode b_M_init 40 = .ok (.newarray .boolean, 2) := by decide +kernel
theorem d_M_init_42 : decode b_M_init 42 = .ok (.putfield 23, 3) := by decide +kernel
theorem d_M_init_45 : decode b_M_init 45 = .ok (.return_, 1) := by decide +kernel
theorem d_M_thrown_0 : decode b_M_thrown 0 = .ok (.aload_n 0, 1) := by decide +kernel
theorem d_M_thrown_1 : decode b_M_thrown 1 = .ok (.getfield 27, 3) := by decide +kernel
theorem d_M_thrown_4 : decode b_M_thrown 4 = .ok (.ireturn, 1) := by decide +kernel
theorem d_M_raise_0 : decode b_M_raise 0 = .ok (.aload_n 0, 1) := by decide +kernel
theorem d_M_raise_1 : decode b_M_raise 1 = .ok (.iconst 1, 1) := by decide +kernel
theorem d_M_raise_2 : decode b_M_raise 2 = .ok (.putfield 27, 3) := by decide +kernel
theorem d_M_raise_5 : decode b_M_raise 5 = .ok (.iconst 0, 1) := by decide +kernel
theorem d_M_raise_6 : decode b_M_raise 6 = .ok (.ireturn, 1) := by decide +kernel
theorem d_M_in_0 : decode b_M_in 0 = .ok (.iload_n 0, 1) := by decide +kernel
theorem d_M_in_1 : decode b_M_in 1 = .ok (.iload_n 1, 1) := by decide +kernel
theorem d_M_in_2 : decode b_M_in 2 = .ok (.if_icmp .lt 12, 3) := by decide +kernel
theorem d_M_in_5 : decode b_M_in 5 = .ok (.iload_n 0, 1) := by decide +kernel
theorem d_M_in_6 : decode b_M_in 6 = .ok (.iload_n 2, 1) := by decide +kernel
theorem d_M_in_7 : decode b_M_in 7 = .ok (.if_icmp .gt 7, 3) := by decide +kernel
theorem d_M_in_10 : decode b_M_in 10 = .ok (.iconst 1, 1) := by decide +kernel
theorem d_M_in_11 : decode b_M_in 11 = .ok (.goto 4, 3) := by decide +kernel
theorem d_M_in_14 : decode b_M_in 14 = .ok (.iconst 0, 1) := by decide +kernel
theorem d_M_in_15 : decode b_M_in 15 = .ok (.ireturn, 1) := by decide +kernel
theorem d_M_isWord_0 : decode b_M_isWord 0 = .ok (.iload_n 1, 1) := by decide +kernel
theorem d_M_isWord_1 : decode b_M_isWord 1 = .ok (.iconst 0, 1) := by decide +kernel
theorem d_M_isWord_2 : decode b_M_isWord 2 = .ok (.aload_n 0, 1) := by decide +kernel
theorem d_M_isWord_3 : decode b_M_isWord 3 = .ok (.getfield 31, 3) := by decide +kernel
theorem d_M_isWord_6 : decode b_M_isWord 6 = .ok (.iconst 1, 1) := by decide +kernel
theorem d_M_isWord_7 : decode b_M_isWord 7 = .ok (.isub, 1) := by decide +kernel
theorem d_M_isWord_8 : decode b_M_isWord 8 = .ok (.invokestatic 34, 3) := by decide +kernel
theorem d_M_isWord_11 : decode b_M_isWord 11 = .ok (.ireturn, 1) := by decide +kernel
theorem d_M_has_0 : decode b_M_has 0 = .ok (.iload_n 2, 1) := by decide +kernel
theorem d_M_has_1 : decode b_M_has 1 = .ok (.aload_n 0, 1) := by decide +kernel
theorem d_M_has_2 : decode b_M_has 2 = .ok (.getfield 7, 3) := by decide +kernel
theorem d_M_has_5 : decode b_M_has 5 = .ok (.iload_n 1, 1) := by decide +kernel
theorem d_M_has_6 : decode b_M_has 6 = .ok (.iaload, 1) := by decide +kernel
theorem d_M_has_7 : decode b_M_has 7 = .ok (.if_icmp .ge 16, 3) := by decide +kernel
theorem d_M_has_10 : decode b_M_has 10 = .ok (.aload_n 0, 1) := by decide +kernel
theorem d_M_has_11 : decode b_M_has 11 = .ok (.getfield 16, 3) := by decide +kernel
theorem d_M_has_14 : decode b_M_has 14 = .ok (.iload_n 1, 1) := by decide +kernel
theorem d_M_has_15 : decode b_M_has 15 = .ok (.laload, 1) := by decide +kernel
theorem d_M_has_16 : decode b_M_has 16 = .ok (.iload_n 2, 1) := by decide +kernel
theorem d_M_has_17 : decode b_M_has 17 = .ok (.lshr, 1) := by decide +kernel
theorem d_M_has_18 : decode b_M_has 18 = .ok (.lconst 1, 1) := by decide +kernel
theorem d_M_has_19 : decode b_M_has 19 = .ok (.land, 1) := by decide +kernel
theorem d_M_has_20 : decode b_M_has 20 = .ok (.goto 27, 3) := by decide +kernel
theorem d_M_has_23 : decode b_M_has 23 = .ok (.aload_n 0, 1) := by decide +kernel
theorem d_M_has_24 : decode b_M_has 24 = .ok (.getfield 20, 3) := by decide +kernel
theorem d_M_has_27 : decode b_M_has 27 = .ok (.iload_n 1, 1) := by decide +kernel
theorem d_M_has_28 : decode b_M_has 28 = .ok (.laload, 1) := by decide +kernel
theorem d_M_has_29 : decode b_M_has 29 = .ok (.iload_n 2, 1) := by decide +kernel
theorem d_M_has_30 : decode b_M_has 30 = .ok (.aload_n 0, 1) := by decide +kernel
theorem d_M_has_31 : decode b_M_has 31 = .ok (.getfield 7, 3) := by decide +kernel
theorem d_M_has_34 : decode b_M_has 34 = .ok (.iload_n 1, 1) := by decide +kernel
theorem d_M_has_35 : decode b_M_has 35 = .ok (.iaload, 1) := by decide +kernel
theorem d_M_has_36 : decode b_M_has 36 = .ok (.isub, 1) := by decide +kernel
theorem d_M_has_37 : decode b_M_has 37 = .ok (.aload_n 0, 1) := by decide +kernel
theorem d_M_has_38 : decode b_M_has 38 = .ok (.getfield 13, 3) := by decide +kernel
theorem d_M_has_41 : decode b_M_has 41 = .ok (.iload_n 1, 1) := by decide +kernel
theorem d_M_has_42 : decode b_M_has 42 = .ok (.iaload, 1) := by decide +kernel
theorem d_M_has_43 : decode b_M_has 43 = .ok (.irem, 1) := by decide +kernel
theorem d_M_has_44 : decode b_M_has 44 = .ok (.lshr, 1) := by decide +kernel
theorem d_M_has_45 : decode b_M_has 45 = .ok (.lconst 1, 1) := by decide +kernel
theorem d_M_has_46 : decode b_M_has 46 = .ok (.land, 1) := by decide +kernel
theorem d_M_has_47 : decode b_M_has 47 = .ok (.lconst 1, 1) := by decide +kernel
theorem d_M_has_48 : decode b_M_has 48 = .ok (.lcmp, 1) := by decide +kernel
theorem d_M_has_49 : decode b_M_has 49 = .ok (.ifCond .ne 7, 3) := by decide +kernel
theorem d_M_has_52 : decode b_M_has 52 = .ok (.iconst 1, 1) := by decide +kernel
theorem d_M_has_53 : decode b_M_has 53 = .ok (.goto 4, 3) := by decide +kernel
theorem d_M_has_56 : decode b_M_has 56 = .ok (.iconst 0, 1) := by decide +kernel
theorem d_M_has_57 : decode b_M_has 57 = .ok (.ireturn, 1) := by decide +kernel
theorem d_M_onesOf_0 : decode b_M_onesOf 0 = .ok (.iconst 0, 1) := by decide +kernel
theorem d_M_onesOf_1 : decode b_M_onesOf 1 = .ok (.istore_n 3, 1) := by decide +kernel
theorem d_M_onesOf_2 : decode b_M_onesOf 2 = .ok (.iconst 0, 1) := by decide +kernel
theorem d_M_onesOf_3 : decode b_M_onesOf 3 = .ok (.istore 4, 2) := by decide +kernel
theorem d_M_onesOf_5 : decode b_M_onesOf 5 = .ok (.iload 4, 2) := by decide +kernel
theorem d_M_onesOf_7 : decode b_M_onesOf 7 = .ok (.iload_n 2, 1) := by decide +kernel
theorem d_M_onesOf_8 : decode b_M_onesOf 8 = .ok (.if_icmp .ge 19, 3) := by decide +kernel
theorem d_M_onesOf_11 : decode b_M_onesOf 11 = .ok (.iload_n 3, 1) := by decide +kernel
theorem d_M_onesOf_12 : decode b_M_onesOf 12 = .ok (.lload_n 0, 1) := by decide +kernel
theorem d_M_onesOf_13 : decode b_M_onesOf 13 = .ok (.iload 4, 2) := by decide +kernel
theorem d_M_onesOf_15 : decode b_M_onesOf 15 = .ok (.lshr, 1) := by decide +kernel
theorem d_M_onesOf_16 : decode b_M_onesOf 16 = .ok (.lconst 1, 1) := by decide +kernel
theorem d_M_onesOf_17 : decode b_M_onesOf 17 = .ok (.land, 1) := by decide +kernel
theorem d_M_onesOf_18 : decode b_M_onesOf 18 = .ok (.l2i, 1) := by decide +kernel
theorem d_M_onesOf_19 : decode b_M_onesOf 19 = .ok (.iadd, 1) := by decide +kernel
theorem d_M_onesOf_20 : decode b_M_onesOf 20 = .ok (.istore_n 3, 1) := by decide +kernel
theorem d_M_onesOf_21 : decode b_M_onesOf 21 = .ok (.iinc 4 1, 3) := by decide +kernel
theorem d_M_onesOf_24 : decode b_M_onesOf 24 = .ok (.goto (-19), 3) := by decide +kernel
theorem d_M_onesOf_27 : decode b_M_onesOf 27 = .ok (.iload_n 3, 1) := by decide +kernel
theorem d_M_onesOf_28 : decode b_M_onesOf 28 = .ok (.ireturn, 1) := by decide +kernel
theorem d_M_inRing_0 : decode b_M_inRing 0 = .ok (.aload_n 0, 1) := by decide +kernel
theorem d_M_inRing_1 : decode b_M_inRing 1 = .ok (.getfield 20, 3) := by decide +kernel
theorem d_M_inRing_4 : decode b_M_inRing 4 = .ok (.iload_n 1, 1) := by decide +kernel
theorem d_M_inRing_5 : decode b_M_inRing 5 = .ok (.laload, 1) := by decide +kernel
theorem d_M_inRing_6 : decode b_M_inRing 6 = .ok (.aload_n 0, 1) := by decide +kernel
theorem d_M_inRing_7 : decode b_M_inRing 7 = .ok (.getfield 13, 3) := by decide +kernel
theorem d_M_inRing_10 : decode b_M_inRing 10 = .ok (.iload_n 1, 1) := by decide +kernel
theorem d_M_inRing_11 : decode b_M_inRing 11 = .ok (.iaload, 1) := by decide +kernel
theorem d_M_inRing_12 : decode b_M_inRing 12 = .ok (.invokestatic 38, 3) := by decide +kernel
theorem d_M_inRing_15 : decode b_M_inRing 15 = .ok (.ireturn, 1) := by decide +kernel
theorem d_M_settle_0 : decode b_M_settle 0 = .ok (.iconst 1, 1) := by decide +kernel
theorem d_M_settle_1 : decode b_M_settle 1 = .ok (.istore_n 3, 1) := by decide +kernel
theorem d_M_settle_2 : decode b_M_settle 2 = .ok (.iload_n 2, 1) := by decide +kernel
theorem d_M_settle_3 : decode b_M_settle 3 = .ok (.iload_n 3, 1) := by decide +kernel
theorem d_M_settle_4 : decode b_M_settle 4 = .ok (.irem, 1) := by decide +kernel
theorem d_M_settle_5 : decode b_M_settle 5 = .ok (.ifCond .ne 13, 3) := by decide +kernel
theorem d_M_settle_8 : decode b_M_settle 8 = .ok (.aload_n 0, 1) := by decide +kernel
theorem d_M_settle_9 : decode b_M_settle 9 = .ok (.iload_n 1, 1) := by decide +kernel
theorem d_M_settle_10 : decode b_M_settle 10 = .ok (.iload_n 2, 1) := by decide +kernel
theorem d_M_settle_11 : decode b_M_settle 11 = .ok (.iload_n 3, 1) := by decide +kernel
theorem d_M_settle_12 : decode b_M_settle 12 = .ok (.invokevirtual 42, 3) := by decide +kernel
theorem d_M_settle_15 : decode b_M_settle 15 = .ok (.ifCond .ne 9, 3) := by decide +kernel
theorem d_M_settle_18 : decode b_M_settle 18 = .ok (.iinc 3 1, 3) := by decide +kernel
theorem d_M_settle_21 : decode b_M_settle 21 = .ok (.goto (-19), 3) := by decide +kernel
theorem d_M_settle_24 : decode b_M_settle 24 = .ok (.iload_n 1, 1) := by decide +kernel
theorem d_M_settle_25 : decode b_M_settle 25 = .ok (.istore 4, 2) := by decide +kernel
theorem d_M_settle_27 : decode b_M_settle 27 = .ok (.iload 4, 2) := by decide +kernel
theorem d_M_settle_29 : decode b_M_settle 29 = .ok (.ifCond .le 32, 3) := by decide +kernel
theorem d_M_settle_32 : decode b_M_settle 32 = .ok (.aload_n 0, 1) := by decide +kernel
theorem d_M_settle_33 : decode b_M_settle 33 = .ok (.getfield 23, 3) := by decide +kernel
theorem d_M_settle_36 : decode b_M_settle 36 = .ok (.iload 4, 2) := by decide +kernel
theorem d_M_settle_38 : decode b_M_settle 38 = .ok (.iconst 1, 1) := by decide +kernel
theorem d_M_settle_39 : decode b_M_settle 39 = .ok (.isub, 1) := by decide +kernel
theorem d_M_settle_40 : decode b_M_settle 40 = .ok (.baload, 1) := by decide +kernel
theorem d_M_settle_41 : decode b_M_settle 41 = .ok (.aload_n 0, 1) := by decide +kernel
theorem d_M_settle_42 : decode b_M_settle 42 = .ok (.getfield 23, 3) := by decide +kernel
theorem d_M_settle_45 : decode b_M_settle 45 = .ok (.iload 4, 2) := by decide +kernel
theorem d_M_settle_47 : decode b_M_settle 47 = .ok (.iconst 1, 1) := by decide +kernel
theorem d_M_settle_48 : decode b_M_settle 48 = .ok (.isub, 1) := by decide +kernel
theorem d_M_settle_49 : decode b_M_settle 49 = .ok (.iload_n 3, 1) := by decide +kernel
theorem d_M_settle_50 : decode b_M_settle 50 = .ok (.iadd, 1) := by decide +kernel
theorem d_M_settle_51 : decode b_M_settle 51 = .ok (.baload, 1) := by decide +kernel
theorem d_M_settle_52 : decode b_M_settle 52 = .ok (.if_icmp .ne 9, 3) := by decide +kernel
theorem d_M_settle_55 : decode b_M_settle 55 = .ok (.iinc 4 (-1), 3) := by decide +kernel
theorem d_M_settle_58 : decode b_M_settle 58 = .ok (.goto (-31), 3) := by decide +kernel
theorem d_M_settle_61 : decode b_M_settle 61 = .ok (.iload 4, 2) := by decide +kernel
theorem d_M_settle_63 : decode b_M_settle 63 = .ok (.bipush 60, 2) := by decide +kernel
theorem d_M_settle_65 : decode b_M_settle 65 = .ok (.if_icmp .gt 9, 3) := by decide +kernel
theorem d_M_settle_68 : decode b_M_settle 68 = .ok (.iload_n 3, 1) := by decide +kernel
theorem d_M_settle_69 : decode b_M_settle 69 = .ok (.bipush 60, 2) := by decide +kernel
theorem d_M_settle_71 : decode b_M_settle 71 = .ok (.if_icmp .le 5, 3) := by decide +kernel
theorem d_M_settle_74 : decode b_M_settle 74 = .ok (.iconst (-1), 1) := by decide +kernel
theorem d_M_settle_75 : decode b_M_settle 75 = .ok (.ireturn, 1) := by decide +kernel
theorem d_M_settle_76 : decode b_M_settle 76 = .ok (.aload_n 0, 1) := by decide +kernel
theorem d_M_settle_77 : decode b_M_settle 77 = .ok (.getfield 7, 3) := by decide +kernel
theorem d_M_settle_80 : decode b_M_settle 80 = .ok (.aload_n 0, 1) := by decide +kernel
theorem d_M_settle_81 : decode b_M_settle 81 = .ok (.getfield 31, 3) := by decide +kernel
theorem d_M_settle_84 : decode b_M_settle 84 = .ok (.iload 4, 2) := by decide +kernel
theorem d_M_settle_86 : decode b_M_settle 86 = .ok (.iastore, 1) := by decide +kernel
theorem d_M_settle_87 : decode b_M_settle 87 = .ok (.aload_n 0, 1) := by decide +kernel
theorem d_M_settle_88 : decode b_M_settle 88 = .ok (.getfield 13, 3) := by decide +kernel
theorem d_M_settle_91 : decode b_M_settle 91 = .ok (.aload_n 0, 1) := by decide +kernel
theorem d_M_settle_92 : decode b_M_settle 92 = .ok (.getfield 31, 3) := by decide +kernel
theorem d_M_settle_95 : decode b_M_settle 95 = .ok (.iload_n 3, 1) := by decide +kernel
theorem d_M_settle_96 : decode b_M_settle 96 = .ok (.iastore, 1) := by decide +kernel
theorem d_M_settle_97 : decode b_M_settle 97 = .ok (.aload_n 0, 1) := by decide +kernel
theorem d_M_settle_98 : decode b_M_settle 98 = .ok (.getfield 16, 3) := by decide +kernel
theorem d_M_settle_101 : decode b_M_settle 101 = .ok (.aload_n 0, 1) := by decide +kernel
theorem d_M_settle_102 : decode b_M_settle 102 = .ok (.getfield 31, 3) := by decide +kernel
theorem d_M_settle_105 : decode b_M_settle 105 = .ok (.lconst 0, 1) := by decide +kernel
theorem d_M_settle_106 : decode b_M_settle 106 = .ok (.lastore, 1) := by decide +kernel
theorem d_M_settle_107 : decode b_M_settle 107 = .ok (.aload_n 0, 1) := by decide +kernel
theorem d_M_settle_108 : decode b_M_settle 108 = .ok (.getfield 20, 3) := by decide +kernel
theorem d_M_settle_111 : decode b_M_settle 111 = .ok (.aload_n 0, 1) := by decide +kernel
theorem d_M_settle_112 : decode b_M_settle 112 = .ok (.getfield 31, 3) := by decide +kernel
theorem d_M_settle_115 : decode b_M_settle 115 = .ok (.lconst 0, 1) := by decide +kernel
theorem d_M_settle_116 : decode b_M_settle 116 = .ok (.lastore, 1) := by decide +kernel
theorem d_M_settle_117 : decode b_M_settle 117 = .ok (.iconst 0, 1) := by decide +kernel
theorem d_M_settle_118 : decode b_M_settle 118 = .ok (.istore 5, 2) := by decide +kernel
theorem d_M_settle_120 : decode b_M_settle 120 = .ok (.iload 5, 2) := by decide +kernel
theorem d_M_settle_122 : decode b_M_settle 122 = .ok (.iload 4, 2) := by decide +kernel
theorem d_M_settle_124 : decode b_M_settle 124 = .ok (.if_icmp .ge 39, 3) := by decide +kernel
theorem d_M_settle_127 : decode b_M_settle 127 = .ok (.aload_n 0, 1) := by decide +kernel
theorem d_M_settle_128 : decode b_M_settle 128 = .ok (.getfield 16, 3) := by decide +kernel
theorem d_M_settle_131 : decode b_M_settle 131 = .ok (.aload_n 0, 1) := by decide +kernel
theorem d_M_settle_132 : decode b_M_settle 132 = .ok (.getfield 31, 3) := by decide +kernel
theorem d_M_settle_135 : decode b_M_settle 135 = .ok (.dup2, 1) := by decide +kernel
theorem d_M_settle_136 : decode b_M_settle 136 = .ok (.laload, 1) := by decide +kernel
theorem d_M_settle_137 : decode b_M_settle 137 = .ok (.aload_n 0, 1) := by decide +kernel
theorem d_M_settle_138 : decode b_M_settle 138 = .ok (.getfield 23, 3) := by decide +kernel
theorem d_M_settle_141 : decode b_M_settle 141 = .ok (.iload 5, 2) := by decide +kernel
theorem d_M_settle_143 : decode b_M_settle 143 = .ok (.baload, 1) := by decide +kernel
theorem d_M_settle_144 : decode b_M_settle 144 = .ok (.ifCond .eq 10, 3) := by decide +kernel
theorem d_M_settle_147 : decode b_M_settle 147 = .ok (.lconst 1, 1) := by decide +kernel
theorem d_M_settle_148 : decode b_M_settle 148 = .ok (.iload 5, 2) := by decide +kernel
theorem d_M_settle_150 : decode b_M_settle 150 = .ok (.lshl, 1) := by decide +kernel
theorem d_M_settle_151 : decode b_M_settle 151 = .ok (.goto 4, 3) := by decide +kernel
theorem d_M_settle_154 : decode b_M_settle 154 = .ok (.lconst 0, 1) := by decide +kernel
theorem d_M_settle_155 : decode b_M_settle 155 = .ok (.lor, 1) := by decide +kernel
theorem d_M_settle_156 : decode b_M_settle 156 = .ok (.lastore, 1) := by decide +kernel
theorem d_M_settle_157 : decode b_M_settle 157 = .ok (.iinc 5 1, 3) := by decide +kernel
theorem d_M_settle_160 : decode b_M_settle 160 = .ok (.goto (-40), 3) := by decide +kernel
theorem d_M_settle_163 : decode b_M_settle 163 = .ok (.iconst 0, 1) := by decide +kernel
theorem d_M_settle_164 : decode b_M_settle 164 = .ok (.istore 5, 2) := by decide +kernel
theorem d_M_settle_166 : decode b_M_settle 166 = .ok (.iload 5, 2) := by decide +kernel
theorem d_M_settle_168 : decode b_M_settle 168 = .ok (.iload_n 3, 1) := by decide +kernel
theorem d_M_settle_169 : decode b_M_settle 169 = .ok (.if_icmp .ge 42, 3) := by decide +kernel
theorem d_M_settle_172 : decode b_M_settle 172 = .ok (.aload_n 0, 1) := by decide +kernel
theorem d_M_settle_173 : decode b_M_settle 173 = .ok (.getfield 20, 3) := by decide +kernel
theorem d_M_settle_176 : decode b_M_settle 176 = .ok (.aload_n 0, 1) := by decide +kernel
theorem d_M_settle_177 : decode b_M_settle 177 = .ok (.getfield 31, 3) := by decide +kernel
theorem d_M_settle_180 : decode b_M_settle 180 = .ok (.dup2, 1) := by decide +kernel
theorem d_M_settle_181 : decode b_M_settle 181 = .ok (.laload, 1) := by decide +kernel
theorem d_M_settle_182 : decode b_M_settle 182 = .ok (.aload_n 0, 1) := by decide +kernel
theorem d_M_settle_183 : decode b_M_settle 183 = .ok (.getfield 23, 3) := by decide +kernel
theorem d_M_settle_186 : decode b_M_settle 186 = .ok (.iload 4, 2) := by decide +kernel
theorem d_M_settle_188 : decode b_M_settle 188 = .ok (.iload 5, 2) := by decide +kernel
theorem d_M_settle_190 : decode b_M_settle 190 = .ok (.iadd, 1) := by decide +kernel
theorem d_M_settle_191 : decode b_M_settle 191 = .ok (.baload, 1) := by decide +kernel
theorem d_M_settle_192 : decode b_M_settle 192 = .ok (.ifCond .eq 10, 3) := by decide +kernel
theorem d_M_settle_195 : decode b_M_settle 195 = .ok (.lconst 1, 1) := by decide +kernel
theorem d_M_settle_196 : decode b_M_settle 196 = .ok (.iload 5, 2) := by decide +kernel
theorem d_M_settle_198 : decode b_M_settle 198 = .ok (.lshl, 1) := by decide +kernel
theorem d_M_settle_199 : decode b_M_settle 199 = .ok (.goto 4, 3) := by decide +kernel
theorem d_M_settle_202 : decode b_M_settle 202 = .ok (.lconst 0, 1) := by decide +kernel
theorem d_M_settle_203 : decode b_M_settle 203 = .ok (.lor, 1) := by decide +kernel
theorem d_M_settle_204 : decode b_M_settle 204 = .ok (.lastore, 1) := by decide +kernel
theorem d_M_settle_205 : decode b_M_settle 205 = .ok (.iinc 5 1, 3) := by decide +kernel
theorem d_M_settle_208 : decode b_M_settle 208 = .ok (.goto (-42), 3) := by decide +kernel
theorem d_M_settle_211 : decode b_M_settle 211 = .ok (.aload_n 0, 1) := by decide +kernel
theorem d_M_settle_212 : decode b_M_settle 212 = .ok (.dup, 1) := by decide +kernel
theorem d_M_settle_213 : decode b_M_settle 213 = .ok (.getfield 31, 3) := by decide +kernel
theorem d_M_settle_216 : decode b_M_settle 216 = .ok (.iconst 1, 1) := by decide +kernel
theorem d_M_settle_217 : decode b_M_settle 217 = .ok (.iadd, 1) := by decide +kernel
theorem d_M_settle_218 : decode b_M_settle 218 = .ok (.putfield 31, 3) := by decide +kernel
theorem d_M_settle_221 : decode b_M_settle 221 = .ok (.aload_n 0, 1) := by decide +kernel
theorem d_M_settle_222 : decode b_M_settle 222 = .ok (.getfield 31, 3) := by decide +kernel
theorem d_M_settle_225 : decode b_M_settle 225 = .ok (.iconst 1, 1) := by decide +kernel
theorem d_M_settle_226 : decode b_M_settle 226 = .ok (.isub, 1) := by decide +kernel
theorem d_M_settle_227 : decode b_M_settle 227 = .ok (.ireturn, 1) := by decide +kernel
theorem d_M_comesBack_0 : decode b_M_comesBack 0 = .ok (.iconst 0, 1) := by decide +kernel
theorem d_M_comesBack_1 : decode b_M_comesBack 1 = .ok (.istore 4, 2) := by decide +kernel
theorem d_M_comesBack_3 : decode b_M_comesBack 3 = .ok (.iload 4, 2) := by decide +kernel
theorem d_M_comesBack_5 : decode b_M_comesBack 5 = .ok (.iload_n 3, 1) := by decide +kernel
theorem d_M_comesBack_6 : decode b_M_comesBack 6 = .ok (.iadd, 1) := by decide +kernel
theorem d_M_comesBack_7 : decode b_M_comesBack 7 = .ok (.iload_n 2, 1) := by decide +kernel
theorem d_M_comesBack_8 : decode b_M_comesBack 8 = .ok (.if_icmp .ge 34, 3) := by decide +kernel
theorem d_M_comesBack_11 : decode b_M_comesBack 11 = .ok (.aload_n 0, 1) := by decide +kernel
theorem d_M_comesBack_12 : decode b_M_comesBack 12 = .ok (.getfield 23, 3) := by decide +kernel
theorem d_M_comesBack_15 : decode b_M_comesBack 15 = .ok (.iload_n 1, 1) := by decide +kernel
theorem d_M_comesBack_16 : decode b_M_comesBack 16 = .ok (.iload 4, 2) := by decide +kernel
theorem d_M_comesBack_18 : decode b_M_comesBack 18 = .ok (.iadd, 1) := by decide +kernel
theorem d_M_comesBack_19 : decode b_M_comesBack 19 = .ok (.baload, 1) := by decide +kernel
theorem d_M_comesBack_20 : decode b_M_comesBack 20 = .ok (.aload_n 0, 1) := by decide +kernel
theorem d_M_comesBack_21 : decode b_M_comesBack 21 = .ok (.getfield 23, 3) := by decide +kernel
theorem d_M_comesBack_24 : decode b_M_comesBack 24 = .ok (.iload_n 1, 1) := by decide +kernel
theorem d_M_comesBack_25 : decode b_M_comesBack 25 = .ok (.iload 4, 2) := by decide +kernel
theorem d_M_comesBack_27 : decode b_M_comesBack 27 = .ok (.iadd, 1) := by decide +kernel
theorem d_M_comesBack_28 : decode b_M_comesBack 28 = .ok (.iload_n 3, 1) := by decide +kernel
theorem d_M_comesBack_29 : decode b_M_comesBack 29 = .ok (.iadd, 1) := by decide +kernel
theorem d_M_comesBack_30 : decode b_M_comesBack 30 = .ok (.baload, 1) := by decide +kernel
theorem d_M_comesBack_31 : decode b_M_comesBack 31 = .ok (.if_icmp .eq 5, 3) := by decide +kernel
theorem d_M_comesBack_34 : decode b_M_comesBack 34 = .ok (.iconst 0, 1) := by decide +kernel
theorem d_M_comesBack_35 : decode b_M_comesBack 35 = .ok (.ireturn, 1) := by decide +kernel
theorem d_M_comesBack_36 : decode b_M_comesBack 36 = .ok (.iinc 4 1, 3) := by decide +kernel
theorem d_M_comesBack_39 : decode b_M_comesBack 39 = .ok (.goto (-36), 3) := by decide +kernel
theorem d_M_comesBack_42 : decode b_M_comesBack 42 = .ok (.iconst 1, 1) := by decide +kernel
theorem d_M_comesBack_43 : decode b_M_comesBack 43 = .ok (.ireturn, 1) := by decide +kernel
theorem d_M_word_0 : decode b_M_word 0 = .ok (.aload_n 0, 1) := by decide +kernel
theorem d_M_word_1 : decode b_M_word 1 = .ok (.iconst 0, 1) := by decide +kernel
theorem d_M_word_2 : decode b_M_word 2 = .ok (.putfield 27, 3) := by decide +kernel
theorem d_M_word_5 : decode b_M_word 5 = .ok (.iload_n 1, 1) := by decide +kernel
theorem d_M_word_6 : decode b_M_word 6 = .ok (.iconst 0, 1) := by decide +kernel
theorem d_M_word_7 : decode b_M_word 7 = .ok (.bipush 30, 2) := by decide +kernel
theorem d_M_word_9 : decode b_M_word 9 = .ok (.invokestatic 34, 3) := by decide +kernel
theorem d_M_word_12 : decode b_M_word 12 = .ok (.ifCond .eq 22, 3) := by decide +kernel
theorem d_M_word_15 : decode b_M_word 15 = .ok (.iload_n 3, 1) := by decide +kernel
theorem d_M_word_16 : decode b_M_word 16 = .ok (.iconst 1, 1) := by decide +kernel
theorem d_M_word_17 : decode b_M_word 17 = .ok (.bipush 30, 2) := by decide +kernel
theorem d_M_word_19 : decode b_M_word 19 = .ok (.invokestatic 34, 3) := by decide +kernel
theorem d_M_word_22 : decode b_M_word 22 = .ok (.ifCond .eq 12, 3) := by decide +kernel
theorem d_M_word_25 : decode b_M_word 25 = .ok (.aload_n 0, 1) := by decide +kernel
theorem d_M_word_26 : decode b_M_word 26 = .ok (.getfield 31, 3) := by decide +kernel
theorem d_M_word_29 : decode b_M_word 29 = .ok (.bipush 40, 2) := by decide +kernel
theorem d_M_word_31 : decode b_M_word 31 = .ok (.if_icmp .ne 5, 3) := by decide +kernel
theorem d_M_word_34 : decode b_M_word 34 = .ok (.iconst (-1), 1) := by decide +kernel
theorem d_M_word_35 : decode b_M_word 35 = .ok (.ireturn, 1) := by decide +kernel
theorem d_M_word_36 : decode b_M_word 36 = .ok (.iconst 0, 1) := by decide +kernel
theorem d_M_word_37 : decode b_M_word 37 = .ok (.istore 5, 2) := by decide +kernel
theorem d_M_word_39 : decode b_M_word 39 = .ok (.iload 5, 2) := by decide +kernel
theorem d_M_word_41 : decode b_M_word 41 = .ok (.iload_n 1, 1) := by decide +kernel
theorem d_M_word_42 : decode b_M_word 42 = .ok (.if_icmp .ge 31, 3) := by decide +kernel
theorem d_M_word_45 : decode b_M_word 45 = .ok (.aload_n 0, 1) := by decide +kernel
theorem d_M_word_46 : decode b_M_word 46 = .ok (.getfield 23, 3) := by decide +kernel
theorem d_M_word_49 : decode b_M_word 49 = .ok (.iload 5, 2) := by decide +kernel
theorem d_M_word_51 : decode b_M_word 51 = .ok (.iload_n 2, 1) := by decide +kernel
theorem d_M_word_52 : decode b_M_word 52 = .ok (.iload 5, 2) := by decide +kernel
theorem d_M_word_54 : decode b_M_word 54 = .ok (.ishr, 1) := by decide +kernel
theorem d_M_word_55 : decode b_M_word 55 = .ok (.iconst 1, 1) := by decide +kernel
theorem d_M_word_56 : decode b_M_word 56 = .ok (.iand, 1) := by decide +kernel
theorem d_M_word_57 : decode b_M_word 57 = .ok (.iconst 1, 1) := by decide +kernel
theorem d_M_word_58 : decode b_M_word 58 = .ok (.if_icmp .ne 7, 3) := by decide +kernel
theorem d_M_word_61 : decode b_M_word 61 = .ok (.iconst 1, 1) := by decide +kernel
theorem d_M_word_62 : decode b_M_word 62 = .ok (.goto 4, 3) := by decide +kernel
theorem d_M_word_65 : decode b_M_word 65 = .ok (.iconst 0, 1) := by decide +kernel
theorem d_M_word_66 : decode b_M_word 66 = .ok (.bastore, 1) := by decide +kernel
theorem d_M_word_67 : decode b_M_word 67 = .ok (.iinc 5 1, 3) := by decide +kernel
theorem d_M_word_70 : decode b_M_word 70 = .ok (.goto (-31), 3) := by decide +kernel
theorem d_M_word_73 : decode b_M_word 73 = .ok (.iconst 0, 1) := by decide +kernel
theorem d_M_word_74 : decode b_M_word 74 = .ok (.istore 5, 2) := by decide +kernel
theorem d_M_word_76 : decode b_M_word 76 = .ok (.iload 5, 2) := by decide +kernel
theorem d_M_word_78 : decode b_M_word 78 = .ok (.iload_n 3, 1) := by decide +kernel
theorem d_M_word_79 : decode b_M_word 79 = .ok (.if_icmp .ge 34, 3) := by decide +kernel
theorem d_M_word_82 : decode b_M_word 82 = .ok (.aload_n 0, 1) := by decide +kernel
theorem d_M_word_83 : decode b_M_word 83 = .ok (.getfield 23, 3) := by decide +kernel
theorem d_M_word_86 : decode b_M_word 86 = .ok (.iload_n 1, 1) := by decide +kernel
theorem d_M_word_87 : decode b_M_word 87 = .ok (.iload 5, 2) := by decide +kernel
theorem d_M_word_89 : decode b_M_word 89 = .ok (.iadd, 1) := by decide +kernel
theorem d_M_word_90 : decode b_M_word 90 = .ok (.iload 4, 2) := by decide +kernel
theorem d_M_word_92 : decode b_M_word 92 = .ok (.iload 5, 2) := by decide +kernel
theorem d_M_word_94 : decode b_M_word 94 = .ok (.ishr, 1) := by decide +kernel
theorem d_M_word_95 : decode b_M_word 95 = .ok (.iconst 1, 1) := by decide +kernel
theorem d_M_word_96 : decode b_M_word 96 = .ok (.iand, 1) := by decide +kernel
theorem d_M_word_97 : decode b_M_word 97 = .ok (.iconst 1, 1) := by decide +kernel
theorem d_M_word_98 : decode b_M_word 98 = .ok (.if_icmp .ne 7, 3) := by decide +kernel
theorem d_M_word_101 : decode b_M_word 101 = .ok (.iconst 1, 1) := by decide +kernel
theorem d_M_word_102 : decode b_M_word 102 = .ok (.goto 4, 3) := by decide +kernel
theorem d_M_word_105 : decode b_M_word 105 = .ok (.iconst 0, 1) := by decide +kernel
theorem d_M_word_106 : decode b_M_word 106 = .ok (.bastore, 1) := by decide +kernel
theorem d_M_word_107 : decode b_M_word 107 = .ok (.iinc 5 1, 3) := by decide +kernel
theorem d_M_word_110 : decode b_M_word 110 = .ok (.goto (-34), 3) := by decide +kernel
theorem d_M_word_113 : decode b_M_word 113 = .ok (.aload_n 0, 1) := by decide +kernel
theorem d_M_word_114 : decode b_M_word 114 = .ok (.iload_n 1, 1) := by decide +kernel
theorem d_M_word_115 : decode b_M_word 115 = .ok (.iload_n 3, 1) := by decide +kernel
theorem d_M_word_116 : decode b_M_word 116 = .ok (.invokevirtual 45, 3) := by decide +kernel
theorem d_M_word_119 : decode b_M_word 119 = .ok (.ireturn, 1) := by decide +kernel
theorem d_M_greater_0 : decode b_M_greater 0 = .ok (.iload_n 0, 1) := by decide +kernel
theorem d_M_greater_1 : decode b_M_greater 1 = .ok (.iload_n 1, 1) := by decide +kernel
theorem d_M_greater_2 : decode b_M_greater 2 = .ok (.if_icmp .le 7, 3) := by decide +kernel
theorem d_M_greater_5 : decode b_M_greater 5 = .ok (.iload_n 0, 1) := by decide +kernel
theorem d_M_greater_6 : decode b_M_greater 6 = .ok (.goto 4, 3) := by decide +kernel
theorem d_M_greater_9 : decode b_M_greater 9 = .ok (.iload_n 1, 1) := by decide +kernel
theorem d_M_greater_10 : decode b_M_greater 10 = .ok (.ireturn, 1) := by decide +kernel
theorem d_M_joined_0 : decode b_M_joined 0 = .ok (.aload_n 0, 1) := by decide +kernel
theorem d_M_joined_1 : decode b_M_joined 1 = .ok (.getfield 7, 3) := by decide +kernel
theorem d_M_joined_4 : decode b_M_joined 4 = .ok (.iload_n 2, 1) := by decide +kernel
theorem d_M_joined_5 : decode b_M_joined 5 = .ok (.iaload, 1) := by decide +kernel
theorem d_M_joined_6 : decode b_M_joined 6 = .ok (.aload_n 0, 1) := by decide +kernel
theorem d_M_joined_7 : decode b_M_joined 7 = .ok (.getfield 7, 3) := by decide +kernel
theorem d_M_joined_10 : decode b_M_joined 10 = .ok (.iload_n 3, 1) := by decide +kernel
theorem d_M_joined_11 : decode b_M_joined 11 = .ok (.iaload, 1) := by decide +kernel
theorem d_M_joined_12 : decode b_M_joined 12 = .ok (.invokestatic 49, 3) := by decide +kernel
theorem d_M_joined_15 : decode b_M_joined 15 = .ok (.istore 4, 2) := by decide +kernel
theorem d_M_joined_17 : decode b_M_joined 17 = .ok (.aload_n 0, 1) := by decide +kernel
theorem d_M_joined_18 : decode b_M_joined 18 = .ok (.getfield 13, 3) := by decide +kernel
theorem d_M_joined_21 : decode b_M_joined 21 = .ok (.iload_n 2, 1) := by decide +kernel
theorem d_M_joined_22 : decode b_M_joined 22 = .ok (.iaload, 1) := by decide +kernel
theorem d_M_joined_23 : decode b_M_joined 23 = .ok (.aload_n 0, 1) := by decide +kernel
theorem d_M_joined_24 : decode b_M_joined 24 = .ok (.getfield 13, 3) := by decide +kernel
theorem d_M_joined_27 : decode b_M_joined 27 = .ok (.iload_n 3, 1) := by decide +kernel
theorem d_M_joined_28 : decode b_M_joined 28 = .ok (.iaload, 1) := by decide +kernel
theorem d_M_joined_29 : decode b_M_joined 29 = .ok (.imul, 1) := by decide +kernel
theorem d_M_joined_30 : decode b_M_joined 30 = .ok (.istore 5, 2) := by decide +kernel
theorem d_M_joined_32 : decode b_M_joined 32 = .ok (.iconst 0, 1) := by decide +kernel
theorem d_M_joined_33 : decode b_M_joined 33 = .ok (.istore 6, 2) := by decide +kernel
theorem d_M_joined_35 : decode b_M_joined 35 = .ok (.iload 6, 2) := by decide +kernel
theorem d_M_joined_37 : decode b_M_joined 37 = .ok (.iload 4, 2) := by decide +kernel
theorem d_M_joined_39 : decode b_M_joined 39 = .ok (.iload 5, 2) := by decide +kernel
theorem d_M_joined_41 : decode b_M_joined 41 = .ok (.iadd, 1) := by decide +kernel
theorem d_M_joined_42 : decode b_M_joined 42 = .ok (.if_icmp .ge 103, 3) := by decide +kernel
theorem d_M_joined_45 : decode b_M_joined 45 = .ok (.aload_n 0, 1) := by decide +kernel
theorem d_M_joined_46 : decode b_M_joined 46 = .ok (.getfield 23, 3) := by decide +kernel
theorem d_M_joined_49 : decode b_M_joined 49 = .ok (.iload 6, 2) := by decide +kernel
theorem d_M_joined_51 : decode b_M_joined 51 = .ok (.iload_n 1, 1) := by decide +kernel
theorem d_M_joined_52 : decode b_M_joined 52 = .ok (.ifCond .ne 31, 3) := by decide +kernel
theorem d_M_joined_55 : decode b_M_joined 55 = .ok (.aload_n 0, 1) := by decide +kernel
theorem d_M_joined_56 : decode b_M_joined 56 = .ok (.iload_n 2, 1) := by decide +kernel
theorem d_M_joined_57 : decode b_M_joined 57 = .ok (.iload 6, 2) := by decide +kernel
theorem d_M_joined_59 : decode b_M_joined 59 = .ok (.invokevirtual 52, 3) := by decide +kernel
theorem d_M_joined_62 : decode b_M_joined 62 = .ok (.ifCond .eq 17, 3) := by decide +kernel
theorem d_M_joined_65 : decode b_M_joined 65 = .ok (.aload_n 0, 1) := by decide +kernel
theorem d_M_joined_66 : decode b_M_joined 66 = .ok (.iload_n 3, 1) := by decide +kernel
theorem d_M_joined_67 : decode b_M_joined 67 = .ok (.iload 6, 2) := by decide +kernel
theorem d_M_joined_69 : decode b_M_joined 69 = .ok (.invokevirtual 52, 3) := by decide +kernel
theorem d_M_joined_72 : decode b_M_joined 72 = .ok (.ifCond .eq 7, 3) := by decide +kernel
theorem d_M_joined_75 : decode b_M_joined 75 = .ok (.iconst 1, 1) := by decide +kernel
theorem d_M_joined_76 : decode b_M_joined 76 = .ok (.goto 62, 3) := by decide +kernel
theorem d_M_joined_79 : decode b_M_joined 79 = .ok (.iconst 0, 1) := by decide +kernel
theorem d_M_joined_80 : decode b_M_joined 80 = .ok (.goto 58, 3) := by decide +kernel
theorem d_M_joined_83 : decode b_M_joined 83 = .ok (.iload_n 1, 1) := by decide +kernel
theorem d_M_joined_84 : decode b_M_joined 84 = .ok (.iconst 1, 1) := by decide +kernel
theorem d_M_joined_85 : decode b_M_joined 85 = .ok (.if_icmp .ne 31, 3) := by decide +kernel
theorem d_M_joined_88 : decode b_M_joined 88 = .ok (.aload_n 0, 1) := by decide +kernel
theorem d_M_joined_89 : decode b_M_joined 89 = .ok (.iload_n 2, 1) := by decide +kernel
theorem d_M_joined_90 : decode b_M_joined 90 = .ok (.iload 6, 2) := by decide +kernel
theorem d_M_joined_92 : decode b_M_joined 92 = .ok (.invokevirtual 52, 3) := by decide +kernel
theorem d_M_joined_95 : decode b_M_joined 95 = .ok (.ifCond .ne 13, 3) := by decide +kernel
theorem d_M_joined_98 : decode b_M_joined 98 = .ok (.aload_n 0, 1) := by decide +kernel
theorem d_M_joined_99 : decode b_M_joined 99 = .ok (.iload_n 3, 1) := by decide +kernel
theorem d_M_joined_100 : decode b_M_joined 100 = .ok (.iload 6, 2) := by decide +kernel
theorem d_M_joined_102 : decode b_M_joined 102 = .ok (.invokevirtual 52, 3) := by decide +kernel
theorem d_M_joined_105 : decode b_M_joined 105 = .ok (.ifCond .eq 7, 3) := by decide +kernel
theorem d_M_joined_108 : decode b_M_joined 108 = .ok (.iconst 1, 1) := by decide +kernel
theorem d_M_joined_109 : decode b_M_joined 109 = .ok (.goto 29, 3) := by decide +kernel
theorem d_M_joined_112 : decode b_M_joined 112 = .ok (.iconst 0, 1) := by decide +kernel
theorem d_M_joined_113 : decode b_M_joined 113 = .ok (.goto 25, 3) := by decide +kernel
theorem d_M_joined_116 : decode b_M_joined 116 = .ok (.aload_n 0, 1) := by decide +kernel
theorem d_M_joined_117 : decode b_M_joined 117 = .ok (.iload_n 2, 1) := by decide +kernel
theorem d_M_joined_118 : decode b_M_joined 118 = .ok (.iload 6, 2) := by decide +kernel
theorem d_M_joined_120 : decode b_M_joined 120 = .ok (.invokevirtual 52, 3) := by decide +kernel
theorem d_M_joined_123 : decode b_M_joined 123 = .ok (.aload_n 0, 1) := by decide +kernel
theorem d_M_joined_124 : decode b_M_joined 124 = .ok (.iload_n 3, 1) := by decide +kernel
theorem d_M_joined_125 : decode b_M_joined 125 = .ok (.iload 6, 2) := by decide +kernel
theorem d_M_joined_127 : decode b_M_joined 127 = .ok (.invokevirtual 52, 3) := by decide +kernel
theorem d_M_joined_130 : decode b_M_joined 130 = .ok (.if_icmp .eq 7, 3) := by decide +kernel
theorem d_M_joined_133 : decode b_M_joined 133 = .ok (.iconst 1, 1) := by decide +kernel
theorem d_M_joined_134 : decode b_M_joined 134 = .ok (.goto 4, 3) := by decide +kernel
theorem d_M_joined_137 : decode b_M_joined 137 = .ok (.iconst 0, 1) := by decide +kernel
theorem d_M_joined_138 : decode b_M_joined 138 = .ok (.bastore, 1) := by decide +kernel
theorem d_M_joined_139 : decode b_M_joined 139 = .ok (.iinc 6 1, 3) := by decide +kernel
theorem d_M_joined_142 : decode b_M_joined 142 = .ok (.goto (-107), 3) := by decide +kernel
theorem d_M_joined_145 : decode b_M_joined 145 = .ok (.aload_n 0, 1) := by decide +kernel
theorem d_M_joined_146 : decode b_M_joined 146 = .ok (.iload 4, 2) := by decide +kernel
theorem d_M_joined_148 : decode b_M_joined 148 = .ok (.iload 5, 2) := by decide +kernel
theorem d_M_joined_150 : decode b_M_joined 150 = .ok (.invokevirtual 45, 3) := by decide +kernel
theorem d_M_joined_153 : decode b_M_joined 153 = .ok (.ireturn, 1) := by decide +kernel
theorem d_M_opposite_0 : decode b_M_opposite 0 = .ok (.iconst 0, 1) := by decide +kernel
theorem d_M_opposite_1 : decode b_M_opposite 1 = .ok (.istore_n 2, 1) := by decide +kernel
theorem d_M_opposite_2 : decode b_M_opposite 2 = .ok (.iload_n 2, 1) := by decide +kernel
theorem d_M_opposite_3 : decode b_M_opposite 3 = .ok (.aload_n 0, 1) := by decide +kernel
theorem d_M_opposite_4 : decode b_M_opposite 4 = .ok (.getfield 7, 3) := by decide +kernel
theorem d_M_opposite_7 : decode b_M_opposite 7 = .ok (.iload_n 1, 1) := by decide +kernel
theorem d_M_opposite_8 : decode b_M_opposite 8 = .ok (.iaload, 1) := by decide +kernel
theorem d_M_opposite_9 : decode b_M_opposite 9 = .ok (.aload_n 0, 1) := by decide +kernel
theorem d_M_opposite_10 : decode b_M_opposite 10 = .ok (.getfield 13, 3) := by decide +kernel
theorem d_M_opposite_13 : decode b_M_opposite 13 = .ok (.iload_n 1, 1) := by decide +kernel
theorem d_M_opposite_14 : decode b_M_opposite 14 = .ok (.iaload, 1) := by decide +kernel
theorem d_M_opposite_15 : decode b_M_opposite 15 = .ok (.iadd, 1) := by decide +kernel
theorem d_M_opposite_16 : decode b_M_opposite 16 = .ok (.if_icmp .ge 29, 3) := by decide +kernel
theorem d_M_opposite_19 : decode b_M_opposite 19 = .ok (.aload_n 0, 1) := by decide +kernel
theorem d_M_opposite_20 : decode b_M_opposite 20 = .ok (.getfield 23, 3) := by decide +kernel
theorem d_M_opposite_23 : decode b_M_opposite 23 = .ok (.iload_n 2, 1) := by decide +kernel
theorem d_M_opposite_24 : decode b_M_opposite 24 = .ok (.aload_n 0, 1) := by decide +kernel
theorem d_M_opposite_25 : decode b_M_opposite 25 = .ok (.iload_n 1, 1) := by decide +kernel
theorem d_M_opposite_26 : decode b_M_opposite 26 = .ok (.iload_n 2, 1) := by decide +kernel
theorem d_M_opposite_27 : decode b_M_opposite 27 = .ok (.invokevirtual 52, 3) := by decide +kernel
theorem d_M_opposite_30 : decode b_M_opposite 30 = .ok (.ifCond .ne 7, 3) := by decide +kernel
theorem d_M_opposite_33 : decode b_M_opposite 33 = .ok (.iconst 1, 1) := by decide +kernel
theorem d_M_opposite_34 : decode b_M_opposite 34 = .ok (.goto 4, 3) := by decide +kernel
theorem d_M_opposite_37 : decode b_M_opposite 37 = .ok (.iconst 0, 1) := by decide +kernel
theorem d_M_opposite_38 : decode b_M_opposite 38 = .ok (.bastore, 1) := by decide +kernel
theorem d_M_opposite_39 : decode b_M_opposite 39 = .ok (.iinc 2 1, 3) := by decide +kernel
theorem d_M_opposite_42 : decode b_M_opposite 42 = .ok (.goto (-40), 3) := by decide +kernel
theorem d_M_opposite_45 : decode b_M_opposite 45 = .ok (.aload_n 0, 1) := by decide +kernel
theorem d_M_opposite_46 : decode b_M_opposite 46 = .ok (.aload_n 0, 1) := by decide +kernel
theorem d_M_opposite_47 : decode b_M_opposite 47 = .ok (.getfield 7, 3) := by decide +kernel
theorem d_M_opposite_50 : decode b_M_opposite 50 = .ok (.iload_n 1, 1) := by decide +kernel
theorem d_M_opposite_51 : decode b_M_opposite 51 = .ok (.iaload, 1) := by decide +kernel
theorem d_M_opposite_52 : decode b_M_opposite 52 = .ok (.aload_n 0, 1) := by decide +kernel
theorem d_M_opposite_53 : decode b_M_opposite 53 = .ok (.getfield 13, 3) := by decide +kernel
theorem d_M_opposite_56 : decode b_M_opposite 56 = .ok (.iload_n 1, 1) := by decide +kernel
end
section
theorem d_M_opposite_57 : decode b_M_opposite 57 = .ok (.iaload, 1) := by decide +kernel
theorem d_M_opposite_58 : decode b_M_opposite 58 = .ok (.invokevirtual 45, 3) := by decide +kernel
theorem d_M_opposite_61 : decode b_M_opposite 61 = .ok (.ireturn, 1) := by decide +kernel
theorem d_M_on_0 : decode b_M_on 0 = .ok (.aload_n 0, 1) := by decide +kernel
theorem d_M_on_1 : decode b_M_on 1 = .ok (.iload_n 1, 1) := by decide +kernel
theorem d_M_on_2 : decode b_M_on 2 = .ok (.invokevirtual 56, 3) := by decide +kernel
theorem d_M_on_5 : decode b_M_on 5 = .ok (.ifCond .ne 7, 3) := by decide +kernel
theorem d_M_on_8 : decode b_M_on 8 = .ok (.iconst 1, 1) := by decide +kernel
theorem d_M_on_9 : decode b_M_on 9 = .ok (.goto 4, 3) := by decide +kernel
theorem d_M_on_12 : decode b_M_on 12 = .ok (.iconst 0, 1) := by decide +kernel
theorem d_M_on_13 : decode b_M_on 13 = .ok (.istore_n 3, 1) := by decide +kernel
theorem d_M_on_14 : decode b_M_on 14 = .ok (.aload_n 0, 1) := by decide +kernel
theorem d_M_on_15 : decode b_M_on 15 = .ok (.getfield 7, 3) := by decide +kernel
theorem d_M_on_18 : decode b_M_on 18 = .ok (.iload_n 1, 1) := by decide +kernel
theorem d_M_on_19 : decode b_M_on 19 = .ok (.iaload, 1) := by decide +kernel
theorem d_M_on_20 : decode b_M_on 20 = .ok (.iload_n 3, 1) := by decide +kernel
theorem d_M_on_21 : decode b_M_on 21 = .ok (.ifCond .eq 7, 3) := by decide +kernel
theorem d_M_on_24 : decode b_M_on 24 = .ok (.iconst 0, 1) := by decide +kernel
theorem d_M_on_25 : decode b_M_on 25 = .ok (.goto 12, 3) := by decide +kernel
theorem d_M_on_28 : decode b_M_on 28 = .ok (.bipush 60, 2) := by decide +kernel
theorem d_M_on_30 : decode b_M_on 30 = .ok (.aload_n 0, 1) := by decide +kernel
theorem d_M_on_31 : decode b_M_on 31 = .ok (.getfield 13, 3) := by decide +kernel
theorem d_M_on_34 : decode b_M_on 34 = .ok (.iload_n 1, 1) := by decide +kernel
theorem d_M_on_35 : decode b_M_on 35 = .ok (.iaload, 1) := by decide +kernel
theorem d_M_on_36 : decode b_M_on 36 = .ok (.imul, 1) := by decide +kernel
theorem d_M_on_37 : decode b_M_on 37 = .ok (.iadd, 1) := by decide +kernel
theorem d_M_on_38 : decode b_M_on 38 = .ok (.istore 4, 2) := by decide +kernel
theorem d_M_on_40 : decode b_M_on 40 = .ok (.iload_n 3, 1) := by decide +kernel
theorem d_M_on_41 : decode b_M_on 41 = .ok (.ifCond .eq 7, 3) := by decide +kernel
theorem d_M_on_44 : decode b_M_on 44 = .ok (.iconst 1, 1) := by decide +kernel
theorem d_M_on_45 : decode b_M_on 45 = .ok (.goto 16, 3) := by decide +kernel
theorem d_M_on_48 : decode b_M_on 48 = .ok (.aload_n 0, 1) := by decide +kernel
theorem d_M_on_49 : decode b_M_on 49 = .ok (.getfield 13, 3) := by decide +kernel
theorem d_M_on_52 : decode b_M_on 52 = .ok (.iload_n 1, 1) := by decide +kernel
theorem d_M_on_53 : decode b_M_on 53 = .ok (.iaload, 1) := by decide +kernel
theorem d_M_on_54 : decode b_M_on 54 = .ok (.aload_n 0, 1) := by decide +kernel
theorem d_M_on_55 : decode b_M_on 55 = .ok (.getfield 13, 3) := by decide +kernel
theorem d_M_on_58 : decode b_M_on 58 = .ok (.iload_n 2, 1) := by decide +kernel
theorem d_M_on_59 : decode b_M_on 59 = .ok (.iaload, 1) := by decide +kernel
theorem d_M_on_60 : decode b_M_on 60 = .ok (.imul, 1) := by decide +kernel
theorem d_M_on_61 : decode b_M_on 61 = .ok (.istore 5, 2) := by decide +kernel
theorem d_M_on_63 : decode b_M_on 63 = .ok (.iconst 0, 1) := by decide +kernel
theorem d_M_on_64 : decode b_M_on 64 = .ok (.istore 6, 2) := by decide +kernel
theorem d_M_on_66 : decode b_M_on 66 = .ok (.iconst 0, 1) := by decide +kernel
theorem d_M_on_67 : decode b_M_on 67 = .ok (.istore 7, 2) := by decide +kernel
theorem d_M_on_69 : decode b_M_on 69 = .ok (.iload 7, 2) := by decide +kernel
theorem d_M_on_71 : decode b_M_on 71 = .ok (.iload 4, 2) := by decide +kernel
theorem d_M_on_73 : decode b_M_on 73 = .ok (.iload 5, 2) := by decide +kernel
theorem d_M_on_75 : decode b_M_on 75 = .ok (.iadd, 1) := by decide +kernel
theorem d_M_on_76 : decode b_M_on 76 = .ok (.if_icmp .ge 61, 3) := by decide +kernel
theorem d_M_on_79 : decode b_M_on 79 = .ok (.aload_n 0, 1) := by decide +kernel
theorem d_M_on_80 : decode b_M_on 80 = .ok (.getfield 23, 3) := by decide +kernel
theorem d_M_on_83 : decode b_M_on 83 = .ok (.iload 7, 2) := by decide +kernel
theorem d_M_on_85 : decode b_M_on 85 = .ok (.aload_n 0, 1) := by decide +kernel
theorem d_M_on_86 : decode b_M_on 86 = .ok (.iload_n 1, 1) := by decide +kernel
theorem d_M_on_87 : decode b_M_on 87 = .ok (.iload 7, 2) := by decide +kernel
theorem d_M_on_89 : decode b_M_on 89 = .ok (.invokevirtual 52, 3) := by decide +kernel
theorem d_M_on_92 : decode b_M_on 92 = .ok (.ifCond .eq 17, 3) := by decide +kernel
theorem d_M_on_95 : decode b_M_on 95 = .ok (.aload_n 0, 1) := by decide +kernel
theorem d_M_on_96 : decode b_M_on 96 = .ok (.iload_n 2, 1) := by decide +kernel
theorem d_M_on_97 : decode b_M_on 97 = .ok (.iload 6, 2) := by decide +kernel
theorem d_M_on_99 : decode b_M_on 99 = .ok (.invokevirtual 52, 3) := by decide +kernel
theorem d_M_on_102 : decode b_M_on 102 = .ok (.ifCond .eq 7, 3) := by decide +kernel
theorem d_M_on_105 : decode b_M_on 105 = .ok (.iconst 1, 1) := by decide +kernel
theorem d_M_on_106 : decode b_M_on 106 = .ok (.goto 4, 3) := by decide +kernel
theorem d_M_on_109 : decode b_M_on 109 = .ok (.iconst 0, 1) := by decide +kernel
theorem d_M_on_110 : decode b_M_on 110 = .ok (.bastore, 1) := by decide +kernel
theorem d_M_on_111 : decode b_M_on 111 = .ok (.iload 6, 2) := by decide +kernel
theorem d_M_on_113 : decode b_M_on 113 = .ok (.aload_n 0, 1) := by decide +kernel
theorem d_M_on_114 : decode b_M_on 114 = .ok (.iload_n 1, 1) := by decide +kernel
theorem d_M_on_115 : decode b_M_on 115 = .ok (.iload 7, 2) := by decide +kernel
theorem d_M_on_117 : decode b_M_on 117 = .ok (.invokevirtual 52, 3) := by decide +kernel
theorem d_M_on_120 : decode b_M_on 120 = .ok (.ifCond .eq 7, 3) := by decide +kernel
theorem d_M_on_123 : decode b_M_on 123 = .ok (.iconst 1, 1) := by decide +kernel
theorem d_M_on_124 : decode b_M_on 124 = .ok (.goto 4, 3) := by decide +kernel
theorem d_M_on_127 : decode b_M_on 127 = .ok (.iconst 0, 1) := by decide +kernel
theorem d_M_on_128 : decode b_M_on 128 = .ok (.iadd, 1) := by decide +kernel
theorem d_M_on_129 : decode b_M_on 129 = .ok (.istore 6, 2) := by decide +kernel
theorem d_M_on_131 : decode b_M_on 131 = .ok (.iinc 7 1, 3) := by decide +kernel
theorem d_M_on_134 : decode b_M_on 134 = .ok (.goto (-65), 3) := by decide +kernel
theorem d_M_on_137 : decode b_M_on 137 = .ok (.aload_n 0, 1) := by decide +kernel
theorem d_M_on_138 : decode b_M_on 138 = .ok (.iload 4, 2) := by decide +kernel
theorem d_M_on_140 : decode b_M_on 140 = .ok (.iload 5, 2) := by decide +kernel
theorem d_M_on_142 : decode b_M_on 142 = .ok (.invokevirtual 45, 3) := by decide +kernel
theorem d_M_on_145 : decode b_M_on 145 = .ok (.ireturn, 1) := by decide +kernel
theorem d_M_by_0 : decode b_M_by 0 = .ok (.aload_n 0, 1) := by decide +kernel
theorem d_M_by_1 : decode b_M_by 1 = .ok (.getfield 7, 3) := by decide +kernel
theorem d_M_by_4 : decode b_M_by 4 = .ok (.iload_n 1, 1) := by decide +kernel
theorem d_M_by_5 : decode b_M_by 5 = .ok (.iaload, 1) := by decide +kernel
theorem d_M_by_6 : decode b_M_by 6 = .ok (.aload_n 0, 1) := by decide +kernel
theorem d_M_by_7 : decode b_M_by 7 = .ok (.getfield 7, 3) := by decide +kernel
theorem d_M_by_10 : decode b_M_by 10 = .ok (.iload_n 2, 1) := by decide +kernel
theorem d_M_by_11 : decode b_M_by 11 = .ok (.iaload, 1) := by decide +kernel
theorem d_M_by_12 : decode b_M_by 12 = .ok (.invokestatic 49, 3) := by decide +kernel
theorem d_M_by_15 : decode b_M_by 15 = .ok (.istore_n 3, 1) := by decide +kernel
theorem d_M_by_16 : decode b_M_by 16 = .ok (.iconst 0, 1) := by decide +kernel
theorem d_M_by_17 : decode b_M_by 17 = .ok (.istore 4, 2) := by decide +kernel
theorem d_M_by_19 : decode b_M_by 19 = .ok (.iconst 0, 1) := by decide +kernel
theorem d_M_by_20 : decode b_M_by 20 = .ok (.istore 5, 2) := by decide +kernel
theorem d_M_by_22 : decode b_M_by 22 = .ok (.iload 5, 2) := by decide +kernel
theorem d_M_by_24 : decode b_M_by 24 = .ok (.iload_n 3, 1) := by decide +kernel
theorem d_M_by_25 : decode b_M_by 25 = .ok (.if_icmp .ge 29, 3) := by decide +kernel
theorem d_M_by_28 : decode b_M_by 28 = .ok (.iload 4, 2) := by decide +kernel
theorem d_M_by_30 : decode b_M_by 30 = .ok (.aload_n 0, 1) := by decide +kernel
theorem d_M_by_31 : decode b_M_by 31 = .ok (.iload_n 2, 1) := by decide +kernel
theorem d_M_by_32 : decode b_M_by 32 = .ok (.iload 5, 2) := by decide +kernel
theorem d_M_by_34 : decode b_M_by 34 = .ok (.invokevirtual 52, 3) := by decide +kernel
theorem d_M_by_37 : decode b_M_by 37 = .ok (.ifCond .eq 7, 3) := by decide +kernel
theorem d_M_by_40 : decode b_M_by 40 = .ok (.iconst 1, 1) := by decide +kernel
theorem d_M_by_41 : decode b_M_by 41 = .ok (.goto 4, 3) := by decide +kernel
theorem d_M_by_44 : decode b_M_by 44 = .ok (.iconst 0, 1) := by decide +kernel
theorem d_M_by_45 : decode b_M_by 45 = .ok (.iadd, 1) := by decide +kernel
theorem d_M_by_46 : decode b_M_by 46 = .ok (.istore 4, 2) := by decide +kernel
theorem d_M_by_48 : decode b_M_by 48 = .ok (.iinc 5 1, 3) := by decide +kernel
theorem d_M_by_51 : decode b_M_by 51 = .ok (.goto (-29), 3) := by decide +kernel
theorem d_M_by_54 : decode b_M_by 54 = .ok (.aload_n 0, 1) := by decide +kernel
theorem d_M_by_55 : decode b_M_by 55 = .ok (.iload_n 2, 1) := by decide +kernel
theorem d_M_by_56 : decode b_M_by 56 = .ok (.invokevirtual 56, 3) := by decide +kernel
theorem d_M_by_59 : decode b_M_by 59 = .ok (.aload_n 0, 1) := by decide +kernel
theorem d_M_by_60 : decode b_M_by 60 = .ok (.getfield 13, 3) := by decide +kernel
theorem d_M_by_63 : decode b_M_by 63 = .ok (.iload_n 1, 1) := by decide +kernel
theorem d_M_by_64 : decode b_M_by 64 = .ok (.iaload, 1) := by decide +kernel
theorem d_M_by_65 : decode b_M_by 65 = .ok (.imul, 1) := by decide +kernel
theorem d_M_by_66 : decode b_M_by 66 = .ok (.istore 5, 2) := by decide +kernel
theorem d_M_by_68 : decode b_M_by 68 = .ok (.iconst 0, 1) := by decide +kernel
theorem d_M_by_69 : decode b_M_by 69 = .ok (.istore 6, 2) := by decide +kernel
theorem d_M_by_71 : decode b_M_by 71 = .ok (.iconst 0, 1) := by decide +kernel
theorem d_M_by_72 : decode b_M_by 72 = .ok (.istore 7, 2) := by decide +kernel
theorem d_M_by_74 : decode b_M_by 74 = .ok (.iload 6, 2) := by decide +kernel
theorem d_M_by_76 : decode b_M_by 76 = .ok (.iload 4, 2) := by decide +kernel
theorem d_M_by_78 : decode b_M_by 78 = .ok (.iload 5, 2) := by decide +kernel
theorem d_M_by_80 : decode b_M_by 80 = .ok (.iadd, 1) := by decide +kernel
theorem d_M_by_81 : decode b_M_by 81 = .ok (.if_icmp .ge 39, 3) := by decide +kernel
theorem d_M_by_84 : decode b_M_by 84 = .ok (.aload_n 0, 1) := by decide +kernel
theorem d_M_by_85 : decode b_M_by 85 = .ok (.iload_n 2, 1) := by decide +kernel
theorem d_M_by_86 : decode b_M_by 86 = .ok (.iload 7, 2) := by decide +kernel
theorem d_M_by_88 : decode b_M_by 88 = .ok (.invokevirtual 52, 3) := by decide +kernel
theorem d_M_by_91 : decode b_M_by 91 = .ok (.ifCond .ne 6, 3) := by decide +kernel
theorem d_M_by_94 : decode b_M_by 94 = .ok (.goto 20, 3) := by decide +kernel
theorem d_M_by_97 : decode b_M_by 97 = .ok (.aload_n 0, 1) := by decide +kernel
theorem d_M_by_98 : decode b_M_by 98 = .ok (.getfield 23, 3) := by decide +kernel
theorem d_M_by_101 : decode b_M_by 101 = .ok (.iload 6, 2) := by decide +kernel
theorem d_M_by_103 : decode b_M_by 103 = .ok (.aload_n 0, 1) := by decide +kernel
theorem d_M_by_104 : decode b_M_by 104 = .ok (.iload_n 1, 1) := by decide +kernel
theorem d_M_by_105 : decode b_M_by 105 = .ok (.iload 7, 2) := by decide +kernel
theorem d_M_by_107 : decode b_M_by 107 = .ok (.invokevirtual 52, 3) := by decide +kernel
theorem d_M_by_110 : decode b_M_by 110 = .ok (.bastore, 1) := by decide +kernel
theorem d_M_by_111 : decode b_M_by 111 = .ok (.iinc 6 1, 3) := by decide +kernel
theorem d_M_by_114 : decode b_M_by 114 = .ok (.iinc 7 1, 3) := by decide +kernel
theorem d_M_by_117 : decode b_M_by 117 = .ok (.goto (-43), 3) := by decide +kernel
theorem d_M_by_120 : decode b_M_by 120 = .ok (.aload_n 0, 1) := by decide +kernel
theorem d_M_by_121 : decode b_M_by 121 = .ok (.iload 4, 2) := by decide +kernel
theorem d_M_by_123 : decode b_M_by 123 = .ok (.iload 5, 2) := by decide +kernel
theorem d_M_by_125 : decode b_M_by 125 = .ok (.invokevirtual 45, 3) := by decide +kernel
theorem d_M_by_128 : decode b_M_by 128 = .ok (.ireturn, 1) := by decide +kernel
theorem d_M_late_0 : decode b_M_late 0 = .ok (.iconst 0, 1) := by decide +kernel
theorem d_M_late_1 : decode b_M_late 1 = .ok (.istore_n 3, 1) := by decide +kernel
theorem d_M_late_2 : decode b_M_late 2 = .ok (.iload_n 3, 1) := by decide +kernel
theorem d_M_late_3 : decode b_M_late 3 = .ok (.iload_n 2, 1) := by decide +kernel
theorem d_M_late_4 : decode b_M_late 4 = .ok (.if_icmp .ge 16, 3) := by decide +kernel
theorem d_M_late_7 : decode b_M_late 7 = .ok (.aload_n 0, 1) := by decide +kernel
theorem d_M_late_8 : decode b_M_late 8 = .ok (.getfield 23, 3) := by decide +kernel
theorem d_M_late_11 : decode b_M_late 11 = .ok (.iload_n 3, 1) := by decide +kernel
theorem d_M_late_12 : decode b_M_late 12 = .ok (.iconst 0, 1) := by decide +kernel
theorem d_M_late_13 : decode b_M_late 13 = .ok (.bastore, 1) := by decide +kernel
theorem d_M_late_14 : decode b_M_late 14 = .ok (.iinc 3 1, 3) := by decide +kernel
theorem d_M_late_17 : decode b_M_late 17 = .ok (.goto (-15), 3) := by decide +kernel
theorem d_M_late_20 : decode b_M_late 20 = .ok (.iconst 0, 1) := by decide +kernel
theorem d_M_late_21 : decode b_M_late 21 = .ok (.istore_n 3, 1) := by decide +kernel
theorem d_M_late_22 : decode b_M_late 22 = .ok (.iload_n 3, 1) := by decide +kernel
theorem d_M_late_23 : decode b_M_late 23 = .ok (.aload_n 0, 1) := by decide +kernel
theorem d_M_late_24 : decode b_M_late 24 = .ok (.getfield 7, 3) := by decide +kernel
theorem d_M_late_27 : decode b_M_late 27 = .ok (.iload_n 1, 1) := by decide +kernel
theorem d_M_late_28 : decode b_M_late 28 = .ok (.iaload, 1) := by decide +kernel
theorem d_M_late_29 : decode b_M_late 29 = .ok (.aload_n 0, 1) := by decide +kernel
theorem d_M_late_30 : decode b_M_late 30 = .ok (.getfield 13, 3) := by decide +kernel
theorem d_M_late_33 : decode b_M_late 33 = .ok (.iload_n 1, 1) := by decide +kernel
theorem d_M_late_34 : decode b_M_late 34 = .ok (.iaload, 1) := by decide +kernel
theorem d_M_late_35 : decode b_M_late 35 = .ok (.iadd, 1) := by decide +kernel
theorem d_M_late_36 : decode b_M_late 36 = .ok (.if_icmp .ge 23, 3) := by decide +kernel
theorem d_M_late_39 : decode b_M_late 39 = .ok (.aload_n 0, 1) := by decide +kernel
theorem d_M_late_40 : decode b_M_late 40 = .ok (.getfield 23, 3) := by decide +kernel
theorem d_M_late_43 : decode b_M_late 43 = .ok (.iload_n 2, 1) := by decide +kernel
theorem d_M_late_44 : decode b_M_late 44 = .ok (.iload_n 3, 1) := by decide +kernel
theorem d_M_late_45 : decode b_M_late 45 = .ok (.iadd, 1) := by decide +kernel
theorem d_M_late_46 : decode b_M_late 46 = .ok (.aload_n 0, 1) := by decide +kernel
theorem d_M_late_47 : decode b_M_late 47 = .ok (.iload_n 1, 1) := by decide +kernel
theorem d_M_late_48 : decode b_M_late 48 = .ok (.iload_n 3, 1) := by decide +kernel
theorem d_M_late_49 : decode b_M_late 49 = .ok (.invokevirtual 52, 3) := by decide +kernel
theorem d_M_late_52 : decode b_M_late 52 = .ok (.bastore, 1) := by decide +kernel
theorem d_M_late_53 : decode b_M_late 53 = .ok (.iinc 3 1, 3) := by decide +kernel
theorem d_M_late_56 : decode b_M_late 56 = .ok (.goto (-34), 3) := by decide +kernel
theorem d_M_late_59 : decode b_M_late 59 = .ok (.aload_n 0, 1) := by decide +kernel
theorem d_M_late_60 : decode b_M_late 60 = .ok (.iload_n 2, 1) := by decide +kernel
theorem d_M_late_61 : decode b_M_late 61 = .ok (.aload_n 0, 1) := by decide +kernel
theorem d_M_late_62 : decode b_M_late 62 = .ok (.getfield 7, 3) := by decide +kernel
theorem d_M_late_65 : decode b_M_late 65 = .ok (.iload_n 1, 1) := by decide +kernel
theorem d_M_late_66 : decode b_M_late 66 = .ok (.iaload, 1) := by decide +kernel
theorem d_M_late_67 : decode b_M_late 67 = .ok (.iadd, 1) := by decide +kernel
theorem d_M_late_68 : decode b_M_late 68 = .ok (.aload_n 0, 1) := by decide +kernel
theorem d_M_late_69 : decode b_M_late 69 = .ok (.getfield 13, 3) := by decide +kernel
theorem d_M_late_72 : decode b_M_late 72 = .ok (.iload_n 1, 1) := by decide +kernel
theorem d_M_late_73 : decode b_M_late 73 = .ok (.iaload, 1) := by decide +kernel
theorem d_M_late_74 : decode b_M_late 74 = .ok (.invokevirtual 45, 3) := by decide +kernel
theorem d_M_late_77 : decode b_M_late 77 = .ok (.ireturn, 1) := by decide +kernel
theorem d_M_halved_0 : decode b_M_halved 0 = .ok (.iconst 1, 1) := by decide +kernel
theorem d_M_halved_1 : decode b_M_halved 1 = .ok (.istore_n 2, 1) := by decide +kernel
theorem d_M_halved_2 : decode b_M_halved 2 = .ok (.iconst 0, 1) := by decide +kernel
theorem d_M_halved_3 : decode b_M_halved 3 = .ok (.istore_n 3, 1) := by decide +kernel
theorem d_M_halved_4 : decode b_M_halved 4 = .ok (.iload_n 3, 1) := by decide +kernel
theorem d_M_halved_5 : decode b_M_halved 5 = .ok (.aload_n 0, 1) := by decide +kernel
theorem d_M_halved_6 : decode b_M_halved 6 = .ok (.getfield 7, 3) := by decide +kernel
theorem d_M_halved_9 : decode b_M_halved 9 = .ok (.iload_n 1, 1) := by decide +kernel
theorem d_M_halved_10 : decode b_M_halved 10 = .ok (.iaload, 1) := by decide +kernel
theorem d_M_halved_11 : decode b_M_halved 11 = .ok (.iconst 2, 1) := by decide +kernel
theorem d_M_halved_12 : decode b_M_halved 12 = .ok (.aload_n 0, 1) := by decide +kernel
theorem d_M_halved_13 : decode b_M_halved 13 = .ok (.getfield 13, 3) := by decide +kernel
theorem d_M_halved_16 : decode b_M_halved 16 = .ok (.iload_n 1, 1) := by decide +kernel
theorem d_M_halved_17 : decode b_M_halved 17 = .ok (.iaload, 1) := by decide +kernel
theorem d_M_halved_18 : decode b_M_halved 18 = .ok (.imul, 1) := by decide +kernel
theorem d_M_halved_19 : decode b_M_halved 19 = .ok (.iadd, 1) := by decide +kernel
theorem d_M_halved_20 : decode b_M_halved 20 = .ok (.if_icmp .ge 49, 3) := by decide +kernel
theorem d_M_halved_23 : decode b_M_halved 23 = .ok (.aload_n 0, 1) := by decide +kernel
theorem d_M_halved_24 : decode b_M_halved 24 = .ok (.getfield 23, 3) := by decide +kernel
theorem d_M_halved_27 : decode b_M_halved 27 = .ok (.iload_n 3, 1) := by decide +kernel
theorem d_M_halved_28 : decode b_M_halved 28 = .ok (.aload_n 0, 1) := by decide +kernel
theorem d_M_halved_29 : decode b_M_halved 29 = .ok (.iload_n 1, 1) := by decide +kernel
theorem d_M_halved_30 : decode b_M_halved 30 = .ok (.iload_n 3, 1) := by decide +kernel
theorem d_M_halved_31 : decode b_M_halved 31 = .ok (.invokevirtual 52, 3) := by decide +kernel
theorem d_M_halved_34 : decode b_M_halved 34 = .ok (.ifCond .eq 11, 3) := by decide +kernel
theorem d_M_halved_37 : decode b_M_halved 37 = .ok (.iload_n 2, 1) := by decide +kernel
theorem d_M_halved_38 : decode b_M_halved 38 = .ok (.ifCond .eq 7, 3) := by decide +kernel
theorem d_M_halved_41 : decode b_M_halved 41 = .ok (.iconst 1, 1) := by decide +kernel
theorem d_M_halved_42 : decode b_M_halved 42 = .ok (.goto 4, 3) := by decide +kernel
theorem d_M_halved_45 : decode b_M_halved 45 = .ok (.iconst 0, 1) := by decide +kernel
theorem d_M_halved_46 : decode b_M_halved 46 = .ok (.bastore, 1) := by decide +kernel
theorem d_M_halved_47 : decode b_M_halved 47 = .ok (.aload_n 0, 1) := by decide +kernel
theorem d_M_halved_48 : decode b_M_halved 48 = .ok (.iload_n 1, 1) := by decide +kernel
theorem d_M_halved_49 : decode b_M_halved 49 = .ok (.iload_n 3, 1) := by decide +kernel
theorem d_M_halved_50 : decode b_M_halved 50 = .ok (.invokevirtual 52, 3) := by decide +kernel
theorem d_M_halved_53 : decode b_M_halved 53 = .ok (.iload_n 2, 1) := by decide +kernel
theorem d_M_halved_54 : decode b_M_halved 54 = .ok (.if_icmp .eq 7, 3) := by decide +kernel
theorem d_M_halved_57 : decode b_M_halved 57 = .ok (.iconst 1, 1) := by decide +kernel
theorem d_M_halved_58 : decode b_M_halved 58 = .ok (.goto 4, 3) := by decide +kernel
theorem d_M_halved_61 : decode b_M_halved 61 = .ok (.iconst 0, 1) := by decide +kernel
theorem d_M_halved_62 : decode b_M_halved 62 = .ok (.istore_n 2, 1) := by decide +kernel
theorem d_M_halved_63 : decode b_M_halved 63 = .ok (.iinc 3 1, 3) := by decide +kernel
theorem d_M_halved_66 : decode b_M_halved 66 = .ok (.goto (-62), 3) := by decide +kernel
theorem d_M_halved_69 : decode b_M_halved 69 = .ok (.aload_n 0, 1) := by decide +kernel
theorem d_M_halved_70 : decode b_M_halved 70 = .ok (.aload_n 0, 1) := by decide +kernel
theorem d_M_halved_71 : decode b_M_halved 71 = .ok (.getfield 7, 3) := by decide +kernel
theorem d_M_halved_74 : decode b_M_halved 74 = .ok (.iload_n 1, 1) := by decide +kernel
theorem d_M_halved_75 : decode b_M_halved 75 = .ok (.iaload, 1) := by decide +kernel
theorem d_M_halved_76 : decode b_M_halved 76 = .ok (.iconst 2, 1) := by decide +kernel
theorem d_M_halved_77 : decode b_M_halved 77 = .ok (.aload_n 0, 1) := by decide +kernel
theorem d_M_halved_78 : decode b_M_halved 78 = .ok (.getfield 13, 3) := by decide +kernel
theorem d_M_halved_81 : decode b_M_halved 81 = .ok (.iload_n 1, 1) := by decide +kernel
theorem d_M_halved_82 : decode b_M_halved 82 = .ok (.iaload, 1) := by decide +kernel
theorem d_M_halved_83 : decode b_M_halved 83 = .ok (.imul, 1) := by decide +kernel
theorem d_M_halved_84 : decode b_M_halved 84 = .ok (.invokevirtual 45, 3) := by decide +kernel
theorem d_M_halved_87 : decode b_M_halved 87 = .ok (.ireturn, 1) := by decide +kernel
theorem d_M_make_0 : decode b_M_make 0 = .ok (.aload_n 0, 1) := by decide +kernel
theorem d_M_make_1 : decode b_M_make 1 = .ok (.iconst 0, 1) := by decide +kernel
theorem d_M_make_2 : decode b_M_make 2 = .ok (.putfield 27, 3) := by decide +kernel
theorem d_M_make_5 : decode b_M_make 5 = .ok (.iload_n 1, 1) := by decide +kernel
theorem d_M_make_6 : decode b_M_make 6 = .ok (.iconst 3, 1) := by decide +kernel
theorem d_M_make_7 : decode b_M_make 7 = .ok (.if_icmp .lt 13, 3) := by decide +kernel
theorem d_M_make_10 : decode b_M_make 10 = .ok (.iload_n 1, 1) := by decide +kernel
theorem d_M_make_11 : decode b_M_make 11 = .ok (.iconst 4, 1) := by decide +kernel
theorem d_M_make_12 : decode b_M_make 12 = .ok (.if_icmp .eq 8, 3) := by decide +kernel
theorem d_M_make_15 : decode b_M_make 15 = .ok (.iload_n 1, 1) := by decide +kernel
theorem d_M_make_16 : decode b_M_make 16 = .ok (.iconst 5, 1) := by decide +kernel
theorem d_M_make_17 : decode b_M_make 17 = .ok (.if_icmp .ne 7, 3) := by decide +kernel
theorem d_M_make_20 : decode b_M_make 20 = .ok (.iconst 1, 1) := by decide +kernel
theorem d_M_make_21 : decode b_M_make 21 = .ok (.goto 4, 3) := by decide +kernel
theorem d_M_make_24 : decode b_M_make 24 = .ok (.iconst 0, 1) := by decide +kernel
theorem d_M_make_25 : decode b_M_make 25 = .ok (.istore 4, 2) := by decide +kernel
theorem d_M_make_27 : decode b_M_make 27 = .ok (.iload_n 1, 1) := by decide +kernel
theorem d_M_make_28 : decode b_M_make 28 = .ok (.iconst 0, 1) := by decide +kernel
theorem d_M_make_29 : decode b_M_make 29 = .ok (.bipush 7, 2) := by decide +kernel
theorem d_M_make_31 : decode b_M_make 31 = .ok (.invokestatic 34, 3) := by decide +kernel
theorem d_M_make_34 : decode b_M_make 34 = .ok (.ifCond .eq 49, 3) := by decide +kernel
theorem d_M_make_37 : decode b_M_make 37 = .ok (.aload_n 0, 1) := by decide +kernel
theorem d_M_make_38 : decode b_M_make 38 = .ok (.iload_n 2, 1) := by decide +kernel
theorem d_M_make_39 : decode b_M_make 39 = .ok (.invokevirtual 60, 3) := by decide +kernel
theorem d_M_make_42 : decode b_M_make 42 = .ok (.ifCond .eq 41, 3) := by decide +kernel
theorem d_M_make_45 : decode b_M_make 45 = .ok (.iload 4, 2) := by decide +kernel
theorem d_M_make_47 : decode b_M_make 47 = .ok (.ifCond .eq 11, 3) := by decide +kernel
theorem d_M_make_50 : decode b_M_make 50 = .ok (.aload_n 0, 1) := by decide +kernel
theorem d_M_make_51 : decode b_M_make 51 = .ok (.iload_n 3, 1) := by decide +kernel
theorem d_M_make_52 : decode b_M_make 52 = .ok (.invokevirtual 60, 3) := by decide +kernel
theorem d_M_make_55 : decode b_M_make 55 = .ok (.ifCond .eq 28, 3) := by decide +kernel
theorem d_M_make_58 : decode b_M_make 58 = .ok (.iload_n 1, 1) := by decide +kernel
theorem d_M_make_59 : decode b_M_make 59 = .ok (.bipush 6, 2) := by decide +kernel
theorem d_M_make_61 : decode b_M_make 61 = .ok (.if_icmp .ne 13, 3) := by decide +kernel
theorem d_M_make_64 : decode b_M_make 64 = .ok (.iload_n 3, 1) := by decide +kernel
theorem d_M_make_65 : decode b_M_make 65 = .ok (.iconst 0, 1) := by decide +kernel
theorem d_M_make_66 : decode b_M_make 66 = .ok (.bipush 30, 2) := by decide +kernel
theorem d_M_make_68 : decode b_M_make 68 = .ok (.invokestatic 34, 3) := by decide +kernel
theorem d_M_make_71 : decode b_M_make 71 = .ok (.ifCond .eq 12, 3) := by decide +kernel
theorem d_M_make_74 : decode b_M_make 74 = .ok (.aload_n 0, 1) := by decide +kernel
theorem d_M_make_75 : decode b_M_make 75 = .ok (.getfield 31, 3) := by decide +kernel
theorem d_M_make_78 : decode b_M_make 78 = .ok (.bipush 40, 2) := by decide +kernel
theorem d_M_make_80 : decode b_M_make 80 = .ok (.if_icmp .ne 5, 3) := by decide +kernel
theorem d_M_make_83 : decode b_M_make 83 = .ok (.iconst (-1), 1) := by decide +kernel
theorem d_M_make_84 : decode b_M_make 84 = .ok (.ireturn, 1) := by decide +kernel
theorem d_M_make_85 : decode b_M_make 85 = .ok (.iload_n 1, 1) := by decide +kernel
theorem d_M_make_86 : decode b_M_make 86 = .ok (.iconst 5, 1) := by decide +kernel
theorem d_M_make_87 : decode b_M_make 87 = .ok (.if_icmp .ne 16, 3) := by decide +kernel
theorem d_M_make_90 : decode b_M_make 90 = .ok (.aload_n 0, 1) := by decide +kernel
theorem d_M_make_91 : decode b_M_make 91 = .ok (.iload_n 3, 1) := by decide +kernel
theorem d_M_make_92 : decode b_M_make 92 = .ok (.invokevirtual 56, 3) := by decide +kernel
theorem d_M_make_95 : decode b_M_make 95 = .ok (.ifCond .ne 8, 3) := by decide +kernel
theorem d_M_make_98 : decode b_M_make 98 = .ok (.aload_n 0, 1) := by decide +kernel
theorem d_M_make_99 : decode b_M_make 99 = .ok (.invokevirtual 64, 3) := by decide +kernel
theorem d_M_make_102 : decode b_M_make 102 = .ok (.ireturn, 1) := by decide +kernel
theorem d_M_make_103 : decode b_M_make 103 = .ok (.iload_n 1, 1) := by decide +kernel
theorem d_M_make_104 : decode b_M_make 104 = .ok (.tableswitch 69 3 7 #[36, 42, 49, 56, 63], 36) := by decide +kernel
theorem d_M_make_140 : decode b_M_make 140 = .ok (.aload_n 0, 1) := by decide +kernel
theorem d_M_make_141 : decode b_M_make 141 = .ok (.iload_n 2, 1) := by decide +kernel
theorem d_M_make_142 : decode b_M_make 142 = .ok (.invokevirtual 68, 3) := by decide +kernel
theorem d_M_make_145 : decode b_M_make 145 = .ok (.ireturn, 1) := by decide +kernel
theorem d_M_make_146 : decode b_M_make 146 = .ok (.aload_n 0, 1) := by decide +kernel
theorem d_M_make_147 : decode b_M_make 147 = .ok (.iload_n 2, 1) := by decide +kernel
theorem d_M_make_148 : decode b_M_make 148 = .ok (.iload_n 3, 1) := by decide +kernel
theorem d_M_make_149 : decode b_M_make 149 = .ok (.invokevirtual 71, 3) := by decide +kernel
theorem d_M_make_152 : decode b_M_make 152 = .ok (.ireturn, 1) := by decide +kernel
theorem d_M_make_153 : decode b_M_make 153 = .ok (.aload_n 0, 1) := by decide +kernel
theorem d_M_make_154 : decode b_M_make 154 = .ok (.iload_n 2, 1) := by decide +kernel
theorem d_M_make_155 : decode b_M_make 155 = .ok (.iload_n 3, 1) := by decide +kernel
theorem d_M_make_156 : decode b_M_make 156 = .ok (.invokevirtual 74, 3) := by decide +kernel
theorem d_M_make_159 : decode b_M_make 159 = .ok (.ireturn, 1) := by decide +kernel
theorem d_M_make_160 : decode b_M_make 160 = .ok (.aload_n 0, 1) := by decide +kernel
theorem d_M_make_161 : decode b_M_make 161 = .ok (.iload_n 2, 1) := by decide +kernel
theorem d_M_make_162 : decode b_M_make 162 = .ok (.iload_n 3, 1) := by decide +kernel
theorem d_M_make_163 : decode b_M_make 163 = .ok (.invokevirtual 77, 3) := by decide +kernel
theorem d_M_make_166 : decode b_M_make 166 = .ok (.ireturn, 1) := by decide +kernel
theorem d_M_make_167 : decode b_M_make 167 = .ok (.aload_n 0, 1) := by decide +kernel
theorem d_M_make_168 : decode b_M_make 168 = .ok (.iload_n 2, 1) := by decide +kernel
theorem d_M_make_169 : decode b_M_make 169 = .ok (.invokevirtual 80, 3) := by decide +kernel
theorem d_M_make_172 : decode b_M_make 172 = .ok (.ireturn, 1) := by decide +kernel
theorem d_M_make_173 : decode b_M_make 173 = .ok (.aload_n 0, 1) := by decide +kernel
theorem d_M_make_174 : decode b_M_make 174 = .ok (.iload_n 1, 1) := by decide +kernel
theorem d_M_make_175 : decode b_M_make 175 = .ok (.iload_n 2, 1) := by decide +kernel
theorem d_M_make_176 : decode b_M_make 176 = .ok (.iload_n 3, 1) := by decide +kernel
theorem d_M_make_177 : decode b_M_make 177 = .ok (.invokevirtual 83, 3) := by decide +kernel
theorem d_M_make_180 : decode b_M_make 180 = .ok (.ireturn, 1) := by decide +kernel
theorem d_M_divisor_0 : decode b_M_divisor 0 = .ok (.iload_n 0, 1) := by decide +kernel
theorem d_M_divisor_1 : decode b_M_divisor 1 = .ok (.istore_n 2, 1) := by decide +kernel
theorem d_M_divisor_2 : decode b_M_divisor 2 = .ok (.iload_n 1, 1) := by decide +kernel
theorem d_M_divisor_3 : decode b_M_divisor 3 = .ok (.istore_n 3, 1) := by decide +kernel
theorem d_M_divisor_4 : decode b_M_divisor 4 = .ok (.iload_n 3, 1) := by decide +kernel
theorem d_M_divisor_5 : decode b_M_divisor 5 = .ok (.ifCond .eq 16, 3) := by decide +kernel
theorem d_M_divisor_8 : decode b_M_divisor 8 = .ok (.iload_n 2, 1) := by decide +kernel
theorem d_M_divisor_9 : decode b_M_divisor 9 = .ok (.iload_n 3, 1) := by decide +kernel
theorem d_M_divisor_10 : decode b_M_divisor 10 = .ok (.irem, 1) := by decide +kernel
theorem d_M_divisor_11 : decode b_M_divisor 11 = .ok (.istore 4, 2) := by decide +kernel
theorem d_M_divisor_13 : decode b_M_divisor 13 = .ok (.iload_n 3, 1) := by decide +kernel
theorem d_M_divisor_14 : decode b_M_divisor 14 = .ok (.istore_n 2, 1) := by decide +kernel
theorem d_M_divisor_15 : decode b_M_divisor 15 = .ok (.iload 4, 2) := by decide +kernel
theorem d_M_divisor_17 : decode b_M_divisor 17 = .ok (.istore_n 3, 1) := by decide +kernel
theorem d_M_divisor_18 : decode b_M_divisor 18 = .ok (.goto (-14), 3) := by decide +kernel
theorem d_M_divisor_21 : decode b_M_divisor 21 = .ok (.iload_n 2, 1) := by decide +kernel
theorem d_M_divisor_22 : decode b_M_divisor 22 = .ok (.ireturn, 1) := by decide +kernel
theorem d_M_form_0 : decode b_M_form 0 = .ok (.aload_n 0, 1) := by decide +kernel
theorem d_M_form_1 : decode b_M_form 1 = .ok (.iconst 0, 1) := by decide +kernel
theorem d_M_form_2 : decode b_M_form 2 = .ok (.putfield 27, 3) := by decide +kernel
theorem d_M_form_5 : decode b_M_form 5 = .ok (.aload_n 0, 1) := by decide +kernel
theorem d_M_form_6 : decode b_M_form 6 = .ok (.iload_n 1, 1) := by decide +kernel
theorem d_M_form_7 : decode b_M_form 7 = .ok (.invokevirtual 60, 3) := by decide +kernel
theorem d_M_form_10 : decode b_M_form 10 = .ok (.ifCond .ne 5, 3) := by decide +kernel
theorem d_M_form_13 : decode b_M_form 13 = .ok (.iconst (-1), 1) := by decide +kernel
theorem d_M_form_14 : decode b_M_form 14 = .ok (.ireturn, 1) := by decide +kernel
theorem d_M_form_15 : decode b_M_form 15 = .ok (.aload_n 0, 1) := by decide +kernel
theorem d_M_form_16 : decode b_M_form 16 = .ok (.iload_n 1, 1) := by decide +kernel
theorem d_M_form_17 : decode b_M_form 17 = .ok (.invokevirtual 56, 3) := by decide +kernel
theorem d_M_form_20 : decode b_M_form 20 = .ok (.istore_n 3, 1) := by decide +kernel
theorem d_M_form_21 : decode b_M_form 21 = .ok (.iload_n 3, 1) := by decide +kernel
theorem d_M_form_22 : decode b_M_form 22 = .ok (.aload_n 0, 1) := by decide +kernel
theorem d_M_form_23 : decode b_M_form 23 = .ok (.getfield 13, 3) := by decide +kernel
theorem d_M_form_26 : decode b_M_form 26 = .ok (.iload_n 1, 1) := by decide +kernel
theorem d_M_form_27 : decode b_M_form 27 = .ok (.iaload, 1) := by decide +kernel
theorem d_M_form_28 : decode b_M_form 28 = .ok (.invokestatic 87, 3) := by decide +kernel
theorem d_M_form_31 : decode b_M_form 31 = .ok (.istore 4, 2) := by decide +kernel
theorem d_M_form_33 : decode b_M_form 33 = .ok (.iload_n 2, 1) := by decide +kernel
theorem d_M_form_34 : decode b_M_form 34 = .ok (.tableswitch 79 0 4 #[34, 41, 48, 53, 63], 34) := by decide +kernel
theorem d_M_form_68 : decode b_M_form 68 = .ok (.aload_n 0, 1) := by decide +kernel
theorem d_M_form_69 : decode b_M_form 69 = .ok (.getfield 7, 3) := by decide +kernel
theorem d_M_form_72 : decode b_M_form 72 = .ok (.iload_n 1, 1) := by decide +kernel
theorem d_M_form_73 : decode b_M_form 73 = .ok (.iaload, 1) := by decide +kernel
theorem d_M_form_74 : decode b_M_form 74 = .ok (.ireturn, 1) := by decide +kernel
theorem d_M_form_75 : decode b_M_form 75 = .ok (.aload_n 0, 1) := by decide +kernel
theorem d_M_form_76 : decode b_M_form 76 = .ok (.getfield 13, 3) := by decide +kernel
theorem d_M_form_79 : decode b_M_form 79 = .ok (.iload_n 1, 1) := by decide +kernel
theorem d_M_form_80 : decode b_M_form 80 = .ok (.iaload, 1) := by decide +kernel
theorem d_M_form_81 : decode b_M_form 81 = .ok (.ireturn, 1) := by decide +kernel
theorem d_M_form_82 : decode b_M_form 82 = .ok (.iload_n 3, 1) := by decide +kernel
theorem d_M_form_83 : decode b_M_form 83 = .ok (.iload 4, 2) := by decide +kernel
theorem d_M_form_85 : decode b_M_form 85 = .ok (.idiv, 1) := by decide +kernel
theorem d_M_form_86 : decode b_M_form 86 = .ok (.ireturn, 1) := by decide +kernel
theorem d_M_form_87 : decode b_M_form 87 = .ok (.aload_n 0, 1) := by decide +kernel
theorem d_M_form_88 : decode b_M_form 88 = .ok (.getfield 13, 3) := by decide +kernel
theorem d_M_form_91 : decode b_M_form 91 = .ok (.iload_n 1, 1) := by decide +kernel
theorem d_M_form_92 : decode b_M_form 92 = .ok (.iaload, 1) := by decide +kernel
theorem d_M_form_93 : decode b_M_form 93 = .ok (.iload 4, 2) := by decide +kernel
theorem d_M_form_95 : decode b_M_form 95 = .ok (.idiv, 1) := by decide +kernel
theorem d_M_form_96 : decode b_M_form 96 = .ok (.ireturn, 1) := by decide +kernel
theorem d_M_form_97 : decode b_M_form 97 = .ok (.aload_n 0, 1) := by decide +kernel
theorem d_M_form_98 : decode b_M_form 98 = .ok (.getfield 16, 3) := by decide +kernel
theorem d_M_form_101 : decode b_M_form 101 = .ok (.iload_n 1, 1) := by decide +kernel
theorem d_M_form_102 : decode b_M_form 102 = .ok (.laload, 1) := by decide +kernel
theorem d_M_form_103 : decode b_M_form 103 = .ok (.aload_n 0, 1) := by decide +kernel
theorem d_M_form_104 : decode b_M_form 104 = .ok (.getfield 7, 3) := by decide +kernel
theorem d_M_form_107 : decode b_M_form 107 = .ok (.iload_n 1, 1) := by decide +kernel
theorem d_M_form_108 : decode b_M_form 108 = .ok (.iaload, 1) := by decide +kernel
theorem d_M_form_109 : decode b_M_form 109 = .ok (.invokestatic 38, 3) := by decide +kernel
theorem d_M_form_112 : decode b_M_form 112 = .ok (.ireturn, 1) := by decide +kernel
theorem d_M_form_113 : decode b_M_form 113 = .ok (.iconst (-1), 1) := by decide +kernel
theorem d_M_form_114 : decode b_M_form 114 = .ok (.ireturn, 1) := by decide +kernel
theorem d_M_bit_0 : decode b_M_bit 0 = .ok (.aload_n 0, 1) := by decide +kernel
theorem d_M_bit_1 : decode b_M_bit 1 = .ok (.iconst 0, 1) := by decide +kernel
theorem d_M_bit_2 : decode b_M_bit 2 = .ok (.putfield 27, 3) := by decide +kernel
theorem d_M_bit_5 : decode b_M_bit 5 = .ok (.aload_n 0, 1) := by decide +kernel
theorem d_M_bit_6 : decode b_M_bit 6 = .ok (.iload_n 1, 1) := by decide +kernel
theorem d_M_bit_7 : decode b_M_bit 7 = .ok (.invokevirtual 60, 3) := by decide +kernel
theorem d_M_bit_10 : decode b_M_bit 10 = .ok (.ifCond .eq 30, 3) := by decide +kernel
theorem d_M_bit_13 : decode b_M_bit 13 = .ok (.iload_n 2, 1) := by decide +kernel
theorem d_M_bit_14 : decode b_M_bit 14 = .ok (.iconst 0, 1) := by decide +kernel
theorem d_M_bit_15 : decode b_M_bit 15 = .ok (.ldc 90, 2) := by decide +kernel
theorem d_M_bit_17 : decode b_M_bit 17 = .ok (.invokestatic 34, 3) := by decide +kernel
theorem d_M_bit_20 : decode b_M_bit 20 = .ok (.ifCond .eq 20, 3) := by decide +kernel
theorem d_M_bit_23 : decode b_M_bit 23 = .ok (.aload_n 0, 1) := by decide +kernel
theorem d_M_bit_24 : decode b_M_bit 24 = .ok (.iload_n 1, 1) := by decide +kernel
theorem d_M_bit_25 : decode b_M_bit 25 = .ok (.iload_n 2, 1) := by decide +kernel
theorem d_M_bit_26 : decode b_M_bit 26 = .ok (.invokevirtual 52, 3) := by decide +kernel
theorem d_M_bit_29 : decode b_M_bit 29 = .ok (.ifCond .eq 7, 3) := by decide +kernel
theorem d_M_bit_32 : decode b_M_bit 32 = .ok (.iconst 1, 1) := by decide +kernel
theorem d_M_bit_33 : decode b_M_bit 33 = .ok (.goto 8, 3) := by decide +kernel
theorem d_M_bit_36 : decode b_M_bit 36 = .ok (.iconst 0, 1) := by decide +kernel
theorem d_M_bit_37 : decode b_M_bit 37 = .ok (.goto 4, 3) := by decide +kernel
theorem d_M_bit_40 : decode b_M_bit 40 = .ok (.iconst (-1), 1) := by decide +kernel
theorem d_M_bit_41 : decode b_M_bit 41 = .ok (.ireturn, 1) := by decide +kernel
theorem d_M_onesAhead_0 : decode b_M_onesAhead 0 = .ok (.iload_n 2, 1) := by decide +kernel
theorem d_M_onesAhead_1 : decode b_M_onesAhead 1 = .ok (.aload_n 0, 1) := by decide +kernel
theorem d_M_onesAhead_2 : decode b_M_onesAhead 2 = .ok (.getfield 7, 3) := by decide +kernel
theorem d_M_onesAhead_5 : decode b_M_onesAhead 5 = .ok (.iload_n 1, 1) := by decide +kernel
theorem d_M_onesAhead_6 : decode b_M_onesAhead 6 = .ok (.iaload, 1) := by decide +kernel
theorem d_M_onesAhead_7 : decode b_M_onesAhead 7 = .ok (.if_icmp .gt 14, 3) := by decide +kernel
theorem d_M_onesAhead_10 : decode b_M_onesAhead 10 = .ok (.aload_n 0, 1) := by decide +kernel
theorem d_M_onesAhead_11 : decode b_M_onesAhead 11 = .ok (.getfield 16, 3) := by decide +kernel
theorem d_M_onesAhead_14 : decode b_M_onesAhead 14 = .ok (.iload_n 1, 1) := by decide +kernel
theorem d_M_onesAhead_15 : decode b_M_onesAhead 15 = .ok (.laload, 1) := by decide +kernel
theorem d_M_onesAhead_16 : decode b_M_onesAhead 16 = .ok (.iload_n 2, 1) := by decide +kernel
theorem d_M_onesAhead_17 : decode b_M_onesAhead 17 = .ok (.invokestatic 38, 3) := by decide +kernel
theorem d_M_onesAhead_20 : decode b_M_onesAhead 20 = .ok (.ireturn, 1) := by decide +kernel
theorem d_M_onesAhead_21 : decode b_M_onesAhead 21 = .ok (.iload_n 2, 1) := by decide +kernel
theorem d_M_onesAhead_22 : decode b_M_onesAhead 22 = .ok (.aload_n 0, 1) := by decide +kernel
theorem d_M_onesAhead_23 : decode b_M_onesAhead 23 = .ok (.getfield 7, 3) := by decide +kernel
theorem d_M_onesAhead_26 : decode b_M_onesAhead 26 = .ok (.iload_n 1, 1) := by decide +kernel
theorem d_M_onesAhead_27 : decode b_M_onesAhead 27 = .ok (.iaload, 1) := by decide +kernel
theorem d_M_onesAhead_28 : decode b_M_onesAhead 28 = .ok (.isub, 1) := by decide +kernel
theorem d_M_onesAhead_29 : decode b_M_onesAhead 29 = .ok (.istore_n 3, 1) := by decide +kernel
theorem d_M_onesAhead_30 : decode b_M_onesAhead 30 = .ok (.aload_n 0, 1) := by decide +kernel
theorem d_M_onesAhead_31 : decode b_M_onesAhead 31 = .ok (.getfield 16, 3) := by decide +kernel
theorem d_M_onesAhead_34 : decode b_M_onesAhead 34 = .ok (.iload_n 1, 1) := by decide +kernel
theorem d_M_onesAhead_35 : decode b_M_onesAhead 35 = .ok (.laload, 1) := by decide +kernel
theorem d_M_onesAhead_36 : decode b_M_onesAhead 36 = .ok (.aload_n 0, 1) := by decide +kernel
theorem d_M_onesAhead_37 : decode b_M_onesAhead 37 = .ok (.getfield 7, 3) := by decide +kernel
theorem d_M_onesAhead_40 : decode b_M_onesAhead 40 = .ok (.iload_n 1, 1) := by decide +kernel
theorem d_M_onesAhead_41 : decode b_M_onesAhead 41 = .ok (.iaload, 1) := by decide +kernel
end
section
theorem d_M_onesAhead_42 : decode b_M_onesAhead 42 = .ok (.invokestatic 38, 3) := by decide +kernel
theorem d_M_onesAhead_45 : decode b_M_onesAhead 45 = .ok (.iload_n 3, 1) := by decide +kernel
theorem d_M_onesAhead_46 : decode b_M_onesAhead 46 = .ok (.aload_n 0, 1) := by decide +kernel
theorem d_M_onesAhead_47 : decode b_M_onesAhead 47 = .ok (.getfield 13, 3) := by decide +kernel
theorem d_M_onesAhead_50 : decode b_M_onesAhead 50 = .ok (.iload_n 1, 1) := by decide +kernel
theorem d_M_onesAhead_51 : decode b_M_onesAhead 51 = .ok (.iaload, 1) := by decide +kernel
theorem d_M_onesAhead_52 : decode b_M_onesAhead 52 = .ok (.idiv, 1) := by decide +kernel
theorem d_M_onesAhead_53 : decode b_M_onesAhead 53 = .ok (.aload_n 0, 1) := by decide +kernel
theorem d_M_onesAhead_54 : decode b_M_onesAhead 54 = .ok (.iload_n 1, 1) := by decide +kernel
theorem d_M_onesAhead_55 : decode b_M_onesAhead 55 = .ok (.invokevirtual 56, 3) := by decide +kernel
theorem d_M_onesAhead_58 : decode b_M_onesAhead 58 = .ok (.imul, 1) := by decide +kernel
theorem d_M_onesAhead_59 : decode b_M_onesAhead 59 = .ok (.iadd, 1) := by decide +kernel
theorem d_M_onesAhead_60 : decode b_M_onesAhead 60 = .ok (.aload_n 0, 1) := by decide +kernel
theorem d_M_onesAhead_61 : decode b_M_onesAhead 61 = .ok (.getfield 20, 3) := by decide +kernel
theorem d_M_onesAhead_64 : decode b_M_onesAhead 64 = .ok (.iload_n 1, 1) := by decide +kernel
theorem d_M_onesAhead_65 : decode b_M_onesAhead 65 = .ok (.laload, 1) := by decide +kernel
theorem d_M_onesAhead_66 : decode b_M_onesAhead 66 = .ok (.iload_n 3, 1) := by decide +kernel
theorem d_M_onesAhead_67 : decode b_M_onesAhead 67 = .ok (.aload_n 0, 1) := by decide +kernel
theorem d_M_onesAhead_68 : decode b_M_onesAhead 68 = .ok (.getfield 13, 3) := by decide +kernel
theorem d_M_onesAhead_71 : decode b_M_onesAhead 71 = .ok (.iload_n 1, 1) := by decide +kernel
theorem d_M_onesAhead_72 : decode b_M_onesAhead 72 = .ok (.iaload, 1) := by decide +kernel
theorem d_M_onesAhead_73 : decode b_M_onesAhead 73 = .ok (.irem, 1) := by decide +kernel
theorem d_M_onesAhead_74 : decode b_M_onesAhead 74 = .ok (.invokestatic 38, 3) := by decide +kernel
theorem d_M_onesAhead_77 : decode b_M_onesAhead 77 = .ok (.iadd, 1) := by decide +kernel
theorem d_M_onesAhead_78 : decode b_M_onesAhead 78 = .ok (.ireturn, 1) := by decide +kernel
theorem d_M_ones_0 : decode b_M_ones 0 = .ok (.aload_n 0, 1) := by decide +kernel
theorem d_M_ones_1 : decode b_M_ones 1 = .ok (.iconst 0, 1) := by decide +kernel
theorem d_M_ones_2 : decode b_M_ones 2 = .ok (.putfield 27, 3) := by decide +kernel
theorem d_M_ones_5 : decode b_M_ones 5 = .ok (.aload_n 0, 1) := by decide +kernel
theorem d_M_ones_6 : decode b_M_ones 6 = .ok (.iload_n 1, 1) := by decide +kernel
theorem d_M_ones_7 : decode b_M_ones 7 = .ok (.invokevirtual 60, 3) := by decide +kernel
theorem d_M_ones_10 : decode b_M_ones 10 = .ok (.ifCond .eq 22, 3) := by decide +kernel
theorem d_M_ones_13 : decode b_M_ones 13 = .ok (.iload_n 2, 1) := by decide +kernel
theorem d_M_ones_14 : decode b_M_ones 14 = .ok (.iconst 0, 1) := by decide +kernel
theorem d_M_ones_15 : decode b_M_ones 15 = .ok (.ldc 90, 2) := by decide +kernel
theorem d_M_ones_17 : decode b_M_ones 17 = .ok (.invokestatic 34, 3) := by decide +kernel
theorem d_M_ones_20 : decode b_M_ones 20 = .ok (.ifCond .eq 12, 3) := by decide +kernel
theorem d_M_ones_23 : decode b_M_ones 23 = .ok (.aload_n 0, 1) := by decide +kernel
theorem d_M_ones_24 : decode b_M_ones 24 = .ok (.iload_n 1, 1) := by decide +kernel
theorem d_M_ones_25 : decode b_M_ones 25 = .ok (.iload_n 2, 1) := by decide +kernel
theorem d_M_ones_26 : decode b_M_ones 26 = .ok (.invokevirtual 91, 3) := by decide +kernel
theorem d_M_ones_29 : decode b_M_ones 29 = .ok (.goto 4, 3) := by decide +kernel
theorem d_M_ones_32 : decode b_M_ones 32 = .ok (.iconst (-1), 1) := by decide +kernel
theorem d_M_ones_33 : decode b_M_ones 33 = .ok (.ireturn, 1) := by decide +kernel
theorem d_M_place_0 : decode b_M_place 0 = .ok (.iconst 0, 1) := by decide +kernel
theorem d_M_place_1 : decode b_M_place 1 = .ok (.istore_n 3, 1) := by decide +kernel
theorem d_M_place_2 : decode b_M_place 2 = .ok (.iload_n 2, 1) := by decide +kernel
theorem d_M_place_3 : decode b_M_place 3 = .ok (.istore 4, 2) := by decide +kernel
theorem d_M_place_5 : decode b_M_place 5 = .ok (.aload_n 0, 1) := by decide +kernel
theorem d_M_place_6 : decode b_M_place 6 = .ok (.getfield 16, 3) := by decide +kernel
theorem d_M_place_9 : decode b_M_place 9 = .ok (.iload_n 1, 1) := by decide +kernel
theorem d_M_place_10 : decode b_M_place 10 = .ok (.laload, 1) := by decide +kernel
theorem d_M_place_11 : decode b_M_place 11 = .ok (.aload_n 0, 1) := by decide +kernel
theorem d_M_place_12 : decode b_M_place 12 = .ok (.getfield 7, 3) := by decide +kernel
theorem d_M_place_15 : decode b_M_place 15 = .ok (.iload_n 1, 1) := by decide +kernel
theorem d_M_place_16 : decode b_M_place 16 = .ok (.iaload, 1) := by decide +kernel
theorem d_M_place_17 : decode b_M_place 17 = .ok (.invokestatic 38, 3) := by decide +kernel
theorem d_M_place_20 : decode b_M_place 20 = .ok (.istore 5, 2) := by decide +kernel
theorem d_M_place_22 : decode b_M_place 22 = .ok (.iload 4, 2) := by decide +kernel
theorem d_M_place_24 : decode b_M_place 24 = .ok (.iload 5, 2) := by decide +kernel
theorem d_M_place_26 : decode b_M_place 26 = .ok (.if_icmp .le 59, 3) := by decide +kernel
theorem d_M_place_29 : decode b_M_place 29 = .ok (.aload_n 0, 1) := by decide +kernel
theorem d_M_place_30 : decode b_M_place 30 = .ok (.iload_n 1, 1) := by decide +kernel
theorem d_M_place_31 : decode b_M_place 31 = .ok (.invokevirtual 56, 3) := by decide +kernel
theorem d_M_place_34 : decode b_M_place 34 = .ok (.istore 6, 2) := by decide +kernel
theorem d_M_place_36 : decode b_M_place 36 = .ok (.iload 6, 2) := by decide +kernel
theorem d_M_place_38 : decode b_M_place 38 = .ok (.ifCond .ne 5, 3) := by decide +kernel
theorem d_M_place_41 : decode b_M_place 41 = .ok (.iconst (-1), 1) := by decide +kernel
theorem d_M_place_42 : decode b_M_place 42 = .ok (.ireturn, 1) := by decide +kernel
theorem d_M_place_43 : decode b_M_place 43 = .ok (.iload 4, 2) := by decide +kernel
theorem d_M_place_45 : decode b_M_place 45 = .ok (.iload 5, 2) := by decide +kernel
theorem d_M_place_47 : decode b_M_place 47 = .ok (.isub, 1) := by decide +kernel
theorem d_M_place_48 : decode b_M_place 48 = .ok (.iconst 1, 1) := by decide +kernel
theorem d_M_place_49 : decode b_M_place 49 = .ok (.isub, 1) := by decide +kernel
theorem d_M_place_50 : decode b_M_place 50 = .ok (.iload 6, 2) := by decide +kernel
theorem d_M_place_52 : decode b_M_place 52 = .ok (.idiv, 1) := by decide +kernel
theorem d_M_place_53 : decode b_M_place 53 = .ok (.istore 7, 2) := by decide +kernel
theorem d_M_place_55 : decode b_M_place 55 = .ok (.iload 4, 2) := by decide +kernel
theorem d_M_place_57 : decode b_M_place 57 = .ok (.iload 5, 2) := by decide +kernel
theorem d_M_place_59 : decode b_M_place 59 = .ok (.iload 7, 2) := by decide +kernel
theorem d_M_place_61 : decode b_M_place 61 = .ok (.iload 6, 2) := by decide +kernel
theorem d_M_place_63 : decode b_M_place 63 = .ok (.imul, 1) := by decide +kernel
theorem d_M_place_64 : decode b_M_place 64 = .ok (.iadd, 1) := by decide +kernel
theorem d_M_place_65 : decode b_M_place 65 = .ok (.isub, 1) := by decide +kernel
theorem d_M_place_66 : decode b_M_place 66 = .ok (.istore 4, 2) := by decide +kernel
theorem d_M_place_68 : decode b_M_place 68 = .ok (.aload_n 0, 1) := by decide +kernel
theorem d_M_place_69 : decode b_M_place 69 = .ok (.getfield 7, 3) := by decide +kernel
theorem d_M_place_72 : decode b_M_place 72 = .ok (.iload_n 1, 1) := by decide +kernel
theorem d_M_place_73 : decode b_M_place 73 = .ok (.iaload, 1) := by decide +kernel
theorem d_M_place_74 : decode b_M_place 74 = .ok (.iload 7, 2) := by decide +kernel
theorem d_M_place_76 : decode b_M_place 76 = .ok (.aload_n 0, 1) := by decide +kernel
theorem d_M_place_77 : decode b_M_place 77 = .ok (.getfield 13, 3) := by decide +kernel
theorem d_M_place_80 : decode b_M_place 80 = .ok (.iload_n 1, 1) := by decide +kernel
theorem d_M_place_81 : decode b_M_place 81 = .ok (.iaload, 1) := by decide +kernel
theorem d_M_place_82 : decode b_M_place 82 = .ok (.imul, 1) := by decide +kernel
theorem d_M_place_83 : decode b_M_place 83 = .ok (.iadd, 1) := by decide +kernel
theorem d_M_place_84 : decode b_M_place 84 = .ok (.istore_n 3, 1) := by decide +kernel
theorem d_M_place_85 : decode b_M_place 85 = .ok (.iload 4, 2) := by decide +kernel
theorem d_M_place_87 : decode b_M_place 87 = .ok (.aload_n 0, 1) := by decide +kernel
theorem d_M_place_88 : decode b_M_place 88 = .ok (.iload_n 1, 1) := by decide +kernel
theorem d_M_place_89 : decode b_M_place 89 = .ok (.iload_n 3, 1) := by decide +kernel
theorem d_M_place_90 : decode b_M_place 90 = .ok (.invokevirtual 52, 3) := by decide +kernel
theorem d_M_place_93 : decode b_M_place 93 = .ok (.ifCond .eq 7, 3) := by decide +kernel
theorem d_M_place_96 : decode b_M_place 96 = .ok (.iconst 1, 1) := by decide +kernel
theorem d_M_place_97 : decode b_M_place 97 = .ok (.goto 4, 3) := by decide +kernel
theorem d_M_place_100 : decode b_M_place 100 = .ok (.iconst 0, 1) := by decide +kernel
theorem d_M_place_101 : decode b_M_place 101 = .ok (.isub, 1) := by decide +kernel
theorem d_M_place_102 : decode b_M_place 102 = .ok (.istore 4, 2) := by decide +kernel
theorem d_M_place_104 : decode b_M_place 104 = .ok (.iload 4, 2) := by decide +kernel
theorem d_M_place_106 : decode b_M_place 106 = .ok (.ifCond .ne 5, 3) := by decide +kernel
theorem d_M_place_109 : decode b_M_place 109 = .ok (.iload_n 3, 1) := by decide +kernel
theorem d_M_place_110 : decode b_M_place 110 = .ok (.ireturn, 1) := by decide +kernel
theorem d_M_place_111 : decode b_M_place 111 = .ok (.iinc 3 1, 3) := by decide +kernel
theorem d_M_place_114 : decode b_M_place 114 = .ok (.goto (-29), 3) := by decide +kernel
theorem d_M_at_0 : decode b_M_at 0 = .ok (.aload_n 0, 1) := by decide +kernel
theorem d_M_at_1 : decode b_M_at 1 = .ok (.iconst 0, 1) := by decide +kernel
theorem d_M_at_2 : decode b_M_at 2 = .ok (.putfield 27, 3) := by decide +kernel
theorem d_M_at_5 : decode b_M_at 5 = .ok (.aload_n 0, 1) := by decide +kernel
theorem d_M_at_6 : decode b_M_at 6 = .ok (.iload_n 1, 1) := by decide +kernel
theorem d_M_at_7 : decode b_M_at 7 = .ok (.invokevirtual 60, 3) := by decide +kernel
theorem d_M_at_10 : decode b_M_at 10 = .ok (.ifCond .eq 13, 3) := by decide +kernel
theorem d_M_at_13 : decode b_M_at 13 = .ok (.iload_n 2, 1) := by decide +kernel
theorem d_M_at_14 : decode b_M_at 14 = .ok (.iconst 1, 1) := by decide +kernel
theorem d_M_at_15 : decode b_M_at 15 = .ok (.ldc 94, 2) := by decide +kernel
theorem d_M_at_17 : decode b_M_at 17 = .ok (.invokestatic 34, 3) := by decide +kernel
theorem d_M_at_20 : decode b_M_at 20 = .ok (.ifCond .ne 8, 3) := by decide +kernel
theorem d_M_at_23 : decode b_M_at 23 = .ok (.aload_n 0, 1) := by decide +kernel
theorem d_M_at_24 : decode b_M_at 24 = .ok (.invokevirtual 64, 3) := by decide +kernel
theorem d_M_at_27 : decode b_M_at 27 = .ok (.ireturn, 1) := by decide +kernel
theorem d_M_at_28 : decode b_M_at 28 = .ok (.aload_n 0, 1) := by decide +kernel
theorem d_M_at_29 : decode b_M_at 29 = .ok (.iload_n 1, 1) := by decide +kernel
theorem d_M_at_30 : decode b_M_at 30 = .ok (.iload_n 2, 1) := by decide +kernel
theorem d_M_at_31 : decode b_M_at 31 = .ok (.invokevirtual 95, 3) := by decide +kernel
theorem d_M_at_34 : decode b_M_at 34 = .ok (.istore_n 3, 1) := by decide +kernel
theorem d_M_at_35 : decode b_M_at 35 = .ok (.iload_n 3, 1) := by decide +kernel
theorem d_M_at_36 : decode b_M_at 36 = .ok (.iconst (-1), 1) := by decide +kernel
theorem d_M_at_37 : decode b_M_at 37 = .ok (.if_icmp .ne 10, 3) := by decide +kernel
theorem d_M_at_40 : decode b_M_at 40 = .ok (.aload_n 0, 1) := by decide +kernel
theorem d_M_at_41 : decode b_M_at 41 = .ok (.invokevirtual 64, 3) := by decide +kernel
theorem d_M_at_44 : decode b_M_at 44 = .ok (.goto 4, 3) := by decide +kernel
theorem d_M_at_47 : decode b_M_at 47 = .ok (.iload_n 3, 1) := by decide +kernel
theorem d_M_at_48 : decode b_M_at 48 = .ok (.ireturn, 1) := by decide +kernel
theorem d_M_same_0 : decode b_M_same 0 = .ok (.aload_n 0, 1) := by decide +kernel
theorem d_M_same_1 : decode b_M_same 1 = .ok (.iconst 0, 1) := by decide +kernel
theorem d_M_same_2 : decode b_M_same 2 = .ok (.putfield 27, 3) := by decide +kernel
theorem d_M_same_5 : decode b_M_same 5 = .ok (.aload_n 0, 1) := by decide +kernel
theorem d_M_same_6 : decode b_M_same 6 = .ok (.iload_n 1, 1) := by decide +kernel
theorem d_M_same_7 : decode b_M_same 7 = .ok (.invokevirtual 60, 3) := by decide +kernel
theorem d_M_same_10 : decode b_M_same 10 = .ok (.ifCond .ne 5, 3) := by decide +kernel
theorem d_M_same_13 : decode b_M_same 13 = .ok (.iconst (-1), 1) := by decide +kernel
theorem d_M_same_14 : decode b_M_same 14 = .ok (.ireturn, 1) := by decide +kernel
theorem d_M_same_15 : decode b_M_same 15 = .ok (.iconst 0, 1) := by decide +kernel
theorem d_M_same_16 : decode b_M_same 16 = .ok (.istore_n 2, 1) := by decide +kernel
theorem d_M_same_17 : decode b_M_same 17 = .ok (.aload_n 0, 1) := by decide +kernel
theorem d_M_same_18 : decode b_M_same 18 = .ok (.getfield 7, 3) := by decide +kernel
theorem d_M_same_21 : decode b_M_same 21 = .ok (.iload_n 2, 1) := by decide +kernel
theorem d_M_same_22 : decode b_M_same 22 = .ok (.iaload, 1) := by decide +kernel
theorem d_M_same_23 : decode b_M_same 23 = .ok (.aload_n 0, 1) := by decide +kernel
theorem d_M_same_24 : decode b_M_same 24 = .ok (.getfield 7, 3) := by decide +kernel
theorem d_M_same_27 : decode b_M_same 27 = .ok (.iload_n 1, 1) := by decide +kernel
theorem d_M_same_28 : decode b_M_same 28 = .ok (.iaload, 1) := by decide +kernel
theorem d_M_same_29 : decode b_M_same 29 = .ok (.if_icmp .ne 50, 3) := by decide +kernel
theorem d_M_same_32 : decode b_M_same 32 = .ok (.aload_n 0, 1) := by decide +kernel
theorem d_M_same_33 : decode b_M_same 33 = .ok (.getfield 13, 3) := by decide +kernel
theorem d_M_same_36 : decode b_M_same 36 = .ok (.iload_n 2, 1) := by decide +kernel
theorem d_M_same_37 : decode b_M_same 37 = .ok (.iaload, 1) := by decide +kernel
theorem d_M_same_38 : decode b_M_same 38 = .ok (.aload_n 0, 1) := by decide +kernel
theorem d_M_same_39 : decode b_M_same 39 = .ok (.getfield 13, 3) := by decide +kernel
theorem d_M_same_42 : decode b_M_same 42 = .ok (.iload_n 1, 1) := by decide +kernel
theorem d_M_same_43 : decode b_M_same 43 = .ok (.iaload, 1) := by decide +kernel
theorem d_M_same_44 : decode b_M_same 44 = .ok (.if_icmp .ne 35, 3) := by decide +kernel
theorem d_M_same_47 : decode b_M_same 47 = .ok (.aload_n 0, 1) := by decide +kernel
theorem d_M_same_48 : decode b_M_same 48 = .ok (.getfield 16, 3) := by decide +kernel
theorem d_M_same_51 : decode b_M_same 51 = .ok (.iload_n 2, 1) := by decide +kernel
theorem d_M_same_52 : decode b_M_same 52 = .ok (.laload, 1) := by decide +kernel
theorem d_M_same_53 : decode b_M_same 53 = .ok (.aload_n 0, 1) := by decide +kernel
theorem d_M_same_54 : decode b_M_same 54 = .ok (.getfield 16, 3) := by decide +kernel
theorem d_M_same_57 : decode b_M_same 57 = .ok (.iload_n 1, 1) := by decide +kernel
theorem d_M_same_58 : decode b_M_same 58 = .ok (.laload, 1) := by decide +kernel
theorem d_M_same_59 : decode b_M_same 59 = .ok (.lcmp, 1) := by decide +kernel
theorem d_M_same_60 : decode b_M_same 60 = .ok (.ifCond .ne 19, 3) := by decide +kernel
theorem d_M_same_63 : decode b_M_same 63 = .ok (.aload_n 0, 1) := by decide +kernel
theorem d_M_same_64 : decode b_M_same 64 = .ok (.getfield 20, 3) := by decide +kernel
theorem d_M_same_67 : decode b_M_same 67 = .ok (.iload_n 2, 1) := by decide +kernel
theorem d_M_same_68 : decode b_M_same 68 = .ok (.laload, 1) := by decide +kernel
theorem d_M_same_69 : decode b_M_same 69 = .ok (.aload_n 0, 1) := by decide +kernel
theorem d_M_same_70 : decode b_M_same 70 = .ok (.getfield 20, 3) := by decide +kernel
theorem d_M_same_73 : decode b_M_same 73 = .ok (.iload_n 1, 1) := by decide +kernel
theorem d_M_same_74 : decode b_M_same 74 = .ok (.laload, 1) := by decide +kernel
theorem d_M_same_75 : decode b_M_same 75 = .ok (.lcmp, 1) := by decide +kernel
theorem d_M_same_76 : decode b_M_same 76 = .ok (.ifCond .eq 9, 3) := by decide +kernel
theorem d_M_same_79 : decode b_M_same 79 = .ok (.iinc 2 1, 3) := by decide +kernel
theorem d_M_same_82 : decode b_M_same 82 = .ok (.goto (-65), 3) := by decide +kernel
theorem d_M_same_85 : decode b_M_same 85 = .ok (.iload_n 2, 1) := by decide +kernel
theorem d_M_same_86 : decode b_M_same 86 = .ok (.ireturn, 1) := by decide +kernel
theorem d_M_rates_0 : decode b_M_rates 0 = .ok (.aload_n 0, 1) := by decide +kernel
theorem d_M_rates_1 : decode b_M_rates 1 = .ok (.iload_n 1, 1) := by decide +kernel
theorem d_M_rates_2 : decode b_M_rates 2 = .ok (.invokevirtual 56, 3) := by decide +kernel
theorem d_M_rates_5 : decode b_M_rates 5 = .ok (.aload_n 0, 1) := by decide +kernel
theorem d_M_rates_6 : decode b_M_rates 6 = .ok (.getfield 13, 3) := by decide +kernel
theorem d_M_rates_9 : decode b_M_rates 9 = .ok (.iload_n 2, 1) := by decide +kernel
theorem d_M_rates_10 : decode b_M_rates 10 = .ok (.iaload, 1) := by decide +kernel
theorem d_M_rates_11 : decode b_M_rates 11 = .ok (.imul, 1) := by decide +kernel
theorem d_M_rates_12 : decode b_M_rates 12 = .ok (.aload_n 0, 1) := by decide +kernel
theorem d_M_rates_13 : decode b_M_rates 13 = .ok (.iload_n 2, 1) := by decide +kernel
theorem d_M_rates_14 : decode b_M_rates 14 = .ok (.invokevirtual 56, 3) := by decide +kernel
theorem d_M_rates_17 : decode b_M_rates 17 = .ok (.aload_n 0, 1) := by decide +kernel
theorem d_M_rates_18 : decode b_M_rates 18 = .ok (.getfield 13, 3) := by decide +kernel
theorem d_M_rates_21 : decode b_M_rates 21 = .ok (.iload_n 1, 1) := by decide +kernel
theorem d_M_rates_22 : decode b_M_rates 22 = .ok (.iaload, 1) := by decide +kernel
theorem d_M_rates_23 : decode b_M_rates 23 = .ok (.imul, 1) := by decide +kernel
theorem d_M_rates_24 : decode b_M_rates 24 = .ok (.isub, 1) := by decide +kernel
theorem d_M_rates_25 : decode b_M_rates 25 = .ok (.ireturn, 1) := by decide +kernel
theorem d_M_till_0 : decode b_M_till 0 = .ok (.aload_n 0, 1) := by decide +kernel
theorem d_M_till_1 : decode b_M_till 1 = .ok (.getfield 7, 3) := by decide +kernel
theorem d_M_till_4 : decode b_M_till 4 = .ok (.iload_n 1, 1) := by decide +kernel
theorem d_M_till_5 : decode b_M_till 5 = .ok (.iaload, 1) := by decide +kernel
theorem d_M_till_6 : decode b_M_till 6 = .ok (.aload_n 0, 1) := by decide +kernel
theorem d_M_till_7 : decode b_M_till 7 = .ok (.getfield 7, 3) := by decide +kernel
theorem d_M_till_10 : decode b_M_till 10 = .ok (.iload_n 2, 1) := by decide +kernel
theorem d_M_till_11 : decode b_M_till 11 = .ok (.iaload, 1) := by decide +kernel
theorem d_M_till_12 : decode b_M_till 12 = .ok (.invokestatic 49, 3) := by decide +kernel
theorem d_M_till_15 : decode b_M_till 15 = .ok (.aload_n 0, 1) := by decide +kernel
theorem d_M_till_16 : decode b_M_till 16 = .ok (.getfield 13, 3) := by decide +kernel
theorem d_M_till_19 : decode b_M_till 19 = .ok (.iload_n 1, 1) := by decide +kernel
theorem d_M_till_20 : decode b_M_till 20 = .ok (.iaload, 1) := by decide +kernel
theorem d_M_till_21 : decode b_M_till 21 = .ok (.aload_n 0, 1) := by decide +kernel
theorem d_M_till_22 : decode b_M_till 22 = .ok (.getfield 13, 3) := by decide +kernel
theorem d_M_till_25 : decode b_M_till 25 = .ok (.iload_n 2, 1) := by decide +kernel
theorem d_M_till_26 : decode b_M_till 26 = .ok (.iaload, 1) := by decide +kernel
theorem d_M_till_27 : decode b_M_till 27 = .ok (.imul, 1) := by decide +kernel
theorem d_M_till_28 : decode b_M_till 28 = .ok (.iadd, 1) := by decide +kernel
theorem d_M_till_29 : decode b_M_till 29 = .ok (.ireturn, 1) := by decide +kernel
theorem d_M_keep_0 : decode b_M_keep 0 = .ok (.aload_n 0, 1) := by decide +kernel
theorem d_M_keep_1 : decode b_M_keep 1 = .ok (.iconst 0, 1) := by decide +kernel
theorem d_M_keep_2 : decode b_M_keep 2 = .ok (.putfield 98, 3) := by decide +kernel
theorem d_M_keep_5 : decode b_M_keep 5 = .ok (.aload_n 0, 1) := by decide +kernel
theorem d_M_keep_6 : decode b_M_keep 6 = .ok (.iconst 0, 1) := by decide +kernel
theorem d_M_keep_7 : decode b_M_keep 7 = .ok (.putfield 101, 3) := by decide +kernel
theorem d_M_keep_10 : decode b_M_keep 10 = .ok (.iconst 0, 1) := by decide +kernel
theorem d_M_keep_11 : decode b_M_keep 11 = .ok (.istore_n 3, 1) := by decide +kernel
theorem d_M_keep_12 : decode b_M_keep 12 = .ok (.iconst 0, 1) := by decide +kernel
theorem d_M_keep_13 : decode b_M_keep 13 = .ok (.istore 4, 2) := by decide +kernel
theorem d_M_keep_15 : decode b_M_keep 15 = .ok (.iload 4, 2) := by decide +kernel
theorem d_M_keep_17 : decode b_M_keep 17 = .ok (.aload_n 0, 1) := by decide +kernel
theorem d_M_keep_18 : decode b_M_keep 18 = .ok (.iload_n 1, 1) := by decide +kernel
theorem d_M_keep_19 : decode b_M_keep 19 = .ok (.iload_n 2, 1) := by decide +kernel
theorem d_M_keep_20 : decode b_M_keep 20 = .ok (.invokevirtual 104, 3) := by decide +kernel
theorem d_M_keep_23 : decode b_M_keep 23 = .ok (.if_icmp .ge 83, 3) := by decide +kernel
theorem d_M_keep_26 : decode b_M_keep 26 = .ok (.iload_n 3, 1) := by decide +kernel
theorem d_M_keep_27 : decode b_M_keep 27 = .ok (.aload_n 0, 1) := by decide +kernel
theorem d_M_keep_28 : decode b_M_keep 28 = .ok (.iload_n 1, 1) := by decide +kernel
theorem d_M_keep_29 : decode b_M_keep 29 = .ok (.iload 4, 2) := by decide +kernel
theorem d_M_keep_31 : decode b_M_keep 31 = .ok (.invokevirtual 52, 3) := by decide +kernel
theorem d_M_keep_34 : decode b_M_keep 34 = .ok (.ifCond .eq 7, 3) := by decide +kernel
theorem d_M_keep_37 : decode b_M_keep 37 = .ok (.iconst 1, 1) := by decide +kernel
theorem d_M_keep_38 : decode b_M_keep 38 = .ok (.goto 4, 3) := by decide +kernel
theorem d_M_keep_41 : decode b_M_keep 41 = .ok (.iconst 0, 1) := by decide +kernel
theorem d_M_keep_42 : decode b_M_keep 42 = .ok (.aload_n 0, 1) := by decide +kernel
theorem d_M_keep_43 : decode b_M_keep 43 = .ok (.iload_n 2, 1) := by decide +kernel
theorem d_M_keep_44 : decode b_M_keep 44 = .ok (.iload 4, 2) := by decide +kernel
theorem d_M_keep_46 : decode b_M_keep 46 = .ok (.invokevirtual 52, 3) := by decide +kernel
theorem d_M_keep_49 : decode b_M_keep 49 = .ok (.ifCond .eq 7, 3) := by decide +kernel
theorem d_M_keep_52 : decode b_M_keep 52 = .ok (.iconst 1, 1) := by decide +kernel
theorem d_M_keep_53 : decode b_M_keep 53 = .ok (.goto 4, 3) := by decide +kernel
theorem d_M_keep_56 : decode b_M_keep 56 = .ok (.iconst 0, 1) := by decide +kernel
theorem d_M_keep_57 : decode b_M_keep 57 = .ok (.isub, 1) := by decide +kernel
theorem d_M_keep_58 : decode b_M_keep 58 = .ok (.iadd, 1) := by decide +kernel
theorem d_M_keep_59 : decode b_M_keep 59 = .ok (.istore_n 3, 1) := by decide +kernel
theorem d_M_keep_60 : decode b_M_keep 60 = .ok (.aload_n 0, 1) := by decide +kernel
theorem d_M_keep_61 : decode b_M_keep 61 = .ok (.iload_n 3, 1) := by decide +kernel
theorem d_M_keep_62 : decode b_M_keep 62 = .ok (.aload_n 0, 1) := by decide +kernel
theorem d_M_keep_63 : decode b_M_keep 63 = .ok (.getfield 98, 3) := by decide +kernel
theorem d_M_keep_66 : decode b_M_keep 66 = .ok (.if_icmp .le 7, 3) := by decide +kernel
theorem d_M_keep_69 : decode b_M_keep 69 = .ok (.iload_n 3, 1) := by decide +kernel
theorem d_M_keep_70 : decode b_M_keep 70 = .ok (.goto 7, 3) := by decide +kernel
theorem d_M_keep_73 : decode b_M_keep 73 = .ok (.aload_n 0, 1) := by decide +kernel
theorem d_M_keep_74 : decode b_M_keep 74 = .ok (.getfield 98, 3) := by decide +kernel
theorem d_M_keep_77 : decode b_M_keep 77 = .ok (.putfield 98, 3) := by decide +kernel
theorem d_M_keep_80 : decode b_M_keep 80 = .ok (.aload_n 0, 1) := by decide +kernel
theorem d_M_keep_81 : decode b_M_keep 81 = .ok (.iload_n 3, 1) := by decide +kernel
theorem d_M_keep_82 : decode b_M_keep 82 = .ok (.aload_n 0, 1) := by decide +kernel
theorem d_M_keep_83 : decode b_M_keep 83 = .ok (.getfield 101, 3) := by decide +kernel
theorem d_M_keep_86 : decode b_M_keep 86 = .ok (.if_icmp .ge 7, 3) := by decide +kernel
theorem d_M_keep_89 : decode b_M_keep 89 = .ok (.iload_n 3, 1) := by decide +kernel
theorem d_M_keep_90 : decode b_M_keep 90 = .ok (.goto 7, 3) := by decide +kernel
theorem d_M_keep_93 : decode b_M_keep 93 = .ok (.aload_n 0, 1) := by decide +kernel
theorem d_M_keep_94 : decode b_M_keep 94 = .ok (.getfield 101, 3) := by decide +kernel
theorem d_M_keep_97 : decode b_M_keep 97 = .ok (.putfield 101, 3) := by decide +kernel
theorem d_M_keep_100 : decode b_M_keep 100 = .ok (.iinc 4 1, 3) := by decide +kernel
theorem d_M_keep_103 : decode b_M_keep 103 = .ok (.goto (-88), 3) := by decide +kernel
theorem d_M_keep_106 : decode b_M_keep 106 = .ok (.return_, 1) := by decide +kernel
theorem d_M_ahead_0 : decode b_M_ahead 0 = .ok (.aload_n 0, 1) := by decide +kernel
theorem d_M_ahead_1 : decode b_M_ahead 1 = .ok (.iconst 0, 1) := by decide +kernel
theorem d_M_ahead_2 : decode b_M_ahead 2 = .ok (.putfield 27, 3) := by decide +kernel
theorem d_M_ahead_5 : decode b_M_ahead 5 = .ok (.aload_n 0, 1) := by decide +kernel
theorem d_M_ahead_6 : decode b_M_ahead 6 = .ok (.iload_n 1, 1) := by decide +kernel
theorem d_M_ahead_7 : decode b_M_ahead 7 = .ok (.invokevirtual 60, 3) := by decide +kernel
theorem d_M_ahead_10 : decode b_M_ahead 10 = .ok (.ifCond .eq 20, 3) := by decide +kernel
theorem d_M_ahead_13 : decode b_M_ahead 13 = .ok (.aload_n 0, 1) := by decide +kernel
theorem d_M_ahead_14 : decode b_M_ahead 14 = .ok (.iload_n 2, 1) := by decide +kernel
theorem d_M_ahead_15 : decode b_M_ahead 15 = .ok (.invokevirtual 60, 3) := by decide +kernel
theorem d_M_ahead_18 : decode b_M_ahead 18 = .ok (.ifCond .eq 12, 3) := by decide +kernel
theorem d_M_ahead_21 : decode b_M_ahead 21 = .ok (.aload_n 0, 1) := by decide +kernel
theorem d_M_ahead_22 : decode b_M_ahead 22 = .ok (.iload_n 1, 1) := by decide +kernel
theorem d_M_ahead_23 : decode b_M_ahead 23 = .ok (.iload_n 2, 1) := by decide +kernel
theorem d_M_ahead_24 : decode b_M_ahead 24 = .ok (.invokevirtual 107, 3) := by decide +kernel
theorem d_M_ahead_27 : decode b_M_ahead 27 = .ok (.ifCond .ge 5, 3) := by decide +kernel
theorem d_M_ahead_30 : decode b_M_ahead 30 = .ok (.iconst 0, 1) := by decide +kernel
theorem d_M_ahead_31 : decode b_M_ahead 31 = .ok (.ireturn, 1) := by decide +kernel
theorem d_M_ahead_32 : decode b_M_ahead 32 = .ok (.aload_n 0, 1) := by decide +kernel
theorem d_M_ahead_33 : decode b_M_ahead 33 = .ok (.iload_n 1, 1) := by decide +kernel
theorem d_M_ahead_34 : decode b_M_ahead 34 = .ok (.iload_n 2, 1) := by decide +kernel
theorem d_M_ahead_35 : decode b_M_ahead 35 = .ok (.invokevirtual 110, 3) := by decide +kernel
theorem d_M_ahead_38 : decode b_M_ahead 38 = .ok (.aload_n 0, 1) := by decide +kernel
theorem d_M_ahead_39 : decode b_M_ahead 39 = .ok (.getfield 101, 3) := by decide +kernel
theorem d_M_ahead_42 : decode b_M_ahead 42 = .ok (.ifCond .ne 7, 3) := by decide +kernel
theorem d_M_ahead_45 : decode b_M_ahead 45 = .ok (.iconst 1, 1) := by decide +kernel
theorem d_M_ahead_46 : decode b_M_ahead 46 = .ok (.goto 4, 3) := by decide +kernel
theorem d_M_ahead_49 : decode b_M_ahead 49 = .ok (.iconst 0, 1) := by decide +kernel
theorem d_M_ahead_50 : decode b_M_ahead 50 = .ok (.ireturn, 1) := by decide +kernel
theorem d_M_waiting_0 : decode b_M_waiting 0 = .ok (.aload_n 0, 1) := by decide +kernel
theorem d_M_waiting_1 : decode b_M_waiting 1 = .ok (.iload_n 1, 1) := by decide +kernel
theorem d_M_waiting_2 : decode b_M_waiting 2 = .ok (.iload_n 2, 1) := by decide +kernel
theorem d_M_waiting_3 : decode b_M_waiting 3 = .ok (.invokevirtual 107, 3) := by decide +kernel
theorem d_M_waiting_6 : decode b_M_waiting 6 = .ok (.ifCond .ge 5, 3) := by decide +kernel
theorem d_M_waiting_9 : decode b_M_waiting 9 = .ok (.iconst (-1), 1) := by decide +kernel
theorem d_M_waiting_10 : decode b_M_waiting 10 = .ok (.ireturn, 1) := by decide +kernel
theorem d_M_waiting_11 : decode b_M_waiting 11 = .ok (.iconst 0, 1) := by decide +kernel
theorem d_M_waiting_12 : decode b_M_waiting 12 = .ok (.istore_n 3, 1) := by decide +kernel
theorem d_M_waiting_13 : decode b_M_waiting 13 = .ok (.bipush 61, 2) := by decide +kernel
theorem d_M_waiting_15 : decode b_M_waiting 15 = .ok (.aload_n 0, 1) := by decide +kernel
theorem d_M_waiting_16 : decode b_M_waiting 16 = .ok (.iload_n 2, 1) := by decide +kernel
theorem d_M_waiting_17 : decode b_M_waiting 17 = .ok (.invokevirtual 56, 3) := by decide +kernel
theorem d_M_waiting_20 : decode b_M_waiting 20 = .ok (.aload_n 0, 1) := by decide +kernel
theorem d_M_waiting_21 : decode b_M_waiting 21 = .ok (.getfield 13, 3) := by decide +kernel
theorem d_M_waiting_24 : decode b_M_waiting 24 = .ok (.iload_n 1, 1) := by decide +kernel
theorem d_M_waiting_25 : decode b_M_waiting 25 = .ok (.iaload, 1) := by decide +kernel
theorem d_M_waiting_26 : decode b_M_waiting 26 = .ok (.imul, 1) := by decide +kernel
theorem d_M_waiting_27 : decode b_M_waiting 27 = .ok (.iadd, 1) := by decide +kernel
theorem d_M_waiting_28 : decode b_M_waiting 28 = .ok (.istore 4, 2) := by decide +kernel
theorem d_M_waiting_30 : decode b_M_waiting 30 = .ok (.iconst 1, 1) := by decide +kernel
theorem d_M_waiting_31 : decode b_M_waiting 31 = .ok (.istore 5, 2) := by decide +kernel
theorem d_M_waiting_33 : decode b_M_waiting 33 = .ok (.iload 5, 2) := by decide +kernel
theorem d_M_waiting_35 : decode b_M_waiting 35 = .ok (.iload 4, 2) := by decide +kernel
theorem d_M_waiting_37 : decode b_M_waiting 37 = .ok (.if_icmp .gt 53, 3) := by decide +kernel
theorem d_M_waiting_40 : decode b_M_waiting 40 = .ok (.aload_n 0, 1) := by decide +kernel
theorem d_M_waiting_41 : decode b_M_waiting 41 = .ok (.iload_n 2, 1) := by decide +kernel
theorem d_M_waiting_42 : decode b_M_waiting 42 = .ok (.iload 5, 2) := by decide +kernel
theorem d_M_waiting_44 : decode b_M_waiting 44 = .ok (.invokevirtual 95, 3) := by decide +kernel
theorem d_M_waiting_47 : decode b_M_waiting 47 = .ok (.istore 6, 2) := by decide +kernel
theorem d_M_waiting_49 : decode b_M_waiting 49 = .ok (.iload 6, 2) := by decide +kernel
theorem d_M_waiting_51 : decode b_M_waiting 51 = .ok (.iconst (-1), 1) := by decide +kernel
theorem d_M_waiting_52 : decode b_M_waiting 52 = .ok (.if_icmp .ne 5, 3) := by decide +kernel
theorem d_M_waiting_55 : decode b_M_waiting 55 = .ok (.iload_n 3, 1) := by decide +kernel
theorem d_M_waiting_56 : decode b_M_waiting 56 = .ok (.ireturn, 1) := by decide +kernel
theorem d_M_waiting_57 : decode b_M_waiting 57 = .ok (.aload_n 0, 1) := by decide +kernel
theorem d_M_waiting_58 : decode b_M_waiting 58 = .ok (.iload_n 1, 1) := by decide +kernel
theorem d_M_waiting_59 : decode b_M_waiting 59 = .ok (.iload 5, 2) := by decide +kernel
theorem d_M_waiting_61 : decode b_M_waiting 61 = .ok (.invokevirtual 95, 3) := by decide +kernel
theorem d_M_waiting_64 : decode b_M_waiting 64 = .ok (.istore 7, 2) := by decide +kernel
theorem d_M_waiting_66 : decode b_M_waiting 66 = .ok (.iload 7, 2) := by decide +kernel
theorem d_M_waiting_68 : decode b_M_waiting 68 = .ok (.iconst (-1), 1) := by decide +kernel
theorem d_M_waiting_69 : decode b_M_waiting 69 = .ok (.if_icmp .ne 5, 3) := by decide +kernel
theorem d_M_waiting_72 : decode b_M_waiting 72 = .ok (.iconst (-1), 1) := by decide +kernel
theorem d_M_waiting_73 : decode b_M_waiting 73 = .ok (.ireturn, 1) := by decide +kernel
theorem d_M_waiting_74 : decode b_M_waiting 74 = .ok (.iload_n 3, 1) := by decide +kernel
theorem d_M_waiting_75 : decode b_M_waiting 75 = .ok (.iload 7, 2) := by decide +kernel
theorem d_M_waiting_77 : decode b_M_waiting 77 = .ok (.iload 6, 2) := by decide +kernel
theorem d_M_waiting_79 : decode b_M_waiting 79 = .ok (.isub, 1) := by decide +kernel
theorem d_M_waiting_80 : decode b_M_waiting 80 = .ok (.invokestatic 49, 3) := by decide +kernel
theorem d_M_waiting_83 : decode b_M_waiting 83 = .ok (.istore_n 3, 1) := by decide +kernel
theorem d_M_waiting_84 : decode b_M_waiting 84 = .ok (.iinc 5 1, 3) := by decide +kernel
theorem d_M_waiting_87 : decode b_M_waiting 87 = .ok (.goto (-54), 3) := by decide +kernel
theorem d_M_waiting_90 : decode b_M_waiting 90 = .ok (.iload_n 3, 1) := by decide +kernel
theorem d_M_waiting_91 : decode b_M_waiting 91 = .ok (.ireturn, 1) := by decide +kernel
theorem d_M_between_0 : decode b_M_between 0 = .ok (.aload_n 0, 1) := by decide +kernel
theorem d_M_between_1 : decode b_M_between 1 = .ok (.iconst 0, 1) := by decide +kernel
theorem d_M_between_2 : decode b_M_between 2 = .ok (.putfield 27, 3) := by decide +kernel
theorem d_M_between_5 : decode b_M_between 5 = .ok (.aload_n 0, 1) := by decide +kernel
theorem d_M_between_6 : decode b_M_between 6 = .ok (.iload_n 1, 1) := by decide +kernel
theorem d_M_between_7 : decode b_M_between 7 = .ok (.invokevirtual 60, 3) := by decide +kernel
theorem d_M_between_10 : decode b_M_between 10 = .ok (.ifCond .eq 20, 3) := by decide +kernel
theorem d_M_between_13 : decode b_M_between 13 = .ok (.aload_n 0, 1) := by decide +kernel
theorem d_M_between_14 : decode b_M_between 14 = .ok (.iload_n 2, 1) := by decide +kernel
theorem d_M_between_15 : decode b_M_between 15 = .ok (.invokevirtual 60, 3) := by decide +kernel
theorem d_M_between_18 : decode b_M_between 18 = .ok (.ifCond .eq 12, 3) := by decide +kernel
theorem d_M_between_21 : decode b_M_between 21 = .ok (.iload_n 3, 1) := by decide +kernel
theorem d_M_between_22 : decode b_M_between 22 = .ok (.iconst 0, 1) := by decide +kernel
theorem d_M_between_23 : decode b_M_between 23 = .ok (.iconst 2, 1) := by decide +kernel
theorem d_M_between_24 : decode b_M_between 24 = .ok (.invokestatic 34, 3) := by decide +kernel
theorem d_M_between_27 : decode b_M_between 27 = .ok (.ifCond .ne 5, 3) := by decide +kernel
theorem d_M_between_30 : decode b_M_between 30 = .ok (.iconst (-1), 1) := by decide +kernel
theorem d_M_between_31 : decode b_M_between 31 = .ok (.ireturn, 1) := by decide +kernel
theorem d_M_between_32 : decode b_M_between 32 = .ok (.iload_n 3, 1) := by decide +kernel
theorem d_M_between_33 : decode b_M_between 33 = .ok (.iconst 2, 1) := by decide +kernel
theorem d_M_between_34 : decode b_M_between 34 = .ok (.if_icmp .ne 27, 3) := by decide +kernel
theorem d_M_between_37 : decode b_M_between 37 = .ok (.aload_n 0, 1) := by decide +kernel
theorem d_M_between_38 : decode b_M_between 38 = .ok (.iload_n 1, 1) := by decide +kernel
theorem d_M_between_39 : decode b_M_between 39 = .ok (.iload_n 2, 1) := by decide +kernel
theorem d_M_between_40 : decode b_M_between 40 = .ok (.invokevirtual 114, 3) := by decide +kernel
theorem d_M_between_43 : decode b_M_between 43 = .ok (.istore 4, 2) := by decide +kernel
theorem d_M_between_45 : decode b_M_between 45 = .ok (.iload 4, 2) := by decide +kernel
theorem d_M_between_47 : decode b_M_between 47 = .ok (.iconst (-1), 1) := by decide +kernel
theorem d_M_between_48 : decode b_M_between 48 = .ok (.if_icmp .ne 10, 3) := by decide +kernel
theorem d_M_between_51 : decode b_M_between 51 = .ok (.aload_n 0, 1) := by decide +kernel
theorem d_M_between_52 : decode b_M_between 52 = .ok (.invokevirtual 64, 3) := by decide +kernel
theorem d_M_between_55 : decode b_M_between 55 = .ok (.goto 5, 3) := by decide +kernel
theorem d_M_between_58 : decode b_M_between 58 = .ok (.iload 4, 2) := by decide +kernel
theorem d_M_between_60 : decode b_M_between 60 = .ok (.ireturn, 1) := by decide +kernel
theorem d_M_between_61 : decode b_M_between 61 = .ok (.aload_n 0, 1) := by decide +kernel
theorem d_M_between_62 : decode b_M_between 62 = .ok (.iload_n 1, 1) := by decide +kernel
theorem d_M_between_63 : decode b_M_between 63 = .ok (.iload_n 2, 1) := by decide +kernel
theorem d_M_between_64 : decode b_M_between 64 = .ok (.invokevirtual 107, 3) := by decide +kernel
theorem d_M_between_67 : decode b_M_between 67 = .ok (.ifCond .eq 8, 3) := by decide +kernel
theorem d_M_between_70 : decode b_M_between 70 = .ok (.aload_n 0, 1) := by decide +kernel
theorem d_M_between_71 : decode b_M_between 71 = .ok (.invokevirtual 64, 3) := by decide +kernel
theorem d_M_between_74 : decode b_M_between 74 = .ok (.ireturn, 1) := by decide +kernel
theorem d_M_between_75 : decode b_M_between 75 = .ok (.aload_n 0, 1) := by decide +kernel
theorem d_M_between_76 : decode b_M_between 76 = .ok (.iload_n 1, 1) := by decide +kernel
theorem d_M_between_77 : decode b_M_between 77 = .ok (.iload_n 2, 1) := by decide +kernel
theorem d_M_between_78 : decode b_M_between 78 = .ok (.invokevirtual 110, 3) := by decide +kernel
theorem d_M_between_81 : decode b_M_between 81 = .ok (.iload_n 3, 1) := by decide +kernel
theorem d_M_between_82 : decode b_M_between 82 = .ok (.ifCond .ne 10, 3) := by decide +kernel
theorem d_M_between_85 : decode b_M_between 85 = .ok (.aload_n 0, 1) := by decide +kernel
theorem d_M_between_86 : decode b_M_between 86 = .ok (.getfield 98, 3) := by decide +kernel
theorem d_M_between_89 : decode b_M_between 89 = .ok (.goto 8, 3) := by decide +kernel
theorem d_M_between_92 : decode b_M_between 92 = .ok (.aload_n 0, 1) := by decide +kernel
theorem d_M_between_93 : decode b_M_between 93 = .ok (.getfield 101, 3) := by decide +kernel
theorem d_M_between_96 : decode b_M_between 96 = .ok (.ineg, 1) := by decide +kernel
theorem d_M_between_97 : decode b_M_between 97 = .ok (.ireturn, 1) := by decide +kernel
theorem d_M_clear_0 : decode b_M_clear 0 = .ok (.aload_n 0, 1) := by decide +kernel
theorem d_M_clear_1 : decode b_M_clear 1 = .ok (.iconst 0, 1) := by decide +kernel
theorem d_M_clear_2 : decode b_M_clear 2 = .ok (.putfield 27, 3) := by decide +kernel
theorem d_M_clear_5 : decode b_M_clear 5 = .ok (.aload_n 0, 1) := by decide +kernel
theorem d_M_clear_6 : decode b_M_clear 6 = .ok (.iconst 0, 1) := by decide +kernel
theorem d_M_clear_7 : decode b_M_clear 7 = .ok (.putfield 31, 3) := by decide +kernel
theorem d_M_clear_10 : decode b_M_clear 10 = .ok (.return_, 1) := by decide +kernel
theorem d_M_total_0 : decode b_M_total 0 = .ok (.aload_n 0, 1) := by decide +kernel
theorem d_M_total_1 : decode b_M_total 1 = .ok (.iconst 0, 1) := by decide +kernel
theorem d_M_total_2 : decode b_M_total 2 = .ok (.putfield 27, 3) := by decide +kernel
theorem d_M_total_5 : decode b_M_total 5 = .ok (.aload_n 0, 1) := by decide +kernel
theorem d_M_total_6 : decode b_M_total 6 = .ok (.getfield 31, 3) := by decide +kernel
theorem d_M_total_9 : decode b_M_total 9 = .ok (.ireturn, 1) := by decide +kernel
end
section
/-! the reference's cells: the object and its five arrays -/
abbrev md (o a1 a2 a3 a4 a5 : Nat) (c1 c2 c3 c4 c5 : ClassId) (th : Int32) (n : Nat) (mo le : Int32) (xh yr : Nat → Int32) (xb yb : Nat → Int64) (bs : Nat → Int32) : va_W :=
  [(o, .inr (ciM, [.int th, .int (nI n), .ref a1, .ref a2, .ref a3, .ref a4, .ref a5, .int mo, .int le])), (a1, .inl (c1, 40, .inl xh)), (a2, .inl (c2, 40, .inl yr)), (a3, .inl (c3, 40, .inr (.inl xb))), (a4, .inl (c4, 40, .inr (.inl yb))), (a5, .inl (c5, 7400, .inl bs))]
abbrev mdT (c1 c2 c3 c4 c5 : ClassId) : List (ClassId × FieldType) := [(c1, .int), (c2, .int), (c3, .long), (c4, .long), (c5, .boolean)]
/-- the word (h, pp, f) stands under number i -/
def md_at (xh yr : Nat → Int32) (xb yb : Nat → Int64) (i h pp : Nat) (f : Nat → Bool) : Prop := i < 40 ∧ xh i = nI h ∧ yr i = nI pp ∧ xb i = lN (pw_b f 0 h) ∧ yb i = lN (pw_b f h pp) ∧ wd_ok h pp f
theorem pq_isw {x : Int32} {n : Nat} (hn : n ≤ 40) : (¬ x < nI 0 ∧ ¬ nI n - nI 1 < x) ↔ ∃ i, i < n ∧ x = nI i := by
  have e : (nI n - nI 1).toInt = (n : Int) - 1 := pk_sub_toInt (by omega) (by decide)
  constructor
  · rintro ⟨h0, h1⟩
    rcases pk_ix x (n := n) (by omega) with z | z | z
    · exact absurd z h0
    · exfalso
      apply h1
      rw [Int32.lt_iff_toInt_lt, e]
      rw [Int32.le_iff_toInt_le, nI_toInt (by omega)] at z
      omega
    · exact z
  · rintro ⟨i, hi, rfl⟩
    refine ⟨nI_pos (by omega), ?_⟩
    rw [Int32.lt_iff_toInt_lt, e, nI_toInt (by omega)]
    omega
theorem pw_p_s (x k : Nat) : pw_p x (k + 1) = pw_p x k + x / 2 ^ k % 2 := by
  show pw_c _ k + (x.testBit k).toNat = _
  rw [pq_bitN]
  rfl
theorem pw_p_o (f : Nat → Bool) (h p : Nat) : pw_p (pw_b f h p) p = pw_o f h p := pw_p_b f h p p (Nat.le_refl p)
theorem pw_p_c (f : Nat → Bool) (h k : Nat) (hk : k ≤ h) : pw_p (pw_b f 0 h) k = pw_c f k := by
  rw [pw_p_b f 0 h k hk]
  exact pw_c_congr (fun i _ => by rw [Nat.zero_add])
theorem pq_land1 {n : Nat} (hn : n < 2 ^ 64) : lN n &&& lN 1 = lN (n % 2) := wb_a1 hn
theorem pq_gs {x a b : Nat} (hx : x < 1073741824) (ha : a < 1073741824) (hb : b < 1073741824) (h : nI x ≤ nI a - nI b) : nI a - nI b = nI (max x (a - b)) := by
  rw [← pq_maxs hx ha hb]
  rcases Classical.em (nI x < nI a - nI b) with z | z
  · rw [if_pos z]
  · rw [if_neg z]
    apply Int32.toInt_inj.mp
    rw [Int32.le_iff_toInt_le] at h
    rw [Int32.lt_iff_toInt_lt] at z
    omega
theorem pw_plc {f : Nat → Bool} {t left k : Nat} (h1 : 0 < (f t).toNat) (h2 : pw_c f t + left = k) (h3 : 0 < left) (h4 : left - 1 = 0) : pw_N f k t := by
  refine ⟨?_, by omega⟩
  rcases pw_bt (f t) with q | q
  · exact q.2
  · omega
end
section
set_option maxHeartbeats 4000000 in
set_option maxRecDepth 100000 in
theorem c_M_in (l : Launch) (dC : Nat → ClassId) (dI : Nat → Nat → Nat) {x lo hi : Int32} : Met l y_M_in ws_M_in ({ frames := 0, cells := 0, slots := 0, locals := 0 } : Room) (pw_R [.int (x), .int (lo), .int (hi)] dC dI [] []) (vp_Si (fun r => (r = nI 1 ∧ ¬ x < lo ∧ ¬ hi < x) ∨ (r = nI 0 ∧ ¬ (¬ x < lo ∧ ¬ hi < x)))) 0 0 (fun _ => False) := by
  refine Met.ofW (cc := b_M_in) (maxL := 3) (ret := (some .boolean)) (by decide) rfl ?_
  intro p e s m args below meth c s₁ B hml hv
  obtain ⟨rfl, hP, hK⟩ := hv
  have hx := B.exec
  have hb := B.bytes
  have hr := B.returns
  have hts := atoms_spec (ws := ws_M_in) B.pre
  have hown : s.vm.findClass R_M = some m.cls := findClass_of_methodNamed B.named
  have hlocks := B.notSynchronized
  have hl := lv_entry ([.int (x), .int (lo), .int (hi)]) (n := 3) (Nat.le_of_ble_eq_true rfl)
  rw [lg_entry_eq]
  generalize (lg_sl ([.int (x), .int (lo), .int (hi)]) ++ List.replicate (3 - (lg_sl ([.int (x), .int (lo), .int (hi)])).length) Slot.unset).toArray = ls at hl ⊢
  have hl : lv_has ls 3 [(0, .int (x)), (1, .int (lo)), (2, .int (hi))] := hl
  refine lv_iload_n hx hb d_M_in_0 rfl (lv_at hl 0 rfl) ?_
  refine lv_iload_n hx hb d_M_in_1 rfl (lv_at hl 1 rfl) ?_
  refine lv_icmp_lt (tgt := 14) hx hb d_M_in_2 (by decide) (fun c_2 => ?_) (fun c_2 => ?_)
  · refine lv_iconst (v := nI 0) hx hb d_M_in_14 (by decide) ?_
    exact W.zret (v := (nI (0))) hx hb hr (by decide) (fun t_ ht_ hW_ => ⟨_, rfl, Or.inr ⟨rfl, fun z => by first | exact z.1 c_2 | exact z.2 c_7⟩, ht_⟩) (fun q h => absurd h List.not_mem_nil) d_M_in_15
  · refine lv_iload_n hx hb d_M_in_5 rfl (lv_at hl 0 rfl) ?_
    refine lv_iload_n hx hb d_M_in_6 rfl (lv_at hl 2 rfl) ?_
    refine lv_icmp_gt (tgt := 14) hx hb d_M_in_7 (by decide) (fun c_7 => ?_) (fun c_7 => ?_)
    · refine lv_iconst (v := nI 0) hx hb d_M_in_14 (by decide) ?_
      exact W.zret (v := (nI (0))) hx hb hr (by decide) (fun t_ ht_ hW_ => ⟨_, rfl, Or.inr ⟨rfl, fun z => by first | exact z.1 c_2 | exact z.2 c_7⟩, ht_⟩) (fun q h => absurd h List.not_mem_nil) d_M_in_15
    · refine lv_iconst (v := nI 1) hx hb d_M_in_10 (by decide) ?_
      refine lv_goto (tgt := 15) hx hb d_M_in_11 (by decide) ?_
      exact W.zret (v := (nI (1))) hx hb hr (by decide) (fun t_ ht_ hW_ => ⟨_, rfl, Or.inl ⟨rfl, c_2, c_7⟩, ht_⟩) (fun q h => absurd h List.not_mem_nil) d_M_in_15
set_option maxHeartbeats 4000000 in
set_option maxRecDepth 100000 in
theorem c_M_isWord (l : Launch) (dC : Nat → ClassId) (dI : Nat → Nat → Nat) {o a1 a2 a3 a4 a5 : Nat} {c1 c2 c3 c4 c5 : ClassId} {th mo le : Int32} {n : Nat} {xh yr : Nat → Int32} {xb yb : Nat → Int64} {bs : Nat → Int32} (hn : n ≤ 40) {x : Int32} : Met l y_M_isWord ws_M_isWord ({ frames := 1, cells := 0, slots := 0, locals := 22 } : Room) (pw_R [.ref o, .int (x)] dC dI (mdT c1 c2 c3 c4 c5) (md o a1 a2 a3 a4 a5 c1 c2 c3 c4 c5 th n mo le xh yr xb yb bs)) (vp_Si (fun r => (r = nI 1 ∧ ∃ i, i < n ∧ x = nI i) ∨ (r = nI 0 ∧ ¬ ∃ i, i < n ∧ x = nI i))) 0 0 (fun _ => False) := by
  refine Met.ofW (cc := b_M_isWord) (maxL := 2) (ret := (some .boolean)) (by decide) rfl ?_
  intro p e s m args below meth c s₁ B hml hv
  obtain ⟨rfl, hP, hK⟩ := hv
  have hx := B.exec
  have hb := B.bytes
  have hr := B.returns
  have hts := atoms_spec (ws := ws_M_isWord) B.pre
  have hown : s.vm.findClass R_M = some m.cls := findClass_of_methodNamed B.named
  have hlocks := B.notSynchronized
  have hl := lv_entry ([.ref o, .int (x)]) (n := 2) (Nat.le_of_ble_eq_true rfl)
  rw [lg_entry_eq]
  generalize (lg_sl ([.ref o, .int (x)]) ++ List.replicate (2 - (lg_sl ([.ref o, .int (x)])).length) Slot.unset).toArray = ls at hl ⊢
  have hl : lv_has ls 2 [(0, .ref o), (1, .int (x))] := hl
  refine lv_iload_n hx hb d_M_isWord_0 rfl (lv_at hl 1 rfl) ?_
  refine lv_iconst (v := nI 0) hx hb d_M_isWord_1 (by decide) ?_
  refine lv_aload_n hx hb d_M_isWord_2 rfl (lv_at hl 0 rfl) ?_
  refine va_get (D := (dC, dI)) (ci := ciM) (v := .int (nI (n))) (C := R_M) (T := F_M) (N := 9) hx hb hts (fun w h => List.mem_cons_of_mem _ (in_M w h)) hown hK hP 0 rfl rfl 1 (by decide) (hts (.fieldLink R_M 31 "PeriodWordsModel" "words" "I") (List.mem_cons_of_mem _ mb_381)) (fun _ h9 => h9) rfl d_M_isWord_3 ?_
  refine lv_iconst (v := nI 1) hx hb d_M_isWord_6 (by decide) ?_
  refine lv_isub hx hb d_M_isWord_7 ?_
  refine lv_topi (fun x_1 ex_1 => ?_)
  refine pq_top (y := .int (nI n - nI 1)) (by rw [ex_1]) ?_
  refine vp_callSi (W.runS (As := [.int (x), .int (nI (0)), .int (nI n - nI 1)]) (rest := []) ⟨hx, hb, hml, hown, hts⟩ (c_M_in l dC dI (x := x) (lo := nI 0) (hi := nI n - nI 1)) (va_cwS 3 hts (gd_S mb_418 mb_419 mb_23 mb_420) rfl rfl rfl (by decide +kernel) ⟨Nat.le_of_ble_eq_true rfl, Nat.le_of_ble_eq_true rfl⟩) (pw_R_S pw_P0 (hK.sub [] rfl)) rfl rfl hl.1 rfl (lv_room (Nat.le_of_ble_eq_true rfl)) d_M_isWord_8 ⟨Nat.le_of_ble_eq_true rfl, Nat.le_of_ble_eq_true rfl⟩) (fun r_8 hr_8 => ?_)
  rw [pq_isw hn] at hr_8
  exact W.zret (v := (r_8)) hx hb hr (by rcases hr_8 with z | z <;> rw [z.1] <;> decide) (fun t_ ht_ hW_ => ⟨_, rfl, hr_8, ht_⟩) (fun q h => absurd h List.not_mem_nil) d_M_isWord_11
set_option maxHeartbeats 4000000 in
set_option maxRecDepth 100000 in
theorem c_M_has (l : Launch) (dC : Nat → ClassId) (dI : Nat → Nat → Nat) {o a1 a2 a3 a4 a5 : Nat} {c1 c2 c3 c4 c5 : ClassId} {th mo le : Int32} {n : Nat} {xh yr : Nat → Int32} {xb yb : Nat → Int64} {bs : Nat → Int32} {i h pp : Nat} {f : Nat → Bool} (hmd : md_at xh yr xb yb i h pp f) {t : Nat} (ht : t < 1073741824) : Met l y_M_has ws_M_has ({ frames := 0, cells := 0, slots := 0, locals := 0 } : Room) (pw_R [.ref o, .int (nI (i)), .int (nI (t))] dC dI (mdT c1 c2 c3 c4 c5) (md o a1 a2 a3 a4 a5 c1 c2 c3 c4 c5 th n mo le xh yr xb yb bs)) (vp_Si (fun r => r = nI (f t).toNat)) 0 0 (fun _ => False) := by
  refine Met.ofW (cc := b_M_has) (maxL := 3) (ret := (some .boolean)) (by decide) rfl ?_
  intro p e s m args below meth c s₁ B hml hv
  obtain ⟨rfl, hP, hK⟩ := hv
  have hx := B.exec
  have hb := B.bytes
  have hr := B.returns
  have hts := atoms_spec (ws := ws_M_has) B.pre
  have hown : s.vm.findClass R_M = some m.cls := findClass_of_methodNamed B.named
  have hlocks := B.notSynchronized
  have hmd_ := hmd; obtain ⟨hi, e1, e2, e3, e4, hok⟩ := hmd_; have hok_ := hok; obtain ⟨hh, hp0, hp6, hE⟩ := hok_
  have ho := pw_o_le f h pp
  have hc := pw_c_le f h
  have hb0 := pq_lt60 (pw_b_lt f 0 h) hh
  have hb1 := pq_lt60 (pw_b_lt f h pp) hp6
  have hl := lv_entry ([.ref o, .int (nI (i)), .int (nI (t))]) (n := 3) (Nat.le_of_ble_eq_true rfl)
  rw [lg_entry_eq]
  generalize (lg_sl ([.ref o, .int (nI (i)), .int (nI (t))]) ++ List.replicate (3 - (lg_sl ([.ref o, .int (nI (i)), .int (nI (t))])).length) Slot.unset).toArray = ls at hl ⊢
  have hl : lv_has ls 3 [(0, .ref o), (1, .int (nI (i))), (2, .int (nI (t)))] := hl
  refine lv_iload_n hx hb d_M_has_0 rfl (lv_at hl 2 rfl) ?_
  refine lv_aload_n hx hb d_M_has_1 rfl (lv_at hl 0 rfl) ?_
  refine va_get (D := (dC, dI)) (ci := ciM) (v := .ref a1) (C := R_M) (T := F_M) (N := 9) hx hb hts (fun w h => List.mem_cons_of_mem _ (in_M w h)) hown hK hP 0 rfl rfl 2 (by decide) (hts (.fieldLink R_M 7 "PeriodWordsModel" "head" "[I") (List.mem_cons_of_mem _ mb_382)) (fun _ h9 => h9) rfl d_M_has_2 ?_
  refine lv_iload_n hx hb d_M_has_5 rfl (lv_at hl 1 rfl) ?_
  refine va_iald hx hb hK hP 1 0 rfl rfl (vp_in_nI (n := i) (by omega) (by omega)) d_M_has_6 ?_
  refine pq_top (y := .int (xh i)) (by rw [pq_cl (by omega)]) ?_
  refine pq_top (y := .int (nI (h))) (by rw [e1]) ?_
  refine pq_icmp_ge (tgt := 23) (a := t) (b := h) hx hb d_M_has_7 (by decide) (by omega) (by omega) (fun c_7 => ?_) (fun c_7 => ?_)
  · have q2 : pw_b f h pp < 2 ^ 62 := Nat.lt_trans hb1 (by decide)
    have hm := Nat.mod_lt (t - h) hp0
    refine lv_aload_n hx hb d_M_has_23 rfl (lv_at hl 0 rfl) ?_
    refine va_get (D := (dC, dI)) (ci := ciM) (v := .ref a4) (C := R_M) (T := F_M) (N := 9) hx hb hts (fun w h => List.mem_cons_of_mem _ (in_M w h)) hown hK hP 0 rfl rfl 5 (by decide) (hts (.fieldLink R_M 20 "PeriodWordsModel" "ringBits" "[J") (List.mem_cons_of_mem _ mb_385)) (fun _ h9 => h9) rfl d_M_has_24 ?_
    refine lv_iload_n hx hb d_M_has_27 rfl (lv_at hl 1 rfl) ?_
    refine va_lald hx hb hK hP 4 3 rfl rfl (vp_in_nI (n := i) (by omega) (by omega)) d_M_has_28 ?_
    refine pq_top (y := .long (yb i)) (by rw [pq_cl (by omega)]) ?_
    refine pq_top (y := .long (lN (pw_b f h pp))) (by rw [e4]) ?_
    refine lv_iload_n hx hb d_M_has_29 rfl (lv_at hl 2 rfl) ?_
    refine lv_aload_n hx hb d_M_has_30 rfl (lv_at hl 0 rfl) ?_
    refine va_get (D := (dC, dI)) (ci := ciM) (v := .ref a1) (C := R_M) (T := F_M) (N := 9) hx hb hts (fun w h => List.mem_cons_of_mem _ (in_M w h)) hown hK hP 0 rfl rfl 2 (by decide) (hts (.fieldLink R_M 7 "PeriodWordsModel" "head" "[I") (List.mem_cons_of_mem _ mb_382)) (fun _ h9 => h9) rfl d_M_has_31 ?_
    refine lv_iload_n hx hb d_M_has_34 rfl (lv_at hl 1 rfl) ?_
    refine va_iald hx hb hK hP 1 0 rfl rfl (vp_in_nI (n := i) (by omega) (by omega)) d_M_has_35 ?_
    refine pq_top (y := .int (xh i)) (by rw [pq_cl (by omega)]) ?_
    refine pq_top (y := .int (nI (h))) (by rw [e1]) ?_
    refine pq_isub (a := t) (b := h) hx hb d_M_has_36 (by omega) ?_
    refine lv_aload_n hx hb d_M_has_37 rfl (lv_at hl 0 rfl) ?_
    refine va_get (D := (dC, dI)) (ci := ciM) (v := .ref a2) (C := R_M) (T := F_M) (N := 9) hx hb hts (fun w h => List.mem_cons_of_mem _ (in_M w h)) hown hK hP 0 rfl rfl 3 (by decide) (hts (.fieldLink R_M 13 "PeriodWordsModel" "ring" "[I") (List.mem_cons_of_mem _ mb_383)) (fun _ h9 => h9) rfl d_M_has_38 ?_
    refine lv_iload_n hx hb d_M_has_41 rfl (lv_at hl 1 rfl) ?_
    refine va_iald hx hb hK hP 2 1 rfl rfl (vp_in_nI (n := i) (by omega) (by omega)) d_M_has_42 ?_
    refine pq_top (y := .int (yr i)) (by rw [pq_cl (by omega)]) ?_
    refine pq_top (y := .int (nI (pp))) (by rw [e2]) ?_
    refine pq_irem (a := (t - h)) (b := pp) hx hb d_M_has_43 (by omega) (by omega) (by omega) ?_
    refine lv_lshr hx hb d_M_has_44 rfl ?_
    refine lv_topl (fun y_1 ey_1 => ?_)
    refine pq_top (y := .long (lN (pw_b f h pp / 2 ^ ((t - h) % pp)))) (by rw [ey_1, pq_lshr q2 (by omega)]) ?_
    refine lv_lconst (v := lN 1) hx hb d_M_has_45 (by decide) ?_
    refine lv_land hx hb d_M_has_46 ?_
    refine lv_topl (fun y_2 ey_2 => ?_)
    refine pq_top (y := .long (lN ((f t).toNat))) (by rw [ey_2, pq_land1 (Nat.lt_of_le_of_lt (Nat.div_le_self _ _) (Nat.lt_trans hb1 (by decide))), pq_bitN, pw_b_t f h pp _ hm, pw_at hE c_7]) ?_
    have B_47 : ∀ (z : Nat) (ls : Array Slot), (z = (f t).toNat) → lv_has ls 3 [] → W p l e (headSpec ws_M_has ({ frames := 0, cells := 0, slots := 0, locals := 0 } : Room)).room s m ([.ref o, .int (nI (i)), .int (nI (t))]).toArray below meth c s.heap [] 0 0 (MQ below (vp_Si (fun r => r = nI (f t).toNat)) ([.ref o, .int (nI (i)), .int (nI (t))]).toArray s 0 0 (fun _ => False)) (F0 m 47 ls [.long (lN (z))]) := by
      intro z ls hzz hl
      refine lv_lconst (v := lN 1) hx hb d_M_has_47 (by decide) ?_
      refine W.lcmp hx hb d_M_has_48 ?_
      refine lv_topi (fun x_3 ex_3 => ?_)
      refine lv_if_ne (tgt := 56) hx hb d_M_has_49 (by decide) (fun c_49 => ?_) (fun c_49 => ?_)
      · have c_49n : z ≠ 1 := fun z_ => c_49 (by rw [ex_3]; exact (pq_cmpN (by have := pw_lt2 (f t); omega) (by decide)).mpr z_)
        refine lv_iconst (v := nI 0) hx hb d_M_has_56 (by decide) ?_
        exact W.zret (v := (nI (0))) hx hb hr (by decide) (fun t_ ht_ hW_ => ⟨_, rfl, by (try dsimp only); rw [← hzz, show z = 0 by have := pw_lt2 (f t); omega], ht_⟩) (fun q h => absurd h List.not_mem_nil) d_M_has_57
      · have c_49n : z = 1 := (pq_cmpN (by have := pw_lt2 (f t); omega) (by decide)).mp (by rw [← ex_3]; exact c_49)
        refine lv_iconst (v := nI 1) hx hb d_M_has_52 (by decide) ?_
        refine lv_goto (tgt := 57) hx hb d_M_has_53 (by decide) ?_
        exact W.zret (v := (nI (1))) hx hb hr (by decide) (fun t_ ht_ hW_ => ⟨_, rfl, by (try dsimp only); rw [← hzz, c_49n], ht_⟩) (fun q h => absurd h List.not_mem_nil) d_M_has_57
    exact B_47 ((f t).toNat) ls rfl (lv_sub hl [] rfl)
  · have q2 : pw_b f 0 h < 2 ^ 62 := Nat.lt_trans hb0 (by decide)
    refine lv_aload_n hx hb d_M_has_10 rfl (lv_at hl 0 rfl) ?_
    refine va_get (D := (dC, dI)) (ci := ciM) (v := .ref a3) (C := R_M) (T := F_M) (N := 9) hx hb hts (fun w h => List.mem_cons_of_mem _ (in_M w h)) hown hK hP 0 rfl rfl 4 (by decide) (hts (.fieldLink R_M 16 "PeriodWordsModel" "headBits" "[J") (List.mem_cons_of_mem _ mb_384)) (fun _ h9 => h9) rfl d_M_has_11 ?_
    refine lv_iload_n hx hb d_M_has_14 rfl (lv_at hl 1 rfl) ?_
    refine va_lald hx hb hK hP 3 2 rfl rfl (vp_in_nI (n := i) (by omega) (by omega)) d_M_has_15 ?_
    refine pq_top (y := .long (xb i)) (by rw [pq_cl (by omega)]) ?_
    refine pq_top (y := .long (lN (pw_b f 0 h))) (by rw [e3]) ?_
    refine lv_iload_n hx hb d_M_has_16 rfl (lv_at hl 2 rfl) ?_
    refine lv_lshr hx hb d_M_has_17 rfl ?_
    refine lv_topl (fun y_4 ey_4 => ?_)
    refine pq_top (y := .long (lN (pw_b f 0 h / 2 ^ t))) (by rw [ey_4, pq_lshr q2 (by omega)]) ?_
    refine lv_lconst (v := lN 1) hx hb d_M_has_18 (by decide) ?_
    refine lv_land hx hb d_M_has_19 ?_
    refine lv_topl (fun y_5 ey_5 => ?_)
    refine pq_top (y := .long (lN ((f t).toNat))) (by rw [ey_5, pq_land1 (Nat.lt_of_le_of_lt (Nat.div_le_self _ _) (Nat.lt_trans hb0 (by decide))), pq_bitN, pw_b_t f 0 h t c_7, Nat.zero_add]) ?_
    refine lv_goto (tgt := 47) hx hb d_M_has_20 (by decide) ?_
    have B_47 : ∀ (z : Nat) (ls : Array Slot), (z = (f t).toNat) → lv_has ls 3 [] → W p l e (headSpec ws_M_has ({ frames := 0, cells := 0, slots := 0, locals := 0 } : Room)).room s m ([.ref o, .int (nI (i)), .int (nI (t))]).toArray below meth c s.heap [] 0 0 (MQ below (vp_Si (fun r => r = nI (f t).toNat)) ([.ref o, .int (nI (i)), .int (nI (t))]).toArray s 0 0 (fun _ => False)) (F0 m 47 ls [.long (lN (z))]) := by
      intro z ls hzz hl
      refine lv_lconst (v := lN 1) hx hb d_M_has_47 (by decide) ?_
      refine W.lcmp hx hb d_M_has_48 ?_
      refine lv_topi (fun x_6 ex_6 => ?_)
      refine lv_if_ne (tgt := 56) hx hb d_M_has_49 (by decide) (fun c_49 => ?_) (fun c_49 => ?_)
      · have c_49n : z ≠ 1 := fun z_ => c_49 (by rw [ex_6]; exact (pq_cmpN (by have := pw_lt2 (f t); omega) (by decide)).mpr z_)
        refine lv_iconst (v := nI 0) hx hb d_M_has_56 (by decide) ?_
        exact W.zret (v := (nI (0))) hx hb hr (by decide) (fun t_ ht_ hW_ => ⟨_, rfl, by (try dsimp only); rw [← hzz, show z = 0 by have := pw_lt2 (f t); omega], ht_⟩) (fun q h => absurd h List.not_mem_nil) d_M_has_57
      · have c_49n : z = 1 := (pq_cmpN (by have := pw_lt2 (f t); omega) (by decide)).mp (by rw [← ex_6]; exact c_49)
        refine lv_iconst (v := nI 1) hx hb d_M_has_52 (by decide) ?_
        refine lv_goto (tgt := 57) hx hb d_M_has_53 (by decide) ?_
        exact W.zret (v := (nI (1))) hx hb hr (by decide) (fun t_ ht_ hW_ => ⟨_, rfl, by (try dsimp only); rw [← hzz, c_49n], ht_⟩) (fun q h => absurd h List.not_mem_nil) d_M_has_57
    exact B_47 ((f t).toNat) ls rfl (lv_sub hl [] rfl)
set_option maxHeartbeats 4000000 in
set_option maxRecDepth 100000 in
theorem c_M_onesOf (l : Launch) (dC : Nat → ClassId) (dI : Nat → Nat → Nat) {x k : Nat} (hx1 : x < 2 ^ 60) (hk : k ≤ 60) : Met l y_M_onesOf ws_M_onesOf ({ frames := 0, cells := 0, slots := 0, locals := 0 } : Room) (pw_R [.long (lN (x)), .int (nI (k))] dC dI [] []) (vp_Si (fun r => r = nI (pw_p x k))) 0 0 (fun _ => False) := by
  refine Met.ofW (cc := b_M_onesOf) (maxL := 5) (ret := (some .int)) (by decide) rfl ?_
  intro p e s m args below meth c s₁ B hml hv
  obtain ⟨rfl, hP, hK⟩ := hv
  have hx := B.exec
  have hb := B.bytes
  have hr := B.returns
  have hts := atoms_spec (ws := ws_M_onesOf) B.pre
  have hown : s.vm.findClass R_M = some m.cls := findClass_of_methodNamed B.named
  have hlocks := B.notSynchronized
  have q2 : x < 2 ^ 62 := Nat.lt_trans hx1 (by decide)
  have hl := lv_entry ([.long (lN (x)), .int (nI (k))]) (n := 5) (Nat.le_of_ble_eq_true rfl)
  rw [lg_entry_eq]
  generalize (lg_sl ([.long (lN (x)), .int (nI (k))]) ++ List.replicate (5 - (lg_sl ([.long (lN (x)), .int (nI (k))])).length) Slot.unset).toArray = ls at hl ⊢
  have hl : lv_has ls 5 [(0, .long (lN (x))), (2, .int (nI (k)))] := hl
  refine lv_iconst (v := nI 0) hx hb d_M_onesOf_0 (by decide) ?_
  refine lv_istore_n (lv' := [(3, .int (nI (0))), (0, .long (lN (x))), (2, .int (nI (k)))]) hx hb d_M_onesOf_1 rfl hl (by decide) rfl (fun ls hl => ?_)
  refine lv_iconst (v := nI 0) hx hb d_M_onesOf_2 (by decide) ?_
  refine lv_istore (lv' := [(4, .int (nI (0))), (3, .int (nI (0))), (0, .long (lN (x))), (2, .int (nI (k)))]) hx hb d_M_onesOf_3 hl (by decide) rfl (fun ls hl => ?_)
  have B_5 : ∀ (k_ : Nat) (u : Nat) (i : Nat) (ls : Array Slot), (k - i) < k_ → (i ≤ k) → (u = pw_p x i) → lv_has ls 5 [(0, .long (lN (x))), (2, .int (nI (k))), (3, .int (nI (u))), (4, .int (nI (i)))] → W p l e (headSpec ws_M_onesOf ({ frames := 0, cells := 0, slots := 0, locals := 0 } : Room)).room s m ([.long (lN (x)), .int (nI (k))]).toArray below meth c s.heap [] 0 0 (MQ below (vp_Si (fun r => r = nI (pw_p x k))) ([.long (lN (x)), .int (nI (k))]).toArray s 0 0 (fun _ => False)) (F0 m 5 ls []) := by
    intro k_
    induction k_ with
    | zero => intro u i ls h_; omega
    | succ k_ ih_5 =>
      intro u i ls hm_ hi hu hl
      refine lv_iload hx hb d_M_onesOf_5 (lv_at hl 3 rfl) ?_
      refine lv_iload_n hx hb d_M_onesOf_7 rfl (lv_at hl 1 rfl) ?_
      refine pq_icmp_ge (tgt := 27) (a := i) (b := k) hx hb d_M_onesOf_8 (by decide) (by omega) (by omega) (fun c_8 => ?_) (fun c_8 => ?_)
      · refine lv_iload_n hx hb d_M_onesOf_27 rfl (lv_at hl 2 rfl) ?_
        exact W.iret (v := (nI (u))) hx hb hr (fun t_ ht_ hW_ => ⟨_, rfl, by (try dsimp only); rw [hu, show i = k by omega], ht_⟩) (fun q h => absurd h List.not_mem_nil) d_M_onesOf_28
      · refine lv_iload_n hx hb d_M_onesOf_11 rfl (lv_at hl 2 rfl) ?_
        refine lv_lload_n hx hb d_M_onesOf_12 rfl (lv_at hl 0 rfl) ?_
        refine lv_iload hx hb d_M_onesOf_13 (lv_at hl 3 rfl) ?_
        refine lv_lshr hx hb d_M_onesOf_15 rfl ?_
        refine lv_topl (fun y_1 ey_1 => ?_)
        refine pq_top (y := .long (lN (x / 2 ^ i))) (by rw [ey_1, pq_lshr q2 (by omega)]) ?_
        refine lv_lconst (v := lN 1) hx hb d_M_onesOf_16 (by decide) ?_
        refine lv_land hx hb d_M_onesOf_17 ?_
        refine lv_topl (fun y_2 ey_2 => ?_)
        refine pq_top (y := .long (lN (x / 2 ^ i % 2))) (by rw [ey_2, pq_land1 (Nat.lt_of_le_of_lt (Nat.div_le_self _ _) (Nat.lt_trans hx1 (by decide)))]) ?_
        refine lv_l2i hx hb d_M_onesOf_18 rfl ?_
        refine lv_topi (fun x_3 ex_3 => ?_)
        refine pq_top (y := .int (nI (x / 2 ^ i % 2))) (by rw [ex_3, lN_i]) ?_
        refine pq_iadd (a := u) (b := (x / 2 ^ i % 2)) hx hb d_M_onesOf_19 ?_
        refine lv_istore_n (lv' := [(3, .int (nI (u + (x / 2 ^ i % 2)))), (0, .long (lN (x))), (2, .int (nI (k))), (4, .int (nI (i)))]) hx hb d_M_onesOf_20 rfl hl (by decide) rfl (fun ls hl => ?_)
        refine lv_iinc (v := nI (i + 1)) (lv' := [(4, .int (nI (i + 1))), (3, .int (nI (u + (x / 2 ^ i % 2)))), (0, .long (lN (x))), (2, .int (nI (k)))]) hx hb d_M_onesOf_21 hl (k := 3) rfl (pq_inc _) (by decide) rfl (fun ls hl => ?_)
        refine lv_goto (tgt := 5) hx hb d_M_onesOf_24 (by decide) ?_
        exact ih_5 (u + (x / 2 ^ i % 2)) (i + 1) ls (by omega) (by omega) (by rw [hu, pw_p_s]) (lv_sub hl [2, 3, 1, 0] rfl)
  exact B_5 _ (0) (0) ls (Nat.lt_succ_self _) (by omega) rfl (lv_sub hl [2, 3, 1, 0] rfl)
set_option maxHeartbeats 4000000 in
set_option maxRecDepth 100000 in
theorem c_M_inRing (l : Launch) (dC : Nat → ClassId) (dI : Nat → Nat → Nat) {o a1 a2 a3 a4 a5 : Nat} {c1 c2 c3 c4 c5 : ClassId} {th mo le : Int32} {n : Nat} {xh yr : Nat → Int32} {xb yb : Nat → Int64} {bs : Nat → Int32} {i h pp : Nat} {f : Nat → Bool} (hmd : md_at xh yr xb yb i h pp f) : Met l y_M_inRing ws_M_inRing ({ frames := 1, cells := 0, slots := 0, locals := 24 } : Room) (pw_R [.ref o, .int (nI (i))] dC dI (mdT c1 c2 c3 c4 c5) (md o a1 a2 a3 a4 a5 c1 c2 c3 c4 c5 th n mo le xh yr xb yb bs)) (vp_Si (fun r => r = nI (pw_o f h pp))) 0 0 (fun _ => False) := by
  refine Met.ofW (cc := b_M_inRing) (maxL := 2) (ret := (some .int)) (by decide) rfl ?_
  intro p e s m args below meth c s₁ B hml hv
  obtain ⟨rfl, hP, hK⟩ := hv
  have hx := B.exec
  have hb := B.bytes
  have hr := B.returns
  have hts := atoms_spec (ws := ws_M_inRing) B.pre
  have hown : s.vm.findClass R_M = some m.cls := findClass_of_methodNamed B.named
  have hlocks := B.notSynchronized
  have hmd_ := hmd; obtain ⟨hi, e1, e2, e3, e4, hok⟩ := hmd_; have hok_ := hok; obtain ⟨hh, hp0, hp6, hE⟩ := hok_
  have ho := pw_o_le f h pp
  have hc := pw_c_le f h
  have hb0 := pq_lt60 (pw_b_lt f 0 h) hh
  have hb1 := pq_lt60 (pw_b_lt f h pp) hp6
  have hl := lv_entry ([.ref o, .int (nI (i))]) (n := 2) (Nat.le_of_ble_eq_true rfl)
  rw [lg_entry_eq]
  generalize (lg_sl ([.ref o, .int (nI (i))]) ++ List.replicate (2 - (lg_sl ([.ref o, .int (nI (i))])).length) Slot.unset).toArray = ls at hl ⊢
  have hl : lv_has ls 2 [(0, .ref o), (1, .int (nI (i)))] := hl
  refine lv_aload_n hx hb d_M_inRing_0 rfl (lv_at hl 0 rfl) ?_
  refine va_get (D := (dC, dI)) (ci := ciM) (v := .ref a4) (C := R_M) (T := F_M) (N := 9) hx hb hts (fun w h => List.mem_cons_of_mem _ (in_M w h)) hown hK hP 0 rfl rfl 5 (by decide) (hts (.fieldLink R_M 20 "PeriodWordsModel" "ringBits" "[J") (List.mem_cons_of_mem _ mb_385)) (fun _ h9 => h9) rfl d_M_inRing_1 ?_
  refine lv_iload_n hx hb d_M_inRing_4 rfl (lv_at hl 1 rfl) ?_
  refine va_lald hx hb hK hP 4 3 rfl rfl (vp_in_nI (n := i) (by omega) (by omega)) d_M_inRing_5 ?_
  refine pq_top (y := .long (yb i)) (by rw [pq_cl (by omega)]) ?_
  refine pq_top (y := .long (lN (pw_b f h pp))) (by rw [e4]) ?_
  refine lv_aload_n hx hb d_M_inRing_6 rfl (lv_at hl 0 rfl) ?_
  refine va_get (D := (dC, dI)) (ci := ciM) (v := .ref a2) (C := R_M) (T := F_M) (N := 9) hx hb hts (fun w h => List.mem_cons_of_mem _ (in_M w h)) hown hK hP 0 rfl rfl 3 (by decide) (hts (.fieldLink R_M 13 "PeriodWordsModel" "ring" "[I") (List.mem_cons_of_mem _ mb_383)) (fun _ h9 => h9) rfl d_M_inRing_7 ?_
  refine lv_iload_n hx hb d_M_inRing_10 rfl (lv_at hl 1 rfl) ?_
  refine va_iald hx hb hK hP 2 1 rfl rfl (vp_in_nI (n := i) (by omega) (by omega)) d_M_inRing_11 ?_
  refine pq_top (y := .int (yr i)) (by rw [pq_cl (by omega)]) ?_
  refine pq_top (y := .int (nI (pp))) (by rw [e2]) ?_
  refine vp_callSi (W.runS (As := [.long (lN (pw_b f h pp)), .int (nI (pp))]) (rest := []) ⟨hx, hb, hml, hown, hts⟩ (c_M_onesOf l dC dI (x := pw_b f h pp) (k := pp) hb1 hp6) (va_cwS 2 hts (gd_S mb_441 mb_442 mb_23 mb_443) rfl rfl rfl (by decide +kernel) ⟨Nat.le_of_ble_eq_true rfl, Nat.le_of_ble_eq_true rfl⟩) (pw_R_S pw_P0 (hK.sub [] rfl)) rfl rfl hl.1 rfl (lv_room (Nat.le_of_ble_eq_true rfl)) d_M_inRing_12 ⟨Nat.le_of_ble_eq_true rfl, Nat.le_of_ble_eq_true rfl⟩) (fun r_12 hr_12 => ?_)
  subst hr_12
  refine pq_top (y := .int (nI (pw_o f h pp))) (by rw [pw_p_o]) ?_
  exact W.iret (v := (nI (pw_o f h pp))) hx hb hr (fun t_ ht_ hW_ => ⟨_, rfl, rfl, ht_⟩) (fun q h => absurd h List.not_mem_nil) d_M_inRing_15
set_option maxHeartbeats 4000000 in
set_option maxRecDepth 100000 in
theorem c_M_greater (l : Launch) (dC : Nat → ClassId) (dI : Nat → Nat → Nat) {x y : Nat} (hx1 : x < 2147483648) (hy1 : y < 2147483648) : Met l y_M_greater ws_M_greater ({ frames := 0, cells := 0, slots := 0, locals := 0 } : Room) (pw_R [.int (nI (x)), .int (nI (y))] dC dI [] []) (vp_Si (fun r => r = nI (max x y))) 0 0 (fun _ => False) := by
  refine Met.ofW (cc := b_M_greater) (maxL := 2) (ret := (some .int)) (by decide) rfl ?_
  intro p e s m args below meth c s₁ B hml hv
  obtain ⟨rfl, hP, hK⟩ := hv
  have hx := B.exec
  have hb := B.bytes
  have hr := B.returns
  have hts := atoms_spec (ws := ws_M_greater) B.pre
  have hown : s.vm.findClass R_M = some m.cls := findClass_of_methodNamed B.named
  have hlocks := B.notSynchronized
  have hl := lv_entry ([.int (nI (x)), .int (nI (y))]) (n := 2) (Nat.le_of_ble_eq_true rfl)
  rw [lg_entry_eq]
  generalize (lg_sl ([.int (nI (x)), .int (nI (y))]) ++ List.replicate (2 - (lg_sl ([.int (nI (x)), .int (nI (y))])).length) Slot.unset).toArray = ls at hl ⊢
  have hl : lv_has ls 2 [(0, .int (nI (x))), (1, .int (nI (y)))] := hl
  refine lv_iload_n hx hb d_M_greater_0 rfl (lv_at hl 0 rfl) ?_
  refine lv_iload_n hx hb d_M_greater_1 rfl (lv_at hl 1 rfl) ?_
  refine pq_icmp_le (tgt := 9) (a := x) (b := y) hx hb d_M_greater_2 (by decide) (by omega) (by omega) (fun c_2 => ?_) (fun c_2 => ?_)
  · refine lv_iload_n hx hb d_M_greater_9 rfl (lv_at hl 1 rfl) ?_
    exact W.iret (v := (nI (y))) hx hb hr (fun t_ ht_ hW_ => ⟨_, rfl, by (try dsimp only); congr 1; omega, ht_⟩) (fun q h => absurd h List.not_mem_nil) d_M_greater_10
  · refine lv_iload_n hx hb d_M_greater_5 rfl (lv_at hl 0 rfl) ?_
    refine lv_goto (tgt := 10) hx hb d_M_greater_6 (by decide) ?_
    exact W.iret (v := (nI (x))) hx hb hr (fun t_ ht_ hW_ => ⟨_, rfl, by (try dsimp only); congr 1; omega, ht_⟩) (fun q h => absurd h List.not_mem_nil) d_M_greater_10
set_option maxHeartbeats 4000000 in
set_option maxRecDepth 100000 in
theorem c_M_greaterS (l : Launch) (dC : Nat → ClassId) (dI : Nat → Nat → Nat) {x a b : Nat} (hx1 : x < 1073741824) (ha1 : a < 1073741824) (hb1 : b < 1073741824) : Met l y_M_greater ws_M_greater ({ frames := 0, cells := 0, slots := 0, locals := 0 } : Room) (pw_R [.int (nI (x)), .int (nI a - nI b)] dC dI [] []) (vp_Si (fun r => r = nI (max x (a - b)))) 0 0 (fun _ => False) := by
  refine Met.ofW (cc := b_M_greater) (maxL := 2) (ret := (some .int)) (by decide) rfl ?_
  intro p e s m args below meth c s₁ B hml hv
  obtain ⟨rfl, hP, hK⟩ := hv
  have hx := B.exec
  have hb := B.bytes
  have hr := B.returns
  have hts := atoms_spec (ws := ws_M_greater) B.pre
  have hown : s.vm.findClass R_M = some m.cls := findClass_of_methodNamed B.named
  have hlocks := B.notSynchronized
  have hl := lv_entry ([.int (nI (x)), .int (nI a - nI b)]) (n := 2) (Nat.le_of_ble_eq_true rfl)
  rw [lg_entry_eq]
  generalize (lg_sl ([.int (nI (x)), .int (nI a - nI b)]) ++ List.replicate (2 - (lg_sl ([.int (nI (x)), .int (nI a - nI b)])).length) Slot.unset).toArray = ls at hl ⊢
  have hl : lv_has ls 2 [(0, .int (nI (x))), (1, .int (nI a - nI b))] := hl
  refine lv_iload_n hx hb d_M_greater_0 rfl (lv_at hl 0 rfl) ?_
  refine lv_iload_n hx hb d_M_greater_1 rfl (lv_at hl 1 rfl) ?_
  refine lv_icmp_le (tgt := 9) hx hb d_M_greater_2 (by decide) (fun c_2 => ?_) (fun c_2 => ?_)
  · refine lv_iload_n hx hb d_M_greater_9 rfl (lv_at hl 1 rfl) ?_
    exact W.iret (v := (nI a - nI b)) hx hb hr (fun t_ ht_ hW_ => ⟨_, rfl, by (try dsimp only); rw [pq_gs hx1 ha1 hb1 c_2], ht_⟩) (fun q h => absurd h List.not_mem_nil) d_M_greater_10
  · refine lv_iload_n hx hb d_M_greater_5 rfl (lv_at hl 0 rfl) ?_
    refine lv_goto (tgt := 10) hx hb d_M_greater_6 (by decide) ?_
    exact W.iret (v := (nI (x))) hx hb hr (fun t_ ht_ hW_ => ⟨_, rfl, by (try dsimp only); rw [← pq_maxs hx1 ha1 hb1, if_neg (by intro z; rw [Int32.lt_iff_toInt_lt] at z; rw [Int32.le_iff_toInt_le] at c_2; omega)], ht_⟩) (fun q h => absurd h List.not_mem_nil) d_M_greater_10
set_option maxHeartbeats 4000000 in
set_option maxRecDepth 100000 in
theorem c_M_divisor (l : Launch) (dC : Nat → ClassId) (dI : Nat → Nat → Nat) {x y : Nat} (hx1 : x ≤ 60) (hy : y ≤ 60) : Met l y_M_divisor ws_M_divisor ({ frames := 0, cells := 0, slots := 0, locals := 0 } : Room) (pw_R [.int (nI (x)), .int (nI (y))] dC dI [] []) (vp_Si (fun r => r = nI (Nat.gcd x y))) 0 0 (fun _ => False) := by
  refine Met.ofW (cc := b_M_divisor) (maxL := 5) (ret := (some .int)) (by decide) rfl ?_
  intro p e s m args below meth c s₁ B hml hv
  obtain ⟨rfl, hP, hK⟩ := hv
  have hx := B.exec
  have hb := B.bytes
  have hr := B.returns
  have hts := atoms_spec (ws := ws_M_divisor) B.pre
  have hown : s.vm.findClass R_M = some m.cls := findClass_of_methodNamed B.named
  have hlocks := B.notSynchronized
  have hl := lv_entry ([.int (nI (x)), .int (nI (y))]) (n := 5) (Nat.le_of_ble_eq_true rfl)
  rw [lg_entry_eq]
  generalize (lg_sl ([.int (nI (x)), .int (nI (y))]) ++ List.replicate (5 - (lg_sl ([.int (nI (x)), .int (nI (y))])).length) Slot.unset).toArray = ls at hl ⊢
  have hl : lv_has ls 5 [(0, .int (nI (x))), (1, .int (nI (y)))] := hl
  refine lv_iload_n hx hb d_M_divisor_0 rfl (lv_at hl 0 rfl) ?_
  refine lv_istore_n (lv' := [(2, .int (nI (x))), (0, .int (nI (x))), (1, .int (nI (y)))]) hx hb d_M_divisor_1 rfl hl (by decide) rfl (fun ls hl => ?_)
  refine lv_iload_n hx hb d_M_divisor_2 rfl (lv_at hl 2 rfl) ?_
  refine lv_istore_n (lv' := [(3, .int (nI (y))), (2, .int (nI (x))), (0, .int (nI (x))), (1, .int (nI (y)))]) hx hb d_M_divisor_3 rfl hl (by decide) rfl (fun ls hl => ?_)
  have B_4 : ∀ (k_ : Nat) (u : Nat) (z : Nat) (ls : Array Slot), (z) < k_ → (z ≤ 60) → (u ≤ 60) → (Nat.gcd u z = Nat.gcd x y) → lv_has ls 5 [(2, .int (nI (u))), (3, .int (nI (z)))] → W p l e (headSpec ws_M_divisor ({ frames := 0, cells := 0, slots := 0, locals := 0 } : Room)).room s m ([.int (nI (x)), .int (nI (y))]).toArray below meth c s.heap [] 0 0 (MQ below (vp_Si (fun r => r = nI (Nat.gcd x y))) ([.int (nI (x)), .int (nI (y))]).toArray s 0 0 (fun _ => False)) (F0 m 4 ls []) := by
    intro k_
    induction k_ with
    | zero => intro u z ls h_; omega
    | succ k_ ih_4 =>
      intro u z ls hm_ hz hu hg hl
      refine lv_iload_n hx hb d_M_divisor_4 rfl (lv_at hl 1 rfl) ?_
      refine pq_if_eq (tgt := 21) (a := z) hx hb d_M_divisor_5 (by decide) (by omega) (fun c_5 => ?_) (fun c_5 => ?_)
      · refine lv_iload_n hx hb d_M_divisor_21 rfl (lv_at hl 0 rfl) ?_
        exact W.iret (v := (nI (u))) hx hb hr (fun t_ ht_ hW_ => ⟨_, rfl, by (try dsimp only); rw [← hg, c_5, Nat.gcd_zero_right], ht_⟩) (fun q h => absurd h List.not_mem_nil) d_M_divisor_22
      · refine lv_iload_n hx hb d_M_divisor_8 rfl (lv_at hl 0 rfl) ?_
        refine lv_iload_n hx hb d_M_divisor_9 rfl (lv_at hl 1 rfl) ?_
        refine pq_irem (a := u) (b := z) hx hb d_M_divisor_10 (by omega) (by omega) (by omega) ?_
        refine lv_istore (lv' := [(4, .int (nI (u % z))), (2, .int (nI (u))), (3, .int (nI (z)))]) hx hb d_M_divisor_11 hl (by decide) rfl (fun ls hl => ?_)
        refine lv_iload_n hx hb d_M_divisor_13 rfl (lv_at hl 2 rfl) ?_
        refine lv_istore_n (lv' := [(2, .int (nI (z))), (4, .int (nI (u % z))), (3, .int (nI (z)))]) hx hb d_M_divisor_14 rfl hl (by decide) rfl (fun ls hl => ?_)
        refine lv_iload hx hb d_M_divisor_15 (lv_at hl 1 rfl) ?_
        refine lv_istore_n (lv' := [(3, .int (nI (u % z))), (2, .int (nI (z))), (4, .int (nI (u % z)))]) hx hb d_M_divisor_17 rfl hl (by decide) rfl (fun ls hl => ?_)
        have hlt := Nat.mod_lt u c_5
        refine lv_goto (tgt := 4) hx hb d_M_divisor_18 (by decide) ?_
        exact ih_4 (z) (u % z) ls (by omega) (by omega) (by omega) (by rw [Nat.gcd_comm, ← Nat.gcd_rec, Nat.gcd_comm]; exact hg) (lv_sub hl [1, 0] rfl)
  exact B_4 _ (x) (y) ls (Nat.lt_succ_self _) (by omega) (by omega) rfl (lv_sub hl [1, 0] rfl)
set_option maxHeartbeats 4000000 in
set_option maxRecDepth 100000 in
theorem c_M_onesAhead (l : Launch) (dC : Nat → ClassId) (dI : Nat → Nat → Nat) {o a1 a2 a3 a4 a5 : Nat} {c1 c2 c3 c4 c5 : ClassId} {th mo le : Int32} {n : Nat} {xh yr : Nat → Int32} {xb yb : Nat → Int64} {bs : Nat → Int32} {i h pp : Nat} {f : Nat → Bool} (hmd : md_at xh yr xb yb i h pp f) {t : Nat} (ht : t < 1073741824) : Met l y_M_onesAhead ws_M_onesAhead ({ frames := 2, cells := 0, slots := 0, locals := 45 } : Room) (pw_R [.ref o, .int (nI (i)), .int (nI (t))] dC dI (mdT c1 c2 c3 c4 c5) (md o a1 a2 a3 a4 a5 c1 c2 c3 c4 c5 th n mo le xh yr xb yb bs)) (vp_Si (fun r => r = nI (pw_c f t))) 0 0 (fun _ => False) := by
  refine Met.ofW (cc := b_M_onesAhead) (maxL := 4) (ret := (some .int)) (by decide) rfl ?_
  intro p e s m args below meth c s₁ B hml hv
  obtain ⟨rfl, hP, hK⟩ := hv
  have hx := B.exec
  have hb := B.bytes
  have hr := B.returns
  have hts := atoms_spec (ws := ws_M_onesAhead) B.pre
  have hown : s.vm.findClass R_M = some m.cls := findClass_of_methodNamed B.named
  have hlocks := B.notSynchronized
  have hmd_ := hmd; obtain ⟨hi, e1, e2, e3, e4, hok⟩ := hmd_; have hok_ := hok; obtain ⟨hh, hp0, hp6, hE⟩ := hok_
  have ho := pw_o_le f h pp
  have hc := pw_c_le f h
  have hb0 := pq_lt60 (pw_b_lt f 0 h) hh
  have hb1 := pq_lt60 (pw_b_lt f h pp) hp6
  have hl := lv_entry ([.ref o, .int (nI (i)), .int (nI (t))]) (n := 4) (Nat.le_of_ble_eq_true rfl)
  rw [lg_entry_eq]
  generalize (lg_sl ([.ref o, .int (nI (i)), .int (nI (t))]) ++ List.replicate (4 - (lg_sl ([.ref o, .int (nI (i)), .int (nI (t))])).length) Slot.unset).toArray = ls at hl ⊢
  have hl : lv_has ls 4 [(0, .ref o), (1, .int (nI (i))), (2, .int (nI (t)))] := hl
  refine lv_iload_n hx hb d_M_onesAhead_0 rfl (lv_at hl 2 rfl) ?_
  refine lv_aload_n hx hb d_M_onesAhead_1 rfl (lv_at hl 0 rfl) ?_
  refine va_get (D := (dC, dI)) (ci := ciM) (v := .ref a1) (C := R_M) (T := F_M) (N := 9) hx hb hts (fun w h => List.mem_cons_of_mem _ (in_M w h)) hown hK hP 0 rfl rfl 2 (by decide) (hts (.fieldLink R_M 7 "PeriodWordsModel" "head" "[I") (List.mem_cons_of_mem _ mb_382)) (fun _ h9 => h9) rfl d_M_onesAhead_2 ?_
  refine lv_iload_n hx hb d_M_onesAhead_5 rfl (lv_at hl 1 rfl) ?_
  refine va_iald hx hb hK hP 1 0 rfl rfl (vp_in_nI (n := i) (by omega) (by omega)) d_M_onesAhead_6 ?_
  refine pq_top (y := .int (xh i)) (by rw [pq_cl (by omega)]) ?_
  refine pq_top (y := .int (nI (h))) (by rw [e1]) ?_
  refine pq_icmp_gt (tgt := 21) (a := t) (b := h) hx hb d_M_onesAhead_7 (by decide) (by omega) (by omega) (fun c_7 => ?_) (fun c_7 => ?_)
  · have hm := Nat.mod_lt (t - h) hp0
    refine lv_iload_n hx hb d_M_onesAhead_21 rfl (lv_at hl 2 rfl) ?_
    refine lv_aload_n hx hb d_M_onesAhead_22 rfl (lv_at hl 0 rfl) ?_
    refine va_get (D := (dC, dI)) (ci := ciM) (v := .ref a1) (C := R_M) (T := F_M) (N := 9) hx hb hts (fun w h => List.mem_cons_of_mem _ (in_M w h)) hown hK hP 0 rfl rfl 2 (by decide) (hts (.fieldLink R_M 7 "PeriodWordsModel" "head" "[I") (List.mem_cons_of_mem _ mb_382)) (fun _ h9 => h9) rfl d_M_onesAhead_23 ?_
    refine lv_iload_n hx hb d_M_onesAhead_26 rfl (lv_at hl 1 rfl) ?_
    refine va_iald hx hb hK hP 1 0 rfl rfl (vp_in_nI (n := i) (by omega) (by omega)) d_M_onesAhead_27 ?_
    refine pq_top (y := .int (xh i)) (by rw [pq_cl (by omega)]) ?_
    refine pq_top (y := .int (nI (h))) (by rw [e1]) ?_
    refine pq_isub (a := t) (b := h) hx hb d_M_onesAhead_28 (by omega) ?_
    refine lv_istore_n (lv' := [(3, .int (nI (t - h))), (0, .ref o), (1, .int (nI (i))), (2, .int (nI (t)))]) hx hb d_M_onesAhead_29 rfl hl (by decide) rfl (fun ls hl => ?_)
    refine lv_aload_n hx hb d_M_onesAhead_30 rfl (lv_at hl 1 rfl) ?_
    refine va_get (D := (dC, dI)) (ci := ciM) (v := .ref a3) (C := R_M) (T := F_M) (N := 9) hx hb hts (fun w h => List.mem_cons_of_mem _ (in_M w h)) hown hK hP 0 rfl rfl 4 (by decide) (hts (.fieldLink R_M 16 "PeriodWordsModel" "headBits" "[J") (List.mem_cons_of_mem _ mb_384)) (fun _ h9 => h9) rfl d_M_onesAhead_31 ?_
    refine lv_iload_n hx hb d_M_onesAhead_34 rfl (lv_at hl 2 rfl) ?_
    refine va_lald hx hb hK hP 3 2 rfl rfl (vp_in_nI (n := i) (by omega) (by omega)) d_M_onesAhead_35 ?_
    refine pq_top (y := .long (xb i)) (by rw [pq_cl (by omega)]) ?_
    refine pq_top (y := .long (lN (pw_b f 0 h))) (by rw [e3]) ?_
    refine lv_aload_n hx hb d_M_onesAhead_36 rfl (lv_at hl 1 rfl) ?_
    refine va_get (D := (dC, dI)) (ci := ciM) (v := .ref a1) (C := R_M) (T := F_M) (N := 9) hx hb hts (fun w h => List.mem_cons_of_mem _ (in_M w h)) hown hK hP 0 rfl rfl 2 (by decide) (hts (.fieldLink R_M 7 "PeriodWordsModel" "head" "[I") (List.mem_cons_of_mem _ mb_382)) (fun _ h9 => h9) rfl d_M_onesAhead_37 ?_
    refine lv_iload_n hx hb d_M_onesAhead_40 rfl (lv_at hl 2 rfl) ?_
    refine va_iald hx hb hK hP 1 0 rfl rfl (vp_in_nI (n := i) (by omega) (by omega)) d_M_onesAhead_41 ?_
    refine pq_top (y := .int (xh i)) (by rw [pq_cl (by omega)]) ?_
    refine pq_top (y := .int (nI (h))) (by rw [e1]) ?_
    refine vp_callSi (W.runS (As := [.long (lN (pw_b f 0 h)), .int (nI (h))]) (rest := []) ⟨hx, hb, hml, hown, hts⟩ (c_M_onesOf l dC dI (x := pw_b f 0 h) (k := h) hb0 (by omega)) (va_cwS 2 hts (gd_S mb_441 mb_442 mb_23 mb_443) rfl rfl rfl (by decide +kernel) ⟨Nat.le_of_ble_eq_true rfl, Nat.le_of_ble_eq_true rfl⟩) (pw_R_S pw_P0 (hK.sub [] rfl)) rfl rfl hl.1 rfl (lv_room (Nat.le_of_ble_eq_true rfl)) d_M_onesAhead_42 ⟨Nat.le_of_ble_eq_true rfl, Nat.le_of_ble_eq_true rfl⟩) (fun r_42 hr_42 => ?_)
    subst hr_42
    refine pq_top (y := .int (nI (pw_c f h))) (by rw [pw_p_c f h h (Nat.le_refl h)]) ?_
    refine lv_iload_n hx hb d_M_onesAhead_45 rfl (lv_at hl 0 rfl) ?_
    refine lv_aload_n hx hb d_M_onesAhead_46 rfl (lv_at hl 1 rfl) ?_
    refine va_get (D := (dC, dI)) (ci := ciM) (v := .ref a2) (C := R_M) (T := F_M) (N := 9) hx hb hts (fun w h => List.mem_cons_of_mem _ (in_M w h)) hown hK hP 0 rfl rfl 3 (by decide) (hts (.fieldLink R_M 13 "PeriodWordsModel" "ring" "[I") (List.mem_cons_of_mem _ mb_383)) (fun _ h9 => h9) rfl d_M_onesAhead_47 ?_
    refine lv_iload_n hx hb d_M_onesAhead_50 rfl (lv_at hl 2 rfl) ?_
    refine va_iald hx hb hK hP 2 1 rfl rfl (vp_in_nI (n := i) (by omega) (by omega)) d_M_onesAhead_51 ?_
    refine pq_top (y := .int (yr i)) (by rw [pq_cl (by omega)]) ?_
    refine pq_top (y := .int (nI (pp))) (by rw [e2]) ?_
    refine pq_idiv (a := (t - h)) (b := pp) hx hb d_M_onesAhead_52 (by omega) (by omega) (by omega) ?_
    refine lv_aload_n hx hb d_M_onesAhead_53 rfl (lv_at hl 1 rfl) ?_
    refine lv_iload_n hx hb d_M_onesAhead_54 rfl (lv_at hl 2 rfl) ?_
    refine vp_callSi (W.runV (As := [.int (nI (i))]) (rest := [.int (nI ((t - h) / pp)), .int (nI (pw_c f h))]) ⟨hx, hb, hml, hown, hts⟩ (c_M_inRing l dC dI hmd) (cwV 1 hts (gd_V mb_437 mb_439 mb_6 mb_23 mb_440) rfl rfl rfl (by decide +kernel) ⟨Nat.le_of_ble_eq_true rfl, Nat.le_of_ble_eq_true rfl⟩) (pw_R_V (va_recv hK hP (ci := ciM) (q0 := 0) rfl rfl) hP hK) rfl rfl hl.1 rfl (lv_room (Nat.le_of_ble_eq_true rfl)) d_M_onesAhead_55 ⟨Nat.le_of_ble_eq_true rfl, Nat.le_of_ble_eq_true rfl⟩) (fun r_55 hr_55 => ?_)
    subst hr_55
    refine pq_imul (a := ((t - h) / pp)) (b := (pw_o f h pp)) hx hb d_M_onesAhead_58 ?_
    refine pq_iadd (a := (pw_c f h)) (b := (((t - h) / pp) * (pw_o f h pp))) hx hb d_M_onesAhead_59 ?_
    refine lv_aload_n hx hb d_M_onesAhead_60 rfl (lv_at hl 1 rfl) ?_
    refine va_get (D := (dC, dI)) (ci := ciM) (v := .ref a4) (C := R_M) (T := F_M) (N := 9) hx hb hts (fun w h => List.mem_cons_of_mem _ (in_M w h)) hown hK hP 0 rfl rfl 5 (by decide) (hts (.fieldLink R_M 20 "PeriodWordsModel" "ringBits" "[J") (List.mem_cons_of_mem _ mb_385)) (fun _ h9 => h9) rfl d_M_onesAhead_61 ?_
    refine lv_iload_n hx hb d_M_onesAhead_64 rfl (lv_at hl 2 rfl) ?_
    refine va_lald hx hb hK hP 4 3 rfl rfl (vp_in_nI (n := i) (by omega) (by omega)) d_M_onesAhead_65 ?_
    refine pq_top (y := .long (yb i)) (by rw [pq_cl (by omega)]) ?_
    refine pq_top (y := .long (lN (pw_b f h pp))) (by rw [e4]) ?_
    refine lv_iload_n hx hb d_M_onesAhead_66 rfl (lv_at hl 0 rfl) ?_
    refine lv_aload_n hx hb d_M_onesAhead_67 rfl (lv_at hl 1 rfl) ?_
    refine va_get (D := (dC, dI)) (ci := ciM) (v := .ref a2) (C := R_M) (T := F_M) (N := 9) hx hb hts (fun w h => List.mem_cons_of_mem _ (in_M w h)) hown hK hP 0 rfl rfl 3 (by decide) (hts (.fieldLink R_M 13 "PeriodWordsModel" "ring" "[I") (List.mem_cons_of_mem _ mb_383)) (fun _ h9 => h9) rfl d_M_onesAhead_68 ?_
    refine lv_iload_n hx hb d_M_onesAhead_71 rfl (lv_at hl 2 rfl) ?_
    refine va_iald hx hb hK hP 2 1 rfl rfl (vp_in_nI (n := i) (by omega) (by omega)) d_M_onesAhead_72 ?_
    refine pq_top (y := .int (yr i)) (by rw [pq_cl (by omega)]) ?_
    refine pq_top (y := .int (nI (pp))) (by rw [e2]) ?_
    refine pq_irem (a := (t - h)) (b := pp) hx hb d_M_onesAhead_73 (by omega) (by omega) (by omega) ?_
    refine vp_callSi (W.runS (As := [.long (lN (pw_b f h pp)), .int (nI ((t - h) % pp))]) (rest := [.int (nI ((pw_c f h) + (((t - h) / pp) * (pw_o f h pp))))]) ⟨hx, hb, hml, hown, hts⟩ (c_M_onesOf l dC dI (x := pw_b f h pp) (k := (t - h) % pp) hb1 (by omega)) (va_cwS 2 hts (gd_S mb_441 mb_442 mb_23 mb_443) rfl rfl rfl (by decide +kernel) ⟨Nat.le_of_ble_eq_true rfl, Nat.le_of_ble_eq_true rfl⟩) (pw_R_S pw_P0 (hK.sub [] rfl)) rfl rfl hl.1 rfl (lv_room (Nat.le_of_ble_eq_true rfl)) d_M_onesAhead_74 ⟨Nat.le_of_ble_eq_true rfl, Nat.le_of_ble_eq_true rfl⟩) (fun r_74 hr_74 => ?_)
    subst hr_74
    refine pq_top (y := .int (nI (pw_c (fun i => f (h + i)) ((t - h) % pp)))) (by rw [pw_p_b f h pp _ (by omega)]) ?_
    refine pq_iadd (a := ((pw_c f h) + (((t - h) / pp) * (pw_o f h pp)))) (b := (pw_c (fun i => f (h + i)) ((t - h) % pp))) hx hb d_M_onesAhead_77 ?_
    exact W.iret (v := (nI (((pw_c f h) + (((t - h) / pp) * (pw_o f h pp))) + (pw_c (fun i => f (h + i)) ((t - h) % pp))))) hx hb hr (fun t_ ht_ hW_ => ⟨_, rfl, by (try dsimp only); rw [pw_c_far hE (show h ≤ t by omega), Nat.add_assoc], ht_⟩) (fun q h => absurd h List.not_mem_nil) d_M_onesAhead_78
  · refine lv_aload_n hx hb d_M_onesAhead_10 rfl (lv_at hl 0 rfl) ?_
    refine va_get (D := (dC, dI)) (ci := ciM) (v := .ref a3) (C := R_M) (T := F_M) (N := 9) hx hb hts (fun w h => List.mem_cons_of_mem _ (in_M w h)) hown hK hP 0 rfl rfl 4 (by decide) (hts (.fieldLink R_M 16 "PeriodWordsModel" "headBits" "[J") (List.mem_cons_of_mem _ mb_384)) (fun _ h9 => h9) rfl d_M_onesAhead_11 ?_
    refine lv_iload_n hx hb d_M_onesAhead_14 rfl (lv_at hl 1 rfl) ?_
    refine va_lald hx hb hK hP 3 2 rfl rfl (vp_in_nI (n := i) (by omega) (by omega)) d_M_onesAhead_15 ?_
    refine pq_top (y := .long (xb i)) (by rw [pq_cl (by omega)]) ?_
    refine pq_top (y := .long (lN (pw_b f 0 h))) (by rw [e3]) ?_
    refine lv_iload_n hx hb d_M_onesAhead_16 rfl (lv_at hl 2 rfl) ?_
    refine vp_callSi (W.runS (As := [.long (lN (pw_b f 0 h)), .int (nI (t))]) (rest := []) ⟨hx, hb, hml, hown, hts⟩ (c_M_onesOf l dC dI (x := pw_b f 0 h) (k := t) hb0 (by omega)) (va_cwS 2 hts (gd_S mb_441 mb_442 mb_23 mb_443) rfl rfl rfl (by decide +kernel) ⟨Nat.le_of_ble_eq_true rfl, Nat.le_of_ble_eq_true rfl⟩) (pw_R_S pw_P0 (hK.sub [] rfl)) rfl rfl hl.1 rfl (lv_room (Nat.le_of_ble_eq_true rfl)) d_M_onesAhead_17 ⟨Nat.le_of_ble_eq_true rfl, Nat.le_of_ble_eq_true rfl⟩) (fun r_17 hr_17 => ?_)
    subst hr_17
    refine pq_top (y := .int (nI (pw_c f t))) (by rw [pw_p_c f h t c_7]) ?_
    exact W.iret (v := (nI (pw_c f t))) hx hb hr (fun t_ ht_ hW_ => ⟨_, rfl, rfl, ht_⟩) (fun q h => absurd h List.not_mem_nil) d_M_onesAhead_20
set_option maxHeartbeats 4000000 in
set_option maxRecDepth 100000 in
theorem c_M_rates (l : Launch) (dC : Nat → ClassId) (dI : Nat → Nat → Nat) {o a1 a2 a3 a4 a5 : Nat} {c1 c2 c3 c4 c5 : ClassId} {th mo le : Int32} {n : Nat} {xh yr : Nat → Int32} {xb yb : Nat → Int64} {bs : Nat → Int32} {i h pp : Nat} {f : Nat → Bool} (hmd : md_at xh yr xb yb i h pp f) {i2 h2 pp2 : Nat} {f2 : Nat → Bool} (hmd2 : md_at xh yr xb yb i2 h2 pp2 f2) : Met l y_M_rates ws_M_rates ({ frames := 2, cells := 0, slots := 0, locals := 45 } : Room) (pw_R [.ref o, .int (nI (i)), .int (nI (i2))] dC dI (mdT c1 c2 c3 c4 c5) (md o a1 a2 a3 a4 a5 c1 c2 c3 c4 c5 th n mo le xh yr xb yb bs)) (vp_Si (fun r => r = nI (pw_o f h pp * pp2) - nI (pw_o f2 h2 pp2 * pp))) 0 0 (fun _ => False) := by
  refine Met.ofW (cc := b_M_rates) (maxL := 3) (ret := (some .int)) (by decide) rfl ?_
  intro p e s m args below meth c s₁ B hml hv
  obtain ⟨rfl, hP, hK⟩ := hv
  have hx := B.exec
  have hb := B.bytes
  have hr := B.returns
  have hts := atoms_spec (ws := ws_M_rates) B.pre
  have hown : s.vm.findClass R_M = some m.cls := findClass_of_methodNamed B.named
  have hlocks := B.notSynchronized
  have hmd_ := hmd; obtain ⟨hi, e1, e2, e3, e4, hok⟩ := hmd_; have hok_ := hok; obtain ⟨hh, hp0, hp6, hE⟩ := hok_
  have ho := pw_o_le f h pp
  have hc := pw_c_le f h
  have hb0 := pq_lt60 (pw_b_lt f 0 h) hh
  have hb1 := pq_lt60 (pw_b_lt f h pp) hp6
  have hmd2_ := hmd2; obtain ⟨hi2, e12, e22, e32, e42, hok2⟩ := hmd2_; have hok2_ := hok2; obtain ⟨hh2, hp02, hp62, hE2⟩ := hok2_
  have ho2 := pw_o_le f2 h2 pp2
  have hc2 := pw_c_le f2 h2
  have hb02 := pq_lt60 (pw_b_lt f2 0 h2) hh2
  have hb12 := pq_lt60 (pw_b_lt f2 h2 pp2) hp62
  have hl := lv_entry ([.ref o, .int (nI (i)), .int (nI (i2))]) (n := 3) (Nat.le_of_ble_eq_true rfl)
  rw [lg_entry_eq]
  generalize (lg_sl ([.ref o, .int (nI (i)), .int (nI (i2))]) ++ List.replicate (3 - (lg_sl ([.ref o, .int (nI (i)), .int (nI (i2))])).length) Slot.unset).toArray = ls at hl ⊢
  have hl : lv_has ls 3 [(0, .ref o), (1, .int (nI (i))), (2, .int (nI (i2)))] := hl
  refine lv_aload_n hx hb d_M_rates_0 rfl (lv_at hl 0 rfl) ?_
  refine lv_iload_n hx hb d_M_rates_1 rfl (lv_at hl 1 rfl) ?_
  refine vp_callSi (W.runV (As := [.int (nI (i))]) (rest := []) ⟨hx, hb, hml, hown, hts⟩ (c_M_inRing l dC dI hmd) (cwV 1 hts (gd_V mb_437 mb_439 mb_6 mb_23 mb_440) rfl rfl rfl (by decide +kernel) ⟨Nat.le_of_ble_eq_true rfl, Nat.le_of_ble_eq_true rfl⟩) (pw_R_V (va_recv hK hP (ci := ciM) (q0 := 0) rfl rfl) hP hK) rfl rfl hl.1 rfl (lv_room (Nat.le_of_ble_eq_true rfl)) d_M_rates_2 ⟨Nat.le_of_ble_eq_true rfl, Nat.le_of_ble_eq_true rfl⟩) (fun r_2 hr_2 => ?_)
  subst hr_2
  refine lv_aload_n hx hb d_M_rates_5 rfl (lv_at hl 0 rfl) ?_
  refine va_get (D := (dC, dI)) (ci := ciM) (v := .ref a2) (C := R_M) (T := F_M) (N := 9) hx hb hts (fun w h => List.mem_cons_of_mem _ (in_M w h)) hown hK hP 0 rfl rfl 3 (by decide) (hts (.fieldLink R_M 13 "PeriodWordsModel" "ring" "[I") (List.mem_cons_of_mem _ mb_383)) (fun _ h9 => h9) rfl d_M_rates_6 ?_
  refine lv_iload_n hx hb d_M_rates_9 rfl (lv_at hl 2 rfl) ?_
  refine va_iald hx hb hK hP 2 1 rfl rfl (vp_in_nI (n := i2) (by omega) (by omega)) d_M_rates_10 ?_
  refine pq_top (y := .int (yr i2)) (by rw [pq_cl (by omega)]) ?_
  refine pq_top (y := .int (nI (pp2))) (by rw [e22]) ?_
  refine pq_imul (a := (pw_o f h pp)) (b := pp2) hx hb d_M_rates_11 ?_
  refine lv_aload_n hx hb d_M_rates_12 rfl (lv_at hl 0 rfl) ?_
  refine lv_iload_n hx hb d_M_rates_13 rfl (lv_at hl 2 rfl) ?_
  refine vp_callSi (W.runV (As := [.int (nI (i2))]) (rest := [.int (nI ((pw_o f h pp) * pp2))]) ⟨hx, hb, hml, hown, hts⟩ (c_M_inRing l dC dI hmd2) (cwV 1 hts (gd_V mb_437 mb_439 mb_6 mb_23 mb_440) rfl rfl rfl (by decide +kernel) ⟨Nat.le_of_ble_eq_true rfl, Nat.le_of_ble_eq_true rfl⟩) (pw_R_V (va_recv hK hP (ci := ciM) (q0 := 0) rfl rfl) hP hK) rfl rfl hl.1 rfl (lv_room (Nat.le_of_ble_eq_true rfl)) d_M_rates_14 ⟨Nat.le_of_ble_eq_true rfl, Nat.le_of_ble_eq_true rfl⟩) (fun r_14 hr_14 => ?_)
  subst hr_14
  refine lv_aload_n hx hb d_M_rates_17 rfl (lv_at hl 0 rfl) ?_
  refine va_get (D := (dC, dI)) (ci := ciM) (v := .ref a2) (C := R_M) (T := F_M) (N := 9) hx hb hts (fun w h => List.mem_cons_of_mem _ (in_M w h)) hown hK hP 0 rfl rfl 3 (by decide) (hts (.fieldLink R_M 13 "PeriodWordsModel" "ring" "[I") (List.mem_cons_of_mem _ mb_383)) (fun _ h9 => h9) rfl d_M_rates_18 ?_
  refine lv_iload_n hx hb d_M_rates_21 rfl (lv_at hl 1 rfl) ?_
  refine va_iald hx hb hK hP 2 1 rfl rfl (vp_in_nI (n := i) (by omega) (by omega)) d_M_rates_22 ?_
  refine pq_top (y := .int (yr i)) (by rw [pq_cl (by omega)]) ?_
  refine pq_top (y := .int (nI (pp))) (by rw [e2]) ?_
  refine pq_imul (a := (pw_o f2 h2 pp2)) (b := pp) hx hb d_M_rates_23 ?_
  refine lv_isub hx hb d_M_rates_24 ?_
  refine lv_topi (fun x_1 ex_1 => ?_)
  refine pq_top (y := .int (nI (pw_o f h pp * pp2) - nI (pw_o f2 h2 pp2 * pp))) (by rw [ex_1]) ?_
  exact W.iret (v := (nI (pw_o f h pp * pp2) - nI (pw_o f2 h2 pp2 * pp))) hx hb hr (fun t_ ht_ hW_ => ⟨_, rfl, rfl, ht_⟩) (fun q h => absurd h List.not_mem_nil) d_M_rates_25
set_option maxHeartbeats 4000000 in
set_option maxRecDepth 100000 in
theorem c_M_till (l : Launch) (dC : Nat → ClassId) (dI : Nat → Nat → Nat) {o a1 a2 a3 a4 a5 : Nat} {c1 c2 c3 c4 c5 : ClassId} {th mo le : Int32} {n : Nat} {xh yr : Nat → Int32} {xb yb : Nat → Int64} {bs : Nat → Int32} {i h pp : Nat} {f : Nat → Bool} (hmd : md_at xh yr xb yb i h pp f) {i2 h2 pp2 : Nat} {f2 : Nat → Bool} (hmd2 : md_at xh yr xb yb i2 h2 pp2 f2) : Met l y_M_till ws_M_till ({ frames := 1, cells := 0, slots := 0, locals := 21 } : Room) (pw_R [.ref o, .int (nI (i)), .int (nI (i2))] dC dI (mdT c1 c2 c3 c4 c5) (md o a1 a2 a3 a4 a5 c1 c2 c3 c4 c5 th n mo le xh yr xb yb bs)) (vp_Si (fun r => r = nI (max h h2 + pp * pp2))) 0 0 (fun _ => False) := by
  refine Met.ofW (cc := b_M_till) (maxL := 3) (ret := (some .int)) (by decide) rfl ?_
  intro p e s m args below meth c s₁ B hml hv
  obtain ⟨rfl, hP, hK⟩ := hv
  have hx := B.exec
  have hb := B.bytes
  have hr := B.returns
  have hts := atoms_spec (ws := ws_M_till) B.pre
  have hown : s.vm.findClass R_M = some m.cls := findClass_of_methodNamed B.named
  have hlocks := B.notSynchronized
  have hmd_ := hmd; obtain ⟨hi, e1, e2, e3, e4, hok⟩ := hmd_; have hok_ := hok; obtain ⟨hh, hp0, hp6, hE⟩ := hok_
  have ho := pw_o_le f h pp
  have hc := pw_c_le f h
  have hb0 := pq_lt60 (pw_b_lt f 0 h) hh
  have hb1 := pq_lt60 (pw_b_lt f h pp) hp6
  have hmd2_ := hmd2; obtain ⟨hi2, e12, e22, e32, e42, hok2⟩ := hmd2_; have hok2_ := hok2; obtain ⟨hh2, hp02, hp62, hE2⟩ := hok2_
  have ho2 := pw_o_le f2 h2 pp2
  have hc2 := pw_c_le f2 h2
  have hb02 := pq_lt60 (pw_b_lt f2 0 h2) hh2
  have hb12 := pq_lt60 (pw_b_lt f2 h2 pp2) hp62
  have hl := lv_entry ([.ref o, .int (nI (i)), .int (nI (i2))]) (n := 3) (Nat.le_of_ble_eq_true rfl)
  rw [lg_entry_eq]
  generalize (lg_sl ([.ref o, .int (nI (i)), .int (nI (i2))]) ++ List.replicate (3 - (lg_sl ([.ref o, .int (nI (i)), .int (nI (i2))])).length) Slot.unset).toArray = ls at hl ⊢
  have hl : lv_has ls 3 [(0, .ref o), (1, .int (nI (i))), (2, .int (nI (i2)))] := hl
  refine lv_aload_n hx hb d_M_till_0 rfl (lv_at hl 0 rfl) ?_
  refine va_get (D := (dC, dI)) (ci := ciM) (v := .ref a1) (C := R_M) (T := F_M) (N := 9) hx hb hts (fun w h => List.mem_cons_of_mem _ (in_M w h)) hown hK hP 0 rfl rfl 2 (by decide) (hts (.fieldLink R_M 7 "PeriodWordsModel" "head" "[I") (List.mem_cons_of_mem _ mb_382)) (fun _ h9 => h9) rfl d_M_till_1 ?_
  refine lv_iload_n hx hb d_M_till_4 rfl (lv_at hl 1 rfl) ?_
  refine va_iald hx hb hK hP 1 0 rfl rfl (vp_in_nI (n := i) (by omega) (by omega)) d_M_till_5 ?_
  refine pq_top (y := .int (xh i)) (by rw [pq_cl (by omega)]) ?_
  refine pq_top (y := .int (nI (h))) (by rw [e1]) ?_
  refine lv_aload_n hx hb d_M_till_6 rfl (lv_at hl 0 rfl) ?_
  refine va_get (D := (dC, dI)) (ci := ciM) (v := .ref a1) (C := R_M) (T := F_M) (N := 9) hx hb hts (fun w h => List.mem_cons_of_mem _ (in_M w h)) hown hK hP 0 rfl rfl 2 (by decide) (hts (.fieldLink R_M 7 "PeriodWordsModel" "head" "[I") (List.mem_cons_of_mem _ mb_382)) (fun _ h9 => h9) rfl d_M_till_7 ?_
  refine lv_iload_n hx hb d_M_till_10 rfl (lv_at hl 2 rfl) ?_
  refine va_iald hx hb hK hP 1 0 rfl rfl (vp_in_nI (n := i2) (by omega) (by omega)) d_M_till_11 ?_
  refine pq_top (y := .int (xh i2)) (by rw [pq_cl (by omega)]) ?_
  refine pq_top (y := .int (nI (h2))) (by rw [e12]) ?_
  refine vp_callSi (W.runS (As := [.int (nI (h)), .int (nI (h2))]) (rest := []) ⟨hx, hb, hml, hown, hts⟩ (c_M_greater l dC dI (x := h) (y := h2) (by omega) (by omega)) (va_cwS 2 hts (gd_S mb_464 mb_465 mb_23 mb_466) rfl rfl rfl (by decide +kernel) ⟨Nat.le_of_ble_eq_true rfl, Nat.le_of_ble_eq_true rfl⟩) (pw_R_S pw_P0 (hK.sub [] rfl)) rfl rfl hl.1 rfl (lv_room (Nat.le_of_ble_eq_true rfl)) d_M_till_12 ⟨Nat.le_of_ble_eq_true rfl, Nat.le_of_ble_eq_true rfl⟩) (fun r_12 hr_12 => ?_)
  subst hr_12
  refine lv_aload_n hx hb d_M_till_15 rfl (lv_at hl 0 rfl) ?_
  refine va_get (D := (dC, dI)) (ci := ciM) (v := .ref a2) (C := R_M) (T := F_M) (N := 9) hx hb hts (fun w h => List.mem_cons_of_mem _ (in_M w h)) hown hK hP 0 rfl rfl 3 (by decide) (hts (.fieldLink R_M 13 "PeriodWordsModel" "ring" "[I") (List.mem_cons_of_mem _ mb_383)) (fun _ h9 => h9) rfl d_M_till_16 ?_
  refine lv_iload_n hx hb d_M_till_19 rfl (lv_at hl 1 rfl) ?_
  refine va_iald hx hb hK hP 2 1 rfl rfl (vp_in_nI (n := i) (by omega) (by omega)) d_M_till_20 ?_
  refine pq_top (y := .int (yr i)) (by rw [pq_cl (by omega)]) ?_
  refine pq_top (y := .int (nI (pp))) (by rw [e2]) ?_
  refine lv_aload_n hx hb d_M_till_21 rfl (lv_at hl 0 rfl) ?_
  refine va_get (D := (dC, dI)) (ci := ciM) (v := .ref a2) (C := R_M) (T := F_M) (N := 9) hx hb hts (fun w h => List.mem_cons_of_mem _ (in_M w h)) hown hK hP 0 rfl rfl 3 (by decide) (hts (.fieldLink R_M 13 "PeriodWordsModel" "ring" "[I") (List.mem_cons_of_mem _ mb_383)) (fun _ h9 => h9) rfl d_M_till_22 ?_
  refine lv_iload_n hx hb d_M_till_25 rfl (lv_at hl 2 rfl) ?_
  refine va_iald hx hb hK hP 2 1 rfl rfl (vp_in_nI (n := i2) (by omega) (by omega)) d_M_till_26 ?_
  refine pq_top (y := .int (yr i2)) (by rw [pq_cl (by omega)]) ?_
  refine pq_top (y := .int (nI (pp2))) (by rw [e22]) ?_
  refine pq_imul (a := pp) (b := pp2) hx hb d_M_till_27 ?_
  refine pq_iadd (a := (max h h2)) (b := (pp * pp2)) hx hb d_M_till_28 ?_
  exact W.iret (v := (nI ((max h h2) + (pp * pp2)))) hx hb hr (fun t_ ht_ hW_ => ⟨_, rfl, rfl, ht_⟩) (fun q h => absurd h List.not_mem_nil) d_M_till_29
set_option maxHeartbeats 4000000 in
set_option maxRecDepth 100000 in
theorem c_M_place (l : Launch) (dC : Nat → ClassId) (dI : Nat → Nat → Nat) {o a1 a2 a3 a4 a5 : Nat} {c1 c2 c3 c4 c5 : ClassId} {th mo le : Int32} {n : Nat} {xh yr : Nat → Int32} {xb yb : Nat → Int64} {bs : Nat → Int32} {i h pp : Nat} {f : Nat → Bool} (hmd : md_at xh yr xb yb i h pp f) {k : Nat} (hk0 : 0 < k) (hk : k < 16777216) : Met l y_M_place ws_M_place ({ frames := 2, cells := 0, slots := 0, locals := 45 } : Room) (pw_R [.ref o, .int (nI (i)), .int (nI (k))] dC dI (mdT c1 c2 c3 c4 c5) (md o a1 a2 a3 a4 a5 c1 c2 c3 c4 c5 th n mo le xh yr xb yb bs)) (vp_Si (fun r => ((0 < pw_o f h pp ∨ k ≤ pw_c f h) → r = nI (pw_tk f k)) ∧ (¬ (0 < pw_o f h pp ∨ k ≤ pw_c f h) → r = -1))) 0 0 (fun _ => False) := by
  refine Met.ofW (cc := b_M_place) (maxL := 8) (ret := (some .int)) (by decide) rfl ?_
  intro p e s m args below meth c s₁ B hml hv
  obtain ⟨rfl, hP, hK⟩ := hv
  have hx := B.exec
  have hb := B.bytes
  have hr := B.returns
  have hts := atoms_spec (ws := ws_M_place) B.pre
  have hown : s.vm.findClass R_M = some m.cls := findClass_of_methodNamed B.named
  have hlocks := B.notSynchronized
  have hmd_ := hmd; obtain ⟨hi, e1, e2, e3, e4, hok⟩ := hmd_; have hok_ := hok; obtain ⟨hh, hp0, hp6, hE⟩ := hok_
  have ho := pw_o_le f h pp
  have hc := pw_c_le f h
  have hb0 := pq_lt60 (pw_b_lt f 0 h) hh
  have hb1 := pq_lt60 (pw_b_lt f h pp) hp6
  have hl := lv_entry ([.ref o, .int (nI (i)), .int (nI (k))]) (n := 8) (Nat.le_of_ble_eq_true rfl)
  rw [lg_entry_eq]
  generalize (lg_sl ([.ref o, .int (nI (i)), .int (nI (k))]) ++ List.replicate (8 - (lg_sl ([.ref o, .int (nI (i)), .int (nI (k))])).length) Slot.unset).toArray = ls at hl ⊢
  have hl : lv_has ls 8 [(0, .ref o), (1, .int (nI (i))), (2, .int (nI (k)))] := hl
  refine lv_iconst (v := nI 0) hx hb d_M_place_0 (by decide) ?_
  refine lv_istore_n (lv' := [(3, .int (nI (0))), (0, .ref o), (1, .int (nI (i))), (2, .int (nI (k)))]) hx hb d_M_place_1 rfl hl (by decide) rfl (fun ls hl => ?_)
  refine lv_iload_n hx hb d_M_place_2 rfl (lv_at hl 3 rfl) ?_
  refine lv_istore (lv' := [(4, .int (nI (k))), (3, .int (nI (0))), (0, .ref o), (1, .int (nI (i))), (2, .int (nI (k)))]) hx hb d_M_place_3 hl (by decide) rfl (fun ls hl => ?_)
  refine lv_aload_n hx hb d_M_place_5 rfl (lv_at hl 2 rfl) ?_
  refine va_get (D := (dC, dI)) (ci := ciM) (v := .ref a3) (C := R_M) (T := F_M) (N := 9) hx hb hts (fun w h => List.mem_cons_of_mem _ (in_M w h)) hown hK hP 0 rfl rfl 4 (by decide) (hts (.fieldLink R_M 16 "PeriodWordsModel" "headBits" "[J") (List.mem_cons_of_mem _ mb_384)) (fun _ h9 => h9) rfl d_M_place_6 ?_
  refine lv_iload_n hx hb d_M_place_9 rfl (lv_at hl 3 rfl) ?_
  refine va_lald hx hb hK hP 3 2 rfl rfl (vp_in_nI (n := i) (by omega) (by omega)) d_M_place_10 ?_
  refine pq_top (y := .long (xb i)) (by rw [pq_cl (by omega)]) ?_
  refine pq_top (y := .long (lN (pw_b f 0 h))) (by rw [e3]) ?_
  refine lv_aload_n hx hb d_M_place_11 rfl (lv_at hl 2 rfl) ?_
  refine va_get (D := (dC, dI)) (ci := ciM) (v := .ref a1) (C := R_M) (T := F_M) (N := 9) hx hb hts (fun w h => List.mem_cons_of_mem _ (in_M w h)) hown hK hP 0 rfl rfl 2 (by decide) (hts (.fieldLink R_M 7 "PeriodWordsModel" "head" "[I") (List.mem_cons_of_mem _ mb_382)) (fun _ h9 => h9) rfl d_M_place_12 ?_
  refine lv_iload_n hx hb d_M_place_15 rfl (lv_at hl 3 rfl) ?_
  refine va_iald hx hb hK hP 1 0 rfl rfl (vp_in_nI (n := i) (by omega) (by omega)) d_M_place_16 ?_
  refine pq_top (y := .int (xh i)) (by rw [pq_cl (by omega)]) ?_
  refine pq_top (y := .int (nI (h))) (by rw [e1]) ?_
  refine vp_callSi (W.runS (As := [.long (lN (pw_b f 0 h)), .int (nI (h))]) (rest := []) ⟨hx, hb, hml, hown, hts⟩ (c_M_onesOf l dC dI (x := pw_b f 0 h) (k := h) hb0 (by omega)) (va_cwS 2 hts (gd_S mb_441 mb_442 mb_23 mb_443) rfl rfl rfl (by decide +kernel) ⟨Nat.le_of_ble_eq_true rfl, Nat.le_of_ble_eq_true rfl⟩) (pw_R_S pw_P0 (hK.sub [] rfl)) rfl rfl hl.1 rfl (lv_room (Nat.le_of_ble_eq_true rfl)) d_M_place_17 ⟨Nat.le_of_ble_eq_true rfl, Nat.le_of_ble_eq_true rfl⟩) (fun r_17 hr_17 => ?_)
  subst hr_17
  refine pq_top (y := .int (nI (pw_c f h))) (by rw [pw_p_c f h h (Nat.le_refl h)]) ?_
  refine lv_istore (lv' := [(5, .int (nI (pw_c f h))), (4, .int (nI (k))), (3, .int (nI (0))), (0, .ref o), (1, .int (nI (i))), (2, .int (nI (k)))]) hx hb d_M_place_20 hl (by decide) rfl (fun ls hl => ?_)
  refine lv_iload hx hb d_M_place_22 (lv_at hl 1 rfl) ?_
  refine lv_iload hx hb d_M_place_24 (lv_at hl 0 rfl) ?_
  refine pq_icmp_le (tgt := 85) (a := k) (b := (pw_c f h)) hx hb d_M_place_26 (by decide) (by omega) (by omega) (fun c_26 => ?_) (fun c_26 => ?_)
  · have B_85 : ∀ (k_ : Nat) (t : Nat) (left : Nat) (ls : Array Slot), (pw_tk f k - t) < k_ → (t ≤ pw_tk f k) → (pw_c f t + left = k) → (0 < left) → (pw_N f k (pw_tk f k)) → (pw_tk f k < 1073741824) → lv_has ls 8 [(0, .ref o), (1, .int (nI (i))), (3, .int (nI (t))), (4, .int (nI (left)))] → W p l e (headSpec ws_M_place ({ frames := 2, cells := 0, slots := 0, locals := 45 } : Room)).room s m ([.ref o, .int (nI (i)), .int (nI (k))]).toArray below meth c s.heap [] 0 0 (MQ below (vp_Si (fun r => ((0 < pw_o f h pp ∨ k ≤ pw_c f h) → r = nI (pw_tk f k)) ∧ (¬ (0 < pw_o f h pp ∨ k ≤ pw_c f h) → r = -1))) ([.ref o, .int (nI (i)), .int (nI (k))]).toArray s 0 0 (fun _ => False)) (F0 m 85 ls []) := by
      intro k_
      induction k_ with
      | zero => intro t left ls h_; omega
      | succ k_ ih_85 =>
        intro t left ls hm_ hT hcl hl0 hN hTb hl
        refine lv_iload hx hb d_M_place_85 (lv_at hl 3 rfl) ?_
        refine lv_aload_n hx hb d_M_place_87 rfl (lv_at hl 0 rfl) ?_
        refine lv_iload_n hx hb d_M_place_88 rfl (lv_at hl 1 rfl) ?_
        refine lv_iload_n hx hb d_M_place_89 rfl (lv_at hl 2 rfl) ?_
        refine vp_callSi (W.runV (As := [.int (nI (i)), .int (nI (t))]) (rest := [.int (nI (left))]) ⟨hx, hb, hml, hown, hts⟩ (c_M_has l dC dI hmd (t := t) (by omega)) (cwV 2 hts (gd_V mb_452 mb_454 mb_9 mb_23 mb_455) rfl rfl rfl (by decide +kernel) ⟨Nat.le_of_ble_eq_true rfl, Nat.le_of_ble_eq_true rfl⟩) (pw_R_V (va_recv hK hP (ci := ciM) (q0 := 0) rfl rfl) hP hK) rfl rfl hl.1 rfl (lv_room (Nat.le_of_ble_eq_true rfl)) d_M_place_90 ⟨Nat.le_of_ble_eq_true rfl, Nat.le_of_ble_eq_true rfl⟩) (fun r_90 hr_90 => ?_)
        subst hr_90
        refine pq_if_eq (tgt := 100) (a := ((f t).toNat)) hx hb d_M_place_93 (by decide) (by have := pw_lt2 (f t); omega) (fun c_93 => ?_) (fun c_93 => ?_)
        · refine lv_iconst (v := nI 0) hx hb d_M_place_100 (by decide) ?_
          refine pq_isub (a := left) (b := 0) hx hb d_M_place_101 (by omega) ?_
          refine lv_istore (lv' := [(4, .int (nI (left - 0))), (0, .ref o), (1, .int (nI (i))), (3, .int (nI (t)))]) hx hb d_M_place_102 hl (by decide) rfl (fun ls hl => ?_)
          refine lv_iload hx hb d_M_place_104 (lv_at hl 0 rfl) ?_
          refine pq_if_ne (tgt := 111) (a := (left - 0)) hx hb d_M_place_106 (by decide) (by omega) (fun c_106 => ?_) (fun c_106 => ?_)
          · have hq1 : pw_c f (t + 1) = pw_c f t + (f t).toNat := rfl
            have hq2 := pw_lt2 (f t)
            have hq3 : t + 1 ≤ pw_tk f k := pw_N_far hN (by omega)
            refine lv_iinc (v := nI (t + 1)) (lv' := [(3, .int (nI (t + 1))), (4, .int (nI (left - 0))), (0, .ref o), (1, .int (nI (i)))]) hx hb d_M_place_111 hl (k := 3) rfl (pq_inc _) (by decide) rfl (fun ls hl => ?_)
            refine lv_goto (tgt := 85) hx hb d_M_place_114 (by decide) ?_
            exact ih_85 (t + 1) (left - 0) ls (by omega) hq3 (by omega) (by omega) hN hTb (lv_sub hl [2, 3, 0, 1] rfl)
          · refine lv_iload_n hx hb d_M_place_109 rfl (lv_at hl 3 rfl) ?_
            exact W.iret (v := (nI (t))) hx hb hr (fun t_ ht_ hW_ => ⟨_, rfl, absurd c_106 (by omega), ht_⟩) (fun q h => absurd h List.not_mem_nil) d_M_place_110
        · refine lv_iconst (v := nI 1) hx hb d_M_place_96 (by decide) ?_
          refine lv_goto (tgt := 101) hx hb d_M_place_97 (by decide) ?_
          refine pq_isub (a := left) (b := 1) hx hb d_M_place_101 (by omega) ?_
          refine lv_istore (lv' := [(4, .int (nI (left - 1))), (0, .ref o), (1, .int (nI (i))), (3, .int (nI (t)))]) hx hb d_M_place_102 hl (by decide) rfl (fun ls hl => ?_)
          refine lv_iload hx hb d_M_place_104 (lv_at hl 0 rfl) ?_
          refine pq_if_ne (tgt := 111) (a := (left - 1)) hx hb d_M_place_106 (by decide) (by omega) (fun c_106 => ?_) (fun c_106 => ?_)
          · have hq1 : pw_c f (t + 1) = pw_c f t + (f t).toNat := rfl
            have hq2 := pw_lt2 (f t)
            have hq3 : t + 1 ≤ pw_tk f k := pw_N_far hN (by omega)
            refine lv_iinc (v := nI (t + 1)) (lv' := [(3, .int (nI (t + 1))), (4, .int (nI (left - 1))), (0, .ref o), (1, .int (nI (i)))]) hx hb d_M_place_111 hl (k := 3) rfl (pq_inc _) (by decide) rfl (fun ls hl => ?_)
            refine lv_goto (tgt := 85) hx hb d_M_place_114 (by decide) ?_
            exact ih_85 (t + 1) (left - 1) ls (by omega) hq3 (by omega) (by omega) hN hTb (lv_sub hl [2, 3, 0, 1] rfl)
          · refine lv_iload_n hx hb d_M_place_109 rfl (lv_at hl 3 rfl) ?_
            exact W.iret (v := (nI (t))) hx hb hr (fun t_ ht_ hW_ => ⟨_, rfl, ⟨fun _ => by rw [pw_tk_of (pw_plc c_93 hcl hl0 c_106)], fun z => absurd ((pw_has hE hp0 hk0).mp ⟨_, hN⟩) z⟩, ht_⟩) (fun q h => absurd h List.not_mem_nil) d_M_place_110
    exact B_85 _ (0) (k) ls (Nat.lt_succ_self _) (Nat.zero_le _) (Nat.zero_add k) hk0 (pw_tk_N ((pw_has hE hp0 hk0).mpr (Or.inr c_26))) (by have := pw_tk_le hE hp0 hk0 (Or.inr c_26); have : k * pp ≤ 16777216 * 60 := Nat.mul_le_mul (by omega) hp6; omega) (lv_sub hl [3, 4, 2, 1] rfl)
  · refine lv_aload_n hx hb d_M_place_29 rfl (lv_at hl 3 rfl) ?_
    refine lv_iload_n hx hb d_M_place_30 rfl (lv_at hl 4 rfl) ?_
    refine vp_callSi (W.runV (As := [.int (nI (i))]) (rest := []) ⟨hx, hb, hml, hown, hts⟩ (c_M_inRing l dC dI hmd) (cwV 1 hts (gd_V mb_437 mb_439 mb_6 mb_23 mb_440) rfl rfl rfl (by decide +kernel) ⟨Nat.le_of_ble_eq_true rfl, Nat.le_of_ble_eq_true rfl⟩) (pw_R_V (va_recv hK hP (ci := ciM) (q0 := 0) rfl rfl) hP hK) rfl rfl hl.1 rfl (lv_room (Nat.le_of_ble_eq_true rfl)) d_M_place_31 ⟨Nat.le_of_ble_eq_true rfl, Nat.le_of_ble_eq_true rfl⟩) (fun r_31 hr_31 => ?_)
    subst hr_31
    refine lv_istore (lv' := [(6, .int (nI (pw_o f h pp))), (5, .int (nI (pw_c f h))), (4, .int (nI (k))), (3, .int (nI (0))), (0, .ref o), (1, .int (nI (i))), (2, .int (nI (k)))]) hx hb d_M_place_34 hl (by decide) rfl (fun ls hl => ?_)
    refine lv_iload hx hb d_M_place_36 (lv_at hl 0 rfl) ?_
    refine pq_if_ne (tgt := 43) (a := (pw_o f h pp)) hx hb d_M_place_38 (by decide) (by omega) (fun c_38 => ?_) (fun c_38 => ?_)
    · have hq := Nat.div_mul_le_self (k - pw_c f h - 1) (pw_o f h pp)
      have hper := pw_c_per hE hp0 ((k - pw_c f h - 1) / pw_o f h pp) (Nat.le_refl h)
      have hN0 := pw_tk_N ((pw_has hE hp0 hk0).mpr (Or.inl c_38))
      have hT1 := pw_tk_le hE hp0 hk0 (Or.inl c_38)
      have hT2 : k * pp ≤ 16777216 * 60 := Nat.mul_le_mul (by omega) hp6
      refine lv_iload hx hb d_M_place_43 (lv_at hl 2 rfl) ?_
      refine lv_iload hx hb d_M_place_45 (lv_at hl 1 rfl) ?_
      refine pq_isub (a := k) (b := (pw_c f h)) hx hb d_M_place_47 (by omega) ?_
      refine lv_iconst (v := nI 1) hx hb d_M_place_48 (by decide) ?_
      refine pq_isub (a := (k - (pw_c f h))) (b := 1) hx hb d_M_place_49 (by omega) ?_
      refine lv_iload hx hb d_M_place_50 (lv_at hl 0 rfl) ?_
      refine pq_idiv (a := ((k - (pw_c f h)) - 1)) (b := (pw_o f h pp)) hx hb d_M_place_52 (by omega) (by omega) (by omega) ?_
      refine lv_istore (lv' := [(7, .int (nI (((k - (pw_c f h)) - 1) / (pw_o f h pp)))), (6, .int (nI (pw_o f h pp))), (5, .int (nI (pw_c f h))), (4, .int (nI (k))), (3, .int (nI (0))), (0, .ref o), (1, .int (nI (i))), (2, .int (nI (k)))]) hx hb d_M_place_53 hl (by decide) rfl (fun ls hl => ?_)
      refine lv_iload hx hb d_M_place_55 (lv_at hl 3 rfl) ?_
      refine lv_iload hx hb d_M_place_57 (lv_at hl 2 rfl) ?_
      refine lv_iload hx hb d_M_place_59 (lv_at hl 0 rfl) ?_
      refine lv_iload hx hb d_M_place_61 (lv_at hl 1 rfl) ?_
      refine pq_imul (a := (((k - (pw_c f h)) - 1) / (pw_o f h pp))) (b := (pw_o f h pp)) hx hb d_M_place_63 ?_
      refine pq_iadd (a := (pw_c f h)) (b := ((((k - (pw_c f h)) - 1) / (pw_o f h pp)) * (pw_o f h pp))) hx hb d_M_place_64 ?_
      refine pq_isub (a := k) (b := ((pw_c f h) + ((((k - (pw_c f h)) - 1) / (pw_o f h pp)) * (pw_o f h pp)))) hx hb d_M_place_65 (by omega) ?_
      refine lv_istore (lv' := [(4, .int (nI (k - ((pw_c f h) + ((((k - (pw_c f h)) - 1) / (pw_o f h pp)) * (pw_o f h pp)))))), (7, .int (nI (((k - (pw_c f h)) - 1) / (pw_o f h pp)))), (6, .int (nI (pw_o f h pp))), (5, .int (nI (pw_c f h))), (3, .int (nI (0))), (0, .ref o), (1, .int (nI (i))), (2, .int (nI (k)))]) hx hb d_M_place_66 hl (by decide) rfl (fun ls hl => ?_)
      refine lv_aload_n hx hb d_M_place_68 rfl (lv_at hl 5 rfl) ?_
      refine va_get (D := (dC, dI)) (ci := ciM) (v := .ref a1) (C := R_M) (T := F_M) (N := 9) hx hb hts (fun w h => List.mem_cons_of_mem _ (in_M w h)) hown hK hP 0 rfl rfl 2 (by decide) (hts (.fieldLink R_M 7 "PeriodWordsModel" "head" "[I") (List.mem_cons_of_mem _ mb_382)) (fun _ h9 => h9) rfl d_M_place_69 ?_
      refine lv_iload_n hx hb d_M_place_72 rfl (lv_at hl 6 rfl) ?_
      refine va_iald hx hb hK hP 1 0 rfl rfl (vp_in_nI (n := i) (by omega) (by omega)) d_M_place_73 ?_
      refine pq_top (y := .int (xh i)) (by rw [pq_cl (by omega)]) ?_
      refine pq_top (y := .int (nI (h))) (by rw [e1]) ?_
      refine lv_iload hx hb d_M_place_74 (lv_at hl 1 rfl) ?_
      refine lv_aload_n hx hb d_M_place_76 rfl (lv_at hl 5 rfl) ?_
      refine va_get (D := (dC, dI)) (ci := ciM) (v := .ref a2) (C := R_M) (T := F_M) (N := 9) hx hb hts (fun w h => List.mem_cons_of_mem _ (in_M w h)) hown hK hP 0 rfl rfl 3 (by decide) (hts (.fieldLink R_M 13 "PeriodWordsModel" "ring" "[I") (List.mem_cons_of_mem _ mb_383)) (fun _ h9 => h9) rfl d_M_place_77 ?_
      refine lv_iload_n hx hb d_M_place_80 rfl (lv_at hl 6 rfl) ?_
      refine va_iald hx hb hK hP 2 1 rfl rfl (vp_in_nI (n := i) (by omega) (by omega)) d_M_place_81 ?_
      refine pq_top (y := .int (yr i)) (by rw [pq_cl (by omega)]) ?_
      refine pq_top (y := .int (nI (pp))) (by rw [e2]) ?_
      refine pq_imul (a := (((k - (pw_c f h)) - 1) / (pw_o f h pp))) (b := pp) hx hb d_M_place_82 ?_
      refine pq_iadd (a := h) (b := ((((k - (pw_c f h)) - 1) / (pw_o f h pp)) * pp)) hx hb d_M_place_83 ?_
      refine lv_istore_n (lv' := [(3, .int (nI (h + ((((k - (pw_c f h)) - 1) / (pw_o f h pp)) * pp)))), (4, .int (nI (k - ((pw_c f h) + ((((k - (pw_c f h)) - 1) / (pw_o f h pp)) * (pw_o f h pp)))))), (7, .int (nI (((k - (pw_c f h)) - 1) / (pw_o f h pp)))), (6, .int (nI (pw_o f h pp))), (5, .int (nI (pw_c f h))), (0, .ref o), (1, .int (nI (i))), (2, .int (nI (k)))]) hx hb d_M_place_84 rfl hl (by decide) rfl (fun ls hl => ?_)
      have B_85 : ∀ (k_ : Nat) (t : Nat) (left : Nat) (ls : Array Slot), (pw_tk f k - t) < k_ → (t ≤ pw_tk f k) → (pw_c f t + left = k) → (0 < left) → (pw_N f k (pw_tk f k)) → (pw_tk f k < 1073741824) → lv_has ls 8 [(0, .ref o), (1, .int (nI (i))), (3, .int (nI (t))), (4, .int (nI (left)))] → W p l e (headSpec ws_M_place ({ frames := 2, cells := 0, slots := 0, locals := 45 } : Room)).room s m ([.ref o, .int (nI (i)), .int (nI (k))]).toArray below meth c s.heap [] 0 0 (MQ below (vp_Si (fun r => ((0 < pw_o f h pp ∨ k ≤ pw_c f h) → r = nI (pw_tk f k)) ∧ (¬ (0 < pw_o f h pp ∨ k ≤ pw_c f h) → r = -1))) ([.ref o, .int (nI (i)), .int (nI (k))]).toArray s 0 0 (fun _ => False)) (F0 m 85 ls []) := by
        intro k_
        induction k_ with
        | zero => intro t left ls h_; omega
        | succ k_ ih_85 =>
          intro t left ls hm_ hT hcl hl0 hN hTb hl
          refine lv_iload hx hb d_M_place_85 (lv_at hl 3 rfl) ?_
          refine lv_aload_n hx hb d_M_place_87 rfl (lv_at hl 0 rfl) ?_
          refine lv_iload_n hx hb d_M_place_88 rfl (lv_at hl 1 rfl) ?_
          refine lv_iload_n hx hb d_M_place_89 rfl (lv_at hl 2 rfl) ?_
          refine vp_callSi (W.runV (As := [.int (nI (i)), .int (nI (t))]) (rest := [.int (nI (left))]) ⟨hx, hb, hml, hown, hts⟩ (c_M_has l dC dI hmd (t := t) (by omega)) (cwV 2 hts (gd_V mb_452 mb_454 mb_9 mb_23 mb_455) rfl rfl rfl (by decide +kernel) ⟨Nat.le_of_ble_eq_true rfl, Nat.le_of_ble_eq_true rfl⟩) (pw_R_V (va_recv hK hP (ci := ciM) (q0 := 0) rfl rfl) hP hK) rfl rfl hl.1 rfl (lv_room (Nat.le_of_ble_eq_true rfl)) d_M_place_90 ⟨Nat.le_of_ble_eq_true rfl, Nat.le_of_ble_eq_true rfl⟩) (fun r_90 hr_90 => ?_)
          subst hr_90
          refine pq_if_eq (tgt := 100) (a := ((f t).toNat)) hx hb d_M_place_93 (by decide) (by have := pw_lt2 (f t); omega) (fun c_93 => ?_) (fun c_93 => ?_)
          · refine lv_iconst (v := nI 0) hx hb d_M_place_100 (by decide) ?_
            refine pq_isub (a := left) (b := 0) hx hb d_M_place_101 (by omega) ?_
            refine lv_istore (lv' := [(4, .int (nI (left - 0))), (0, .ref o), (1, .int (nI (i))), (3, .int (nI (t)))]) hx hb d_M_place_102 hl (by decide) rfl (fun ls hl => ?_)
            refine lv_iload hx hb d_M_place_104 (lv_at hl 0 rfl) ?_
            refine pq_if_ne (tgt := 111) (a := (left - 0)) hx hb d_M_place_106 (by decide) (by omega) (fun c_106 => ?_) (fun c_106 => ?_)
            · have hq1 : pw_c f (t + 1) = pw_c f t + (f t).toNat := rfl
              have hq2 := pw_lt2 (f t)
              have hq3 : t + 1 ≤ pw_tk f k := pw_N_far hN (by omega)
              refine lv_iinc (v := nI (t + 1)) (lv' := [(3, .int (nI (t + 1))), (4, .int (nI (left - 0))), (0, .ref o), (1, .int (nI (i)))]) hx hb d_M_place_111 hl (k := 3) rfl (pq_inc _) (by decide) rfl (fun ls hl => ?_)
              refine lv_goto (tgt := 85) hx hb d_M_place_114 (by decide) ?_
              exact ih_85 (t + 1) (left - 0) ls (by omega) hq3 (by omega) (by omega) hN hTb (lv_sub hl [2, 3, 0, 1] rfl)
            · refine lv_iload_n hx hb d_M_place_109 rfl (lv_at hl 3 rfl) ?_
              exact W.iret (v := (nI (t))) hx hb hr (fun t_ ht_ hW_ => ⟨_, rfl, absurd c_106 (by omega), ht_⟩) (fun q h => absurd h List.not_mem_nil) d_M_place_110
          · refine lv_iconst (v := nI 1) hx hb d_M_place_96 (by decide) ?_
            refine lv_goto (tgt := 101) hx hb d_M_place_97 (by decide) ?_
            refine pq_isub (a := left) (b := 1) hx hb d_M_place_101 (by omega) ?_
            refine lv_istore (lv' := [(4, .int (nI (left - 1))), (0, .ref o), (1, .int (nI (i))), (3, .int (nI (t)))]) hx hb d_M_place_102 hl (by decide) rfl (fun ls hl => ?_)
            refine lv_iload hx hb d_M_place_104 (lv_at hl 0 rfl) ?_
            refine pq_if_ne (tgt := 111) (a := (left - 1)) hx hb d_M_place_106 (by decide) (by omega) (fun c_106 => ?_) (fun c_106 => ?_)
            · have hq1 : pw_c f (t + 1) = pw_c f t + (f t).toNat := rfl
              have hq2 := pw_lt2 (f t)
              have hq3 : t + 1 ≤ pw_tk f k := pw_N_far hN (by omega)
              refine lv_iinc (v := nI (t + 1)) (lv' := [(3, .int (nI (t + 1))), (4, .int (nI (left - 1))), (0, .ref o), (1, .int (nI (i)))]) hx hb d_M_place_111 hl (k := 3) rfl (pq_inc _) (by decide) rfl (fun ls hl => ?_)
              refine lv_goto (tgt := 85) hx hb d_M_place_114 (by decide) ?_
              exact ih_85 (t + 1) (left - 1) ls (by omega) hq3 (by omega) (by omega) hN hTb (lv_sub hl [2, 3, 0, 1] rfl)
            · refine lv_iload_n hx hb d_M_place_109 rfl (lv_at hl 3 rfl) ?_
              exact W.iret (v := (nI (t))) hx hb hr (fun t_ ht_ hW_ => ⟨_, rfl, ⟨fun _ => by rw [pw_tk_of (pw_plc c_93 hcl hl0 c_106)], fun z => absurd ((pw_has hE hp0 hk0).mp ⟨_, hN⟩) z⟩, ht_⟩) (fun q h => absurd h List.not_mem_nil) d_M_place_110
      exact B_85 _ (h + ((((k - (pw_c f h)) - 1) / (pw_o f h pp)) * pp)) (k - ((pw_c f h) + ((((k - (pw_c f h)) - 1) / (pw_o f h pp)) * (pw_o f h pp)))) ls (Nat.lt_succ_self _) (pw_N_far hN0 (by omega)) (by omega) (by omega) hN0 (by omega) (lv_sub hl [5, 6, 0, 1] rfl)
    · refine lv_iconst (v := (-1)) hx hb d_M_place_41 (by decide) ?_
      exact W.iret (v := (-1)) hx hb hr (fun t_ ht_ hW_ => ⟨_, rfl, ⟨fun z => absurd z (by omega), fun _ => rfl⟩, ht_⟩) (fun q h => absurd h List.not_mem_nil) d_M_place_42
set_option maxHeartbeats 4000000 in
set_option maxRecDepth 100000 in
theorem c_M_comesBack (l : Launch) (dC : Nat → ClassId) (dI : Nat → Nat → Nat) {o a1 a2 a3 a4 a5 : Nat} {c1 c2 c3 c4 c5 : ClassId} {th mo le : Int32} {n : Nat} {xh yr : Nat → Int32} {xb yb : Nat → Int64} {bs : Nat → Int32} {F : Nat → Bool} {fr bk : Nat} (hbs : ∀ t, t < fr + bk → bs t = nI (F t).toNat) (hfb : fr + bk ≤ 7400) {p0 : Nat} (hp1 : p0 ≤ 7400) : Met l y_M_comesBack ws_M_comesBack ({ frames := 0, cells := 0, slots := 0, locals := 0 } : Room) (pw_R [.ref o, .int (nI (fr)), .int (nI (bk)), .int (nI (p0))] dC dI (mdT c1 c2 c3 c4 c5) (md o a1 a2 a3 a4 a5 c1 c2 c3 c4 c5 th n mo le xh yr xb yb bs)) (vp_Si (fun r => (r = nI 1 ∧ pw_B F fr bk p0) ∨ (r = nI 0 ∧ ¬ pw_B F fr bk p0))) 0 0 (fun _ => False) := by
  refine Met.ofW (cc := b_M_comesBack) (maxL := 5) (ret := (some .boolean)) (by decide) rfl ?_
  intro p e s m args below meth c s₁ B hml hv
  obtain ⟨rfl, hP, hK⟩ := hv
  have hx := B.exec
  have hb := B.bytes
  have hr := B.returns
  have hts := atoms_spec (ws := ws_M_comesBack) B.pre
  have hown : s.vm.findClass R_M = some m.cls := findClass_of_methodNamed B.named
  have hlocks := B.notSynchronized
  have hl := lv_entry ([.ref o, .int (nI (fr)), .int (nI (bk)), .int (nI (p0))]) (n := 5) (Nat.le_of_ble_eq_true rfl)
  rw [lg_entry_eq]
  generalize (lg_sl ([.ref o, .int (nI (fr)), .int (nI (bk)), .int (nI (p0))]) ++ List.replicate (5 - (lg_sl ([.ref o, .int (nI (fr)), .int (nI (bk)), .int (nI (p0))])).length) Slot.unset).toArray = ls at hl ⊢
  have hl : lv_has ls 5 [(0, .ref o), (1, .int (nI (fr))), (2, .int (nI (bk))), (3, .int (nI (p0)))] := hl
  refine lv_iconst (v := nI 0) hx hb d_M_comesBack_0 (by decide) ?_
  refine lv_istore (lv' := [(4, .int (nI (0))), (0, .ref o), (1, .int (nI (fr))), (2, .int (nI (bk))), (3, .int (nI (p0)))]) hx hb d_M_comesBack_1 hl (by decide) rfl (fun ls hl => ?_)
  have B_3 : ∀ (k_ : Nat) (k : Nat) (ls : Array Slot), (bk - k) < k_ → (k ≤ bk) → (∀ j, j < k → j + p0 < bk → F (fr + j) = F (fr + j + p0)) → lv_has ls 5 [(0, .ref o), (1, .int (nI (fr))), (2, .int (nI (bk))), (3, .int (nI (p0))), (4, .int (nI (k)))] → W p l e (headSpec ws_M_comesBack ({ frames := 0, cells := 0, slots := 0, locals := 0 } : Room)).room s m ([.ref o, .int (nI (fr)), .int (nI (bk)), .int (nI (p0))]).toArray below meth c s.heap [] 0 0 (MQ below (vp_Si (fun r => (r = nI 1 ∧ pw_B F fr bk p0) ∨ (r = nI 0 ∧ ¬ pw_B F fr bk p0))) ([.ref o, .int (nI (fr)), .int (nI (bk)), .int (nI (p0))]).toArray s 0 0 (fun _ => False)) (F0 m 3 ls []) := by
    intro k_
    induction k_ with
    | zero => intro k ls h_; omega
    | succ k_ ih_3 =>
      intro k ls hm_ hk hin hl
      refine lv_iload hx hb d_M_comesBack_3 (lv_at hl 4 rfl) ?_
      refine lv_iload_n hx hb d_M_comesBack_5 rfl (lv_at hl 3 rfl) ?_
      refine pq_iadd (a := k) (b := p0) hx hb d_M_comesBack_6 ?_
      refine lv_iload_n hx hb d_M_comesBack_7 rfl (lv_at hl 2 rfl) ?_
      refine pq_icmp_ge (tgt := 42) (a := (k + p0)) (b := bk) hx hb d_M_comesBack_8 (by decide) (by omega) (by omega) (fun c_8 => ?_) (fun c_8 => ?_)
      · refine lv_iconst (v := nI 1) hx hb d_M_comesBack_42 (by decide) ?_
        exact W.zret (v := (nI (1))) hx hb hr (by decide) (fun t_ ht_ hW_ => ⟨_, rfl, Or.inl ⟨rfl, fun j hj => hin j (by omega) hj⟩, ht_⟩) (fun q h => absurd h List.not_mem_nil) d_M_comesBack_43
      · refine lv_aload_n hx hb d_M_comesBack_11 rfl (lv_at hl 0 rfl) ?_
        refine va_get (D := (dC, dI)) (ci := ciM) (v := .ref a5) (C := R_M) (T := F_M) (N := 9) hx hb hts (fun w h => List.mem_cons_of_mem _ (in_M w h)) hown hK hP 0 rfl rfl 6 (by decide) (hts (.fieldLink R_M 23 "PeriodWordsModel" "bits" "[Z") (List.mem_cons_of_mem _ mb_386)) (fun _ h9 => h9) rfl d_M_comesBack_12 ?_
        refine lv_iload_n hx hb d_M_comesBack_15 rfl (lv_at hl 1 rfl) ?_
        refine lv_iload hx hb d_M_comesBack_16 (lv_at hl 4 rfl) ?_
        refine pq_iadd (a := fr) (b := k) hx hb d_M_comesBack_18 ?_
        refine va_zald hx hb hK hP 5 4 rfl rfl (vp_in_nI (n := (fr + k)) (by omega) (by omega)) d_M_comesBack_19 ?_
        refine pq_top (y := .int (bs (fr + k))) (by rw [pq_cl (by omega)]) ?_
        refine pq_top (y := .int (nI ((F (fr + k)).toNat))) (by rw [hbs _ (by omega)]) ?_
        refine lv_aload_n hx hb d_M_comesBack_20 rfl (lv_at hl 0 rfl) ?_
        refine va_get (D := (dC, dI)) (ci := ciM) (v := .ref a5) (C := R_M) (T := F_M) (N := 9) hx hb hts (fun w h => List.mem_cons_of_mem _ (in_M w h)) hown hK hP 0 rfl rfl 6 (by decide) (hts (.fieldLink R_M 23 "PeriodWordsModel" "bits" "[Z") (List.mem_cons_of_mem _ mb_386)) (fun _ h9 => h9) rfl d_M_comesBack_21 ?_
        refine lv_iload_n hx hb d_M_comesBack_24 rfl (lv_at hl 1 rfl) ?_
        refine lv_iload hx hb d_M_comesBack_25 (lv_at hl 4 rfl) ?_
        refine pq_iadd (a := fr) (b := k) hx hb d_M_comesBack_27 ?_
        refine lv_iload_n hx hb d_M_comesBack_28 rfl (lv_at hl 3 rfl) ?_
        refine pq_iadd (a := (fr + k)) (b := p0) hx hb d_M_comesBack_29 ?_
        refine va_zald hx hb hK hP 5 4 rfl rfl (vp_in_nI (n := ((fr + k) + p0)) (by omega) (by omega)) d_M_comesBack_30 ?_
        refine pq_top (y := .int (bs ((fr + k) + p0))) (by rw [pq_cl (by omega)]) ?_
        refine pq_top (y := .int (nI ((F (fr + k + p0)).toNat))) (by rw [hbs _ (by omega)]) ?_
        refine pq_icmp_eq (tgt := 36) (a := ((F (fr + k)).toNat)) (b := ((F (fr + k + p0)).toNat)) hx hb d_M_comesBack_31 (by decide) (by have := pw_lt2 (F (fr + k)); omega) (by have := pw_lt2 (F (fr + k + p0)); omega) (fun c_31 => ?_) (fun c_31 => ?_)
        · refine lv_iinc (v := nI (k + 1)) (lv' := [(4, .int (nI (k + 1))), (0, .ref o), (1, .int (nI (fr))), (2, .int (nI (bk))), (3, .int (nI (p0)))]) hx hb d_M_comesBack_36 hl (k := 4) rfl (pq_inc _) (by decide) rfl (fun ls hl => ?_)
          refine lv_goto (tgt := 3) hx hb d_M_comesBack_39 (by decide) ?_
          exact ih_3 (k + 1) ls (by omega) (by omega) (lt_s hin (fun _ => pw_tnI c_31)) (lv_sub hl [1, 2, 3, 4, 0] rfl)
        · refine lv_iconst (v := nI 0) hx hb d_M_comesBack_34 (by decide) ?_
          exact W.zret (v := (nI (0))) hx hb hr (by decide) (fun t_ ht_ hW_ => ⟨_, rfl, Or.inr ⟨rfl, fun z => c_31 (by rw [z k (by omega)])⟩, ht_⟩) (fun q h => absurd h List.not_mem_nil) d_M_comesBack_35
  exact B_3 _ (0) ls (Nat.lt_succ_self _) (by omega) (fun j hj => absurd hj (Nat.not_lt_zero j)) (lv_sub hl [1, 2, 3, 4, 0] rfl)
end
section
/-! the reference's state as one value; a contract's start where the world is written -/
abbrev md_S : Type := Int32 × Nat × Int32 × Int32 × (Nat → Int32) × (Nat → Int32) × (Nat → Int64) × (Nat → Int64) × (Nat → Int32)
abbrev md_u (o a1 a2 a3 a4 a5 : Nat) (c1 c2 c3 c4 c5 : ClassId) (u : md_S) : va_W := md o a1 a2 a3 a4 a5 c1 c2 c3 c4 c5 u.1 u.2.1 u.2.2.1 u.2.2.2.1 u.2.2.2.2.1 u.2.2.2.2.2.1 u.2.2.2.2.2.2.1 u.2.2.2.2.2.2.2.1 u.2.2.2.2.2.2.2.2
def md_B (dC : Nat → ClassId) (dI : Nat → Nat → Nat) (A : Nat → Prop) (o a1 a2 a3 a4 a5 : Nat) (c1 c2 c3 c4 c5 : ClassId) (u : md_S) (t : State) : Prop :=
  va_P (dC, dI) vwCl (md_u o a1 a2 a3 a4 a5 c1 c2 c3 c4 c5 u) t.heap ∧ va_K (dC, dI) vwCl (mdT c1 c2 c3 c4 c5) t ∧ va_D A (md_u o a1 a2 a3 a4 a5 c1 c2 c3 c4 c5 u)
def md_Pre (av : List Value) (dC : Nat → ClassId) (dI : Nat → Nat → Nat) (sz : Nat) (tys : List (ClassId × FieldType)) (ws : va_W) : Array Value → State → Prop := va_Pc av (fun U => U.heap.size = sz ∧ va_P (dC, dI) vwCl ws U.heap ∧ va_K (dC, dI) vwCl tys U ∧ va_D (fun _ => True) ws)
theorem md_blind {av : List Value} {dC : Nat → ClassId} {dI : Nat → Nat → Nat} {sz : Nat} {tys : List (ClassId × FieldType)} {ws : va_W} : FrameBlind (md_Pre av dC dI sz tys ws) := fun a U g mk q => by
  obtain ⟨q0, q1, qP, qK, qD⟩ := q
  exact ⟨q0, q1, qP, va_K.moved (u := U) (U := U.calling g mk a) (Vm.Alike.refl U.vm) qK, qD⟩
theorem md_put {bz : Nat → Int32} {F : Nat → Bool} {t x : Nat} (h : ∀ j, j < t → bz j = nI (F j).toNat) (hx : x = (F t).toNat) : ∀ j, j < t + 1 → upd bz t (vp_nar .boolean (nI x)) j = nI (F j).toNat := by
  have hn : vp_nar .boolean (nI x) = nI x := by
    rw [hx]
    cases F t <;> decide
  intro j hj
  rcases Nat.lt_or_ge j t with q | q
  · rw [pk_un (by omega)]
    exact h j q
  · have : j = t := by omega
    subst this
    rw [pk_us, hn, hx]
/-- what settle leaves: the word in its FORM under the next number, or nothing -/
def md_set (F : Nat → Bool) (n : Nat) (xh yr : Nat → Int32) (xb yb : Nat → Int64) (r : Int32) (u : md_S) : Prop :=
  ∃ h p, pw_Can F h p ∧ ((h ≤ 60 ∧ p ≤ 60 ∧ r = nI n ∧ u.2.1 = n + 1 ∧ md_at u.2.2.2.2.1 u.2.2.2.2.2.1 u.2.2.2.2.2.2.1 u.2.2.2.2.2.2.2.1 n h p F ∧ ∀ i, i < n → u.2.2.2.2.1 i = xh i ∧ u.2.2.2.2.2.1 i = yr i ∧ u.2.2.2.2.2.2.1 i = xb i ∧ u.2.2.2.2.2.2.2.1 i = yb i) ∨
    (¬ (h ≤ 60 ∧ p ≤ 60) ∧ r = -1 ∧ u.2.1 = n ∧ ∀ i, i < n → u.2.2.2.2.1 i = xh i ∧ u.2.2.2.2.2.1 i = yr i ∧ u.2.2.2.2.2.2.1 i = xb i ∧ u.2.2.2.2.2.2.2.1 i = yb i))
theorem md_bit {F : Nat → Bool} {s k n : Nat} {z : Nat → Int64} (hk : k < 60) (hz : z n = lN (pw_b F s k)) {x : Nat} (hx : x = (F (s + k)).toNat * 2 ^ k) : z n ||| lN x = lN (pw_b F s (k + 1)) := by
  rw [hz, hx, pw_bor64 hk]
  rfl
theorem pw_E_join {f f2 : Nat → Bool} {h pp h2 pp2 how d : Nat} (hh : how < 3) (E : pw_E f h pp) (E2 : pw_E f2 h2 pp2) : pw_E (pw_mk how f f2 d) (max h h2) (pp * pp2) := by
  have a : pw_E f (max h h2) (pp * pp2) := pw_E_up (pw_E_dvd E (Nat.dvd_mul_right pp pp2)) (Nat.le_max_left _ _)
  have b : pw_E f2 (max h h2) (pp * pp2) := pw_E_up (pw_E_dvd E2 (Nat.dvd_mul_left pp2 pp)) (Nat.le_max_right _ _)
  rcases (show how = 0 ∨ how = 1 ∨ how = 2 by omega) with rfl | rfl | rfl
  · exact pw_E_and a b
  · exact pw_E_or a b
  · exact pw_E_xor a b
theorem pw_E_onM {f f2 : Nat → Bool} {h pp h2 pp2 d : Nat} (E : pw_E f h pp) (hp : 0 < pp) (E2 : pw_E f2 h2 pp2) (ho : 0 < pw_o f h pp) (hh : h2 ≤ 60) : pw_E (pw_mk 4 f f2 d) (h + 60 * pp) (pp * pp2) := by
  have a := pw_c_per E hp 60 (Nat.le_refl h)
  have b := pw_E_on E hp E2 (F := h + 60 * pp) (by omega) (by omega) pp2 (Nat.dvd_mul_right pp2 _)
  rw [Nat.mul_comm pp pp2]
  exact b
theorem pw_E_byM {f f2 : Nat → Bool} {h pp h2 pp2 d : Nat} (E : pw_E f h pp) (E2 : pw_E f2 h2 pp2) (hp : 0 < pp2) (ho : 0 < pw_o f2 h2 pp2) : pw_E (pw_mk 5 f f2 d) (pw_c f2 (max h h2)) (pw_o f2 h2 pp2 * pp) := by
  have b := pw_E_by E E2 hp ho (M := max h h2) (Nat.le_max_left _ _) (Nat.le_max_right _ _) pp (Nat.dvd_mul_right pp pp2)
  rw [Nat.mul_comm _ pp]
  exact b
theorem pw_byN {f2 : Nat → Bool} {t cnt : Nat} (h : 0 < (f2 t).toNat) (hc : cnt = pw_c f2 t) : pw_N f2 (cnt + 1) t := by
  refine ⟨?_, by omega⟩
  rcases pw_bt (f2 t) with q | q
  · exact q.2
  · omega
theorem pw_tkn {f : Nat → Bool} {t tk x : Nat} (h : tk = (decide (pw_c f t % 2 = 0)).toNat) (hx : (x = 1 ∧ (f t).toNat ≠ tk) ∨ (x = 0 ∧ (f t).toNat = tk)) : x = (decide (pw_c f (t + 1) % 2 = 0)).toNat := by
  have e : pw_c f (t + 1) = pw_c f t + (f t).toNat := rfl
  rcases pw_bt (f t) with q | q <;> rcases Nat.mod_two_eq_zero_or_one (pw_c f t) with z | z
  · rw [z, decide_eq_true rfl] at h
    have h : tk = 1 := h
    rw [decide_eq_false (by omega)]
    show x = 0
    omega
  · rw [z, decide_eq_false (by decide)] at h
    have h : tk = 0 := h
    rw [decide_eq_true (by omega)]
    show x = 1
    omega
  · rw [z, decide_eq_true rfl] at h
    have h : tk = 1 := h
    rw [decide_eq_true (by omega)]
    show x = 1
    omega
  · rw [z, decide_eq_false (by decide)] at h
    have h : tk = 0 := h
    rw [decide_eq_false (by omega)]
    show x = 0
    omega
end
section
set_option maxHeartbeats 4000000 in
set_option maxRecDepth 100000 in
theorem c_M_settle (l : Launch) (dC : Nat → ClassId) (dI : Nat → Nat → Nat) {sz : Nat} {o a1 a2 a3 a4 a5 : Nat} {c1 c2 c3 c4 c5 : ClassId} {th mo le : Int32} {n : Nat} {xh yr : Nat → Int32} {xb yb : Nat → Int64} {bs : Nat → Int32} {F : Nat → Bool} {fr bk : Nat} (hbs : ∀ t, t < fr + bk → bs t = nI (F t).toNat) (hfb : fr + bk ≤ 7400) (hbk : 0 < bk) (hEF : pw_E F fr bk) (hn : n < 40) : Met l y_M_settle ws_M_settle ({ frames := 1, cells := 0, slots := 0, locals := 24 } : Room) (md_Pre [.ref o, .int (nI (fr)), .int (nI (bk))] dC dI sz (mdT c1 c2 c3 c4 c5) (md o a1 a2 a3 a4 a5 c1 c2 c3 c4 c5 th n mo le xh yr xb yb bs)) (va_Qi (fun r u => md_set F n xh yr xb yb r u) (md_B dC dI (va_A (md o a1 a2 a3 a4 a5 c1 c2 c3 c4 c5 th n mo le xh yr xb yb bs) sz) o a1 a2 a3 a4 a5 c1 c2 c3 c4 c5) (va_A (md o a1 a2 a3 a4 a5 c1 c2 c3 c4 c5 th n mo le xh yr xb yb bs) sz)) 0 0 (va_A (md o a1 a2 a3 a4 a5 c1 c2 c3 c4 c5 th n mo le xh yr xb yb bs) sz) := by
  refine Met.ofW (cc := b_M_settle) (maxL := 6) (ret := (some .int)) (by decide) rfl ?_
  intro p e s m args below meth c s₁ B hml hv
  obtain ⟨rfl, hsz, hP, hK, hD0⟩ := hv
  have hx := B.exec
  have hb := B.bytes
  have hr := B.returns
  have hts := atoms_spec (ws := ws_M_settle) B.pre
  have hown : s.vm.findClass R_M = some m.cls := findClass_of_methodNamed B.named
  have hlocks := B.notSynchronized
  subst hsz
  have hD := hD0.self (sz := s.heap.size)
  generalize hAe : va_A (md o a1 a2 a3 a4 a5 c1 c2 c3 c4 c5 th n mo le xh yr xb yb bs) s.heap.size = A at hD ⊢
  have hA : ∀ q : Nat, s.heap.size ≤ q → A q := fun q h => by rw [← hAe]; exact Or.inr h
  have hS : va_S A s.heap s.heap [] := va_S.rf
  have hl := lv_entry ([.ref o, .int (nI (fr)), .int (nI (bk))]) (n := 6) (Nat.le_of_ble_eq_true rfl)
  rw [lg_entry_eq]
  generalize (lg_sl ([.ref o, .int (nI (fr)), .int (nI (bk))]) ++ List.replicate (6 - (lg_sl ([.ref o, .int (nI (fr)), .int (nI (bk))])).length) Slot.unset).toArray = ls at hl ⊢
  have hl : lv_has ls 6 [(0, .ref o), (1, .int (nI (fr))), (2, .int (nI (bk)))] := hl
  refine lv_iconst (v := nI 1) hx hb d_M_settle_0 (by decide) ?_
  refine lv_istore_n (lv' := [(3, .int (nI (1))), (0, .ref o), (1, .int (nI (fr))), (2, .int (nI (bk)))]) hx hb d_M_settle_1 rfl hl (by decide) rfl (fun ls hl => ?_)
  have B_2 : ∀ (k_ : Nat) (p0 : Nat) (H : Heap) (locs : List Loc) (ls : Array Slot), (bk - p0) < k_ → (0 < p0) → (p0 ≤ bk) → (∀ q, 0 < q → q < p0 → ¬ (bk % q = 0 ∧ pw_B F fr bk q)) → (va_P (dC, dI) vwCl [(o, .inr (ciM, [.int (th), .int (nI (n)), .ref a1, .ref a2, .ref a3, .ref a4, .ref a5, .int (mo), .int (le)])), (a1, .inl (c1, 40, .inl xh)), (a2, .inl (c2, 40, .inl yr)), (a3, .inl (c3, 40, .inr (.inl xb))), (a4, .inl (c4, 40, .inr (.inl yb))), (a5, .inl (c5, 7400, .inl bs))] H) → (va_D A [(o, .inr (ciM, [.int (th), .int (nI (n)), .ref a1, .ref a2, .ref a3, .ref a4, .ref a5, .int (mo), .int (le)])), (a1, .inl (c1, 40, .inl xh)), (a2, .inl (c2, 40, .inl yr)), (a3, .inl (c3, 40, .inr (.inl xb))), (a4, .inl (c4, 40, .inr (.inl yb))), (a5, .inl (c5, 7400, .inl bs))]) → (va_S A s.heap H locs) → lv_has ls 6 [(0, .ref o), (1, .int (nI (fr))), (2, .int (nI (bk))), (3, .int (nI (p0)))] → W p l e (headSpec ws_M_settle ({ frames := 1, cells := 0, slots := 0, locals := 24 } : Room)).room s m ([.ref o, .int (nI (fr)), .int (nI (bk))]).toArray below meth c H locs 0 0 (MQ below (va_Qi (fun r u => md_set F n xh yr xb yb r u) (md_B dC dI A o a1 a2 a3 a4 a5 c1 c2 c3 c4 c5) A) ([.ref o, .int (nI (fr)), .int (nI (bk))]).toArray s 0 0 A) (F0 m 2 ls []) := by
    intro k_
    induction k_ with
    | zero => intro p0 H locs ls h_; omega
    | succ k_ ih_2 =>
      intro p0 H locs ls hm_ hp00 hpb hlow hP hD hS hl
      refine lv_iload_n hx hb d_M_settle_2 rfl (lv_at hl 2 rfl) ?_
      refine lv_iload_n hx hb d_M_settle_3 rfl (lv_at hl 3 rfl) ?_
      refine pq_irem (a := bk) (b := p0) hx hb d_M_settle_4 (by omega) (by omega) (by omega) ?_
      refine pq_if_ne (tgt := 18) (a := (bk % p0)) hx hb d_M_settle_5 (by decide) (by have := Nat.mod_lt bk hp00; omega) (fun c_5 => ?_) (fun c_5 => ?_)
      · have hnot : ¬ (bk % p0 = 0 ∧ pw_B F fr bk p0) := by first | (intro z; exact absurd z.1 (by omega)) | exact fun z => hr_12.elim (fun y => absurd (y.1.symm.trans c_15) (by decide)) (fun y => y.2 z.2)
        have hltb : p0 < bk := by
          rcases Nat.lt_or_ge p0 bk with z | z
          · exact z
          · exfalso; apply hnot; rw [show p0 = bk by omega]; exact ⟨Nat.mod_self bk, fun k hk => absurd hk (by omega)⟩
        refine lv_iinc (v := nI (p0 + 1)) (lv' := [(3, .int (nI (p0 + 1))), (0, .ref o), (1, .int (nI (fr))), (2, .int (nI (bk)))]) hx hb d_M_settle_18 hl (k := 3) rfl (pq_inc _) (by decide) rfl (fun ls hl => ?_)
        refine lv_goto (tgt := 2) hx hb d_M_settle_21 (by decide) ?_
        exact ih_2 (p0 + 1) _ _ ls (by omega) (by omega) (by omega) (fun q h0 h1 => (Nat.lt_or_ge q p0).elim (fun z => hlow q h0 z) (fun z => (show q = p0 by omega) ▸ hnot)) hP hD hS (lv_sub hl [1, 2, 3, 0] rfl)
      · refine lv_aload_n hx hb d_M_settle_8 rfl (lv_at hl 0 rfl) ?_
        refine lv_iload_n hx hb d_M_settle_9 rfl (lv_at hl 1 rfl) ?_
        refine lv_iload_n hx hb d_M_settle_10 rfl (lv_at hl 2 rfl) ?_
        refine lv_iload_n hx hb d_M_settle_11 rfl (lv_at hl 3 rfl) ?_
        refine vp_callSi (W.runV (As := [.int (nI (fr)), .int (nI (bk)), .int (nI (p0))]) (rest := []) ⟨hx, hb, hml, hown, hts⟩ (c_M_comesBack l dC dI hbs hfb (p0 := p0) (by omega)) (cwV 3 hts (gd_V mb_425 mb_427 mb_4 mb_23 mb_428) rfl rfl rfl (by decide +kernel) ⟨Nat.le_of_ble_eq_true rfl, Nat.le_of_ble_eq_true rfl⟩) (pw_R_V (va_recv hK hP (ci := ciM) (q0 := 0) rfl rfl) hP hK) rfl rfl hl.1 rfl (lv_room (Nat.le_of_ble_eq_true rfl)) d_M_settle_12 ⟨Nat.le_of_ble_eq_true rfl, Nat.le_of_ble_eq_true rfl⟩) (fun r_12 hr_12 => ?_)
        refine lv_if_ne (tgt := 24) hx hb d_M_settle_15 (by decide) (fun c_15 => ?_) (fun c_15 => ?_)
        · have hcb : pw_B F fr bk p0 := hr_12.elim (fun z => z.2) (fun z => absurd z.1 c_15)
          obtain ⟨hEp, hmin⟩ := pw_B_least hbk hEF hp00 c_5 hcb hlow
          have B_61 : ∀ (hy : Nat) (H : Heap) (locs : List Loc) (ls : Array Slot), (hy ≤ fr) → (pw_Can F hy p0) → (va_P (dC, dI) vwCl [(o, .inr (ciM, [.int (th), .int (nI (n)), .ref a1, .ref a2, .ref a3, .ref a4, .ref a5, .int (mo), .int (le)])), (a1, .inl (c1, 40, .inl xh)), (a2, .inl (c2, 40, .inl yr)), (a3, .inl (c3, 40, .inr (.inl xb))), (a4, .inl (c4, 40, .inr (.inl yb))), (a5, .inl (c5, 7400, .inl bs))] H) → (va_D A [(o, .inr (ciM, [.int (th), .int (nI (n)), .ref a1, .ref a2, .ref a3, .ref a4, .ref a5, .int (mo), .int (le)])), (a1, .inl (c1, 40, .inl xh)), (a2, .inl (c2, 40, .inl yr)), (a3, .inl (c3, 40, .inr (.inl xb))), (a4, .inl (c4, 40, .inr (.inl yb))), (a5, .inl (c5, 7400, .inl bs))]) → (va_S A s.heap H locs) → lv_has ls 6 [(0, .ref o), (3, .int (nI (p0))), (4, .int (nI (hy)))] → W p l e (headSpec ws_M_settle ({ frames := 1, cells := 0, slots := 0, locals := 24 } : Room)).room s m ([.ref o, .int (nI (fr)), .int (nI (bk))]).toArray below meth c H locs 0 0 (MQ below (va_Qi (fun r u => md_set F n xh yr xb yb r u) (md_B dC dI A o a1 a2 a3 a4 a5 c1 c2 c3 c4 c5) A) ([.ref o, .int (nI (fr)), .int (nI (bk))]).toArray s 0 0 A) (F0 m 61 ls []) := by
            intro hy H locs ls hyf hcan hP hD hS hl
            refine lv_iload hx hb d_M_settle_61 (lv_at hl 2 rfl) ?_
            refine lv_bipush (v := nI 60) hx hb d_M_settle_63 (by decide) ?_
            refine pq_icmp_gt (tgt := 74) (a := hy) (b := 60) hx hb d_M_settle_65 (by decide) (by omega) (by omega) (fun c_65 => ?_) (fun c_65 => ?_)
            · refine lv_iconst (v := (-1)) hx hb d_M_settle_74 (by decide) ?_
              exact W.iret (v := (-1)) hx hb hr (fun t_ ht_ hW_ => ⟨⟨_, (th, n, mo, le, xh, yr, xb, yb, bs), rfl, ⟨hy, p0, hcan, Or.inr ⟨by omega, rfl, rfl, fun i hi => ⟨rfl, rfl, rfl, rfl⟩⟩⟩, by rw [ht_]; exact hP, va_K.moved hW_.alike hK, hD⟩, hS.F ht_⟩) hS.2.2 d_M_settle_75
            · refine lv_iload_n hx hb d_M_settle_68 rfl (lv_at hl 1 rfl) ?_
              refine lv_bipush (v := nI 60) hx hb d_M_settle_69 (by decide) ?_
              refine pq_icmp_le (tgt := 76) (a := p0) (b := 60) hx hb d_M_settle_71 (by decide) (by omega) (by omega) (fun c_71 => ?_) (fun c_71 => ?_)
              · refine lv_aload_n hx hb d_M_settle_76 rfl (lv_at hl 0 rfl) ?_
                refine va_get (D := (dC, dI)) (ci := ciM) (v := .ref a1) (C := R_M) (T := F_M) (N := 9) hx hb hts (fun w h => List.mem_cons_of_mem _ (in_M w h)) hown hK hP 0 rfl rfl 2 (by decide) (hts (.fieldLink R_M 7 "PeriodWordsModel" "head" "[I") (List.mem_cons_of_mem _ mb_382)) (fun _ h9 => h9) rfl d_M_settle_77 ?_
                refine lv_aload_n hx hb d_M_settle_80 rfl (lv_at hl 0 rfl) ?_
                refine va_get (D := (dC, dI)) (ci := ciM) (v := .int (nI (n))) (C := R_M) (T := F_M) (N := 9) hx hb hts (fun w h => List.mem_cons_of_mem _ (in_M w h)) hown hK hP 0 rfl rfl 1 (by decide) (hts (.fieldLink R_M 31 "PeriodWordsModel" "words" "I") (List.mem_cons_of_mem _ mb_381)) (fun _ h9 => h9) rfl d_M_settle_81 ?_
                refine lv_iload hx hb d_M_settle_84 (lv_at hl 2 rfl) ?_
                refine va_iast hx hb hK hP hD hS 1 0 rfl rfl (vp_in_nI (n := n) (by omega) (by omega)) d_M_settle_86 (fun H locs hP hD hS => ?_)
                rw [pq_cl (by omega)] at hP hD
                have hP : va_P (dC, dI) vwCl [(o, .inr (ciM, [.int (th), .int (nI (n)), .ref a1, .ref a2, .ref a3, .ref a4, .ref a5, .int (mo), .int (le)])), (a1, .inl (c1, 40, .inl (upd xh n (nI (hy))))), (a2, .inl (c2, 40, .inl yr)), (a3, .inl (c3, 40, .inr (.inl xb))), (a4, .inl (c4, 40, .inr (.inl yb))), (a5, .inl (c5, 7400, .inl bs))] H := hP
                have hD : va_D A [(o, .inr (ciM, [.int (th), .int (nI (n)), .ref a1, .ref a2, .ref a3, .ref a4, .ref a5, .int (mo), .int (le)])), (a1, .inl (c1, 40, .inl (upd xh n (nI (hy))))), (a2, .inl (c2, 40, .inl yr)), (a3, .inl (c3, 40, .inr (.inl xb))), (a4, .inl (c4, 40, .inr (.inl yb))), (a5, .inl (c5, 7400, .inl bs))] := hD
                refine lv_aload_n hx hb d_M_settle_87 rfl (lv_at hl 0 rfl) ?_
                refine va_get (D := (dC, dI)) (ci := ciM) (v := .ref a2) (C := R_M) (T := F_M) (N := 9) hx hb hts (fun w h => List.mem_cons_of_mem _ (in_M w h)) hown hK hP 0 rfl rfl 3 (by decide) (hts (.fieldLink R_M 13 "PeriodWordsModel" "ring" "[I") (List.mem_cons_of_mem _ mb_383)) (fun _ h9 => h9) rfl d_M_settle_88 ?_
                refine lv_aload_n hx hb d_M_settle_91 rfl (lv_at hl 0 rfl) ?_
                refine va_get (D := (dC, dI)) (ci := ciM) (v := .int (nI (n))) (C := R_M) (T := F_M) (N := 9) hx hb hts (fun w h => List.mem_cons_of_mem _ (in_M w h)) hown hK hP 0 rfl rfl 1 (by decide) (hts (.fieldLink R_M 31 "PeriodWordsModel" "words" "I") (List.mem_cons_of_mem _ mb_381)) (fun _ h9 => h9) rfl d_M_settle_92 ?_
                refine lv_iload_n hx hb d_M_settle_95 rfl (lv_at hl 1 rfl) ?_
                refine va_iast hx hb hK hP hD hS 2 1 rfl rfl (vp_in_nI (n := n) (by omega) (by omega)) d_M_settle_96 (fun H locs hP hD hS => ?_)
                rw [pq_cl (by omega)] at hP hD
                have hP : va_P (dC, dI) vwCl [(o, .inr (ciM, [.int (th), .int (nI (n)), .ref a1, .ref a2, .ref a3, .ref a4, .ref a5, .int (mo), .int (le)])), (a1, .inl (c1, 40, .inl (upd xh n (nI (hy))))), (a2, .inl (c2, 40, .inl (upd yr n (nI (p0))))), (a3, .inl (c3, 40, .inr (.inl xb))), (a4, .inl (c4, 40, .inr (.inl yb))), (a5, .inl (c5, 7400, .inl bs))] H := hP
                have hD : va_D A [(o, .inr (ciM, [.int (th), .int (nI (n)), .ref a1, .ref a2, .ref a3, .ref a4, .ref a5, .int (mo), .int (le)])), (a1, .inl (c1, 40, .inl (upd xh n (nI (hy))))), (a2, .inl (c2, 40, .inl (upd yr n (nI (p0))))), (a3, .inl (c3, 40, .inr (.inl xb))), (a4, .inl (c4, 40, .inr (.inl yb))), (a5, .inl (c5, 7400, .inl bs))] := hD
                refine lv_aload_n hx hb d_M_settle_97 rfl (lv_at hl 0 rfl) ?_
                refine va_get (D := (dC, dI)) (ci := ciM) (v := .ref a3) (C := R_M) (T := F_M) (N := 9) hx hb hts (fun w h => List.mem_cons_of_mem _ (in_M w h)) hown hK hP 0 rfl rfl 4 (by decide) (hts (.fieldLink R_M 16 "PeriodWordsModel" "headBits" "[J") (List.mem_cons_of_mem _ mb_384)) (fun _ h9 => h9) rfl d_M_settle_98 ?_
                refine lv_aload_n hx hb d_M_settle_101 rfl (lv_at hl 0 rfl) ?_
                refine va_get (D := (dC, dI)) (ci := ciM) (v := .int (nI (n))) (C := R_M) (T := F_M) (N := 9) hx hb hts (fun w h => List.mem_cons_of_mem _ (in_M w h)) hown hK hP 0 rfl rfl 1 (by decide) (hts (.fieldLink R_M 31 "PeriodWordsModel" "words" "I") (List.mem_cons_of_mem _ mb_381)) (fun _ h9 => h9) rfl d_M_settle_102 ?_
                refine lv_lconst (v := lN 0) hx hb d_M_settle_105 (by decide) ?_
                refine va_last hx hb hK hP hD hS 3 2 rfl rfl (vp_in_nI (n := n) (by omega) (by omega)) d_M_settle_106 (fun H locs hP hD hS => ?_)
                rw [pq_cl (by omega)] at hP hD
                have hP : va_P (dC, dI) vwCl [(o, .inr (ciM, [.int (th), .int (nI (n)), .ref a1, .ref a2, .ref a3, .ref a4, .ref a5, .int (mo), .int (le)])), (a1, .inl (c1, 40, .inl (upd xh n (nI (hy))))), (a2, .inl (c2, 40, .inl (upd yr n (nI (p0))))), (a3, .inl (c3, 40, .inr (.inl (vp_updL xb n (lN (0)))))), (a4, .inl (c4, 40, .inr (.inl yb))), (a5, .inl (c5, 7400, .inl bs))] H := hP
                have hD : va_D A [(o, .inr (ciM, [.int (th), .int (nI (n)), .ref a1, .ref a2, .ref a3, .ref a4, .ref a5, .int (mo), .int (le)])), (a1, .inl (c1, 40, .inl (upd xh n (nI (hy))))), (a2, .inl (c2, 40, .inl (upd yr n (nI (p0))))), (a3, .inl (c3, 40, .inr (.inl (vp_updL xb n (lN (0)))))), (a4, .inl (c4, 40, .inr (.inl yb))), (a5, .inl (c5, 7400, .inl bs))] := hD
                refine lv_aload_n hx hb d_M_settle_107 rfl (lv_at hl 0 rfl) ?_
                refine va_get (D := (dC, dI)) (ci := ciM) (v := .ref a4) (C := R_M) (T := F_M) (N := 9) hx hb hts (fun w h => List.mem_cons_of_mem _ (in_M w h)) hown hK hP 0 rfl rfl 5 (by decide) (hts (.fieldLink R_M 20 "PeriodWordsModel" "ringBits" "[J") (List.mem_cons_of_mem _ mb_385)) (fun _ h9 => h9) rfl d_M_settle_108 ?_
                refine lv_aload_n hx hb d_M_settle_111 rfl (lv_at hl 0 rfl) ?_
                refine va_get (D := (dC, dI)) (ci := ciM) (v := .int (nI (n))) (C := R_M) (T := F_M) (N := 9) hx hb hts (fun w h => List.mem_cons_of_mem _ (in_M w h)) hown hK hP 0 rfl rfl 1 (by decide) (hts (.fieldLink R_M 31 "PeriodWordsModel" "words" "I") (List.mem_cons_of_mem _ mb_381)) (fun _ h9 => h9) rfl d_M_settle_112 ?_
                refine lv_lconst (v := lN 0) hx hb d_M_settle_115 (by decide) ?_
                refine va_last hx hb hK hP hD hS 4 3 rfl rfl (vp_in_nI (n := n) (by omega) (by omega)) d_M_settle_116 (fun H locs hP hD hS => ?_)
                rw [pq_cl (by omega)] at hP hD
                have hP : va_P (dC, dI) vwCl [(o, .inr (ciM, [.int (th), .int (nI (n)), .ref a1, .ref a2, .ref a3, .ref a4, .ref a5, .int (mo), .int (le)])), (a1, .inl (c1, 40, .inl (upd xh n (nI (hy))))), (a2, .inl (c2, 40, .inl (upd yr n (nI (p0))))), (a3, .inl (c3, 40, .inr (.inl (vp_updL xb n (lN (0)))))), (a4, .inl (c4, 40, .inr (.inl (vp_updL yb n (lN (0)))))), (a5, .inl (c5, 7400, .inl bs))] H := hP
                have hD : va_D A [(o, .inr (ciM, [.int (th), .int (nI (n)), .ref a1, .ref a2, .ref a3, .ref a4, .ref a5, .int (mo), .int (le)])), (a1, .inl (c1, 40, .inl (upd xh n (nI (hy))))), (a2, .inl (c2, 40, .inl (upd yr n (nI (p0))))), (a3, .inl (c3, 40, .inr (.inl (vp_updL xb n (lN (0)))))), (a4, .inl (c4, 40, .inr (.inl (vp_updL yb n (lN (0)))))), (a5, .inl (c5, 7400, .inl bs))] := hD
                refine lv_iconst (v := nI 0) hx hb d_M_settle_117 (by decide) ?_
                refine lv_istore (lv' := [(5, .int (nI (0))), (0, .ref o), (3, .int (nI (p0))), (4, .int (nI (hy)))]) hx hb d_M_settle_118 hl (by decide) rfl (fun ls hl => ?_)
                have B_120 : ∀ (k_ : Nat) (k : Nat) (z : Nat → Int64) (H : Heap) (locs : List Loc) (ls : Array Slot), (hy - k) < k_ → (k ≤ hy) → (z n = lN (pw_b F 0 k)) → (∀ i, i < n → z i = xb i) → (va_P (dC, dI) vwCl [(o, .inr (ciM, [.int (th), .int (nI (n)), .ref a1, .ref a2, .ref a3, .ref a4, .ref a5, .int (mo), .int (le)])), (a1, .inl (c1, 40, .inl (upd xh n (nI (hy))))), (a2, .inl (c2, 40, .inl (upd yr n (nI (p0))))), (a3, .inl (c3, 40, .inr (.inl z))), (a4, .inl (c4, 40, .inr (.inl (vp_updL yb n (lN (0)))))), (a5, .inl (c5, 7400, .inl bs))] H) → (va_D A [(o, .inr (ciM, [.int (th), .int (nI (n)), .ref a1, .ref a2, .ref a3, .ref a4, .ref a5, .int (mo), .int (le)])), (a1, .inl (c1, 40, .inl (upd xh n (nI (hy))))), (a2, .inl (c2, 40, .inl (upd yr n (nI (p0))))), (a3, .inl (c3, 40, .inr (.inl z))), (a4, .inl (c4, 40, .inr (.inl (vp_updL yb n (lN (0)))))), (a5, .inl (c5, 7400, .inl bs))]) → (va_S A s.heap H locs) → lv_has ls 6 [(0, .ref o), (3, .int (nI (p0))), (4, .int (nI (hy))), (5, .int (nI (k)))] → W p l e (headSpec ws_M_settle ({ frames := 1, cells := 0, slots := 0, locals := 24 } : Room)).room s m ([.ref o, .int (nI (fr)), .int (nI (bk))]).toArray below meth c H locs 0 0 (MQ below (va_Qi (fun r u => md_set F n xh yr xb yb r u) (md_B dC dI A o a1 a2 a3 a4 a5 c1 c2 c3 c4 c5) A) ([.ref o, .int (nI (fr)), .int (nI (bk))]).toArray s 0 0 A) (F0 m 120 ls []) := by
                  intro k_
                  induction k_ with
                  | zero => intro k z H locs ls h_; omega
                  | succ k_ ih_120 =>
                    intro k z H locs ls hm_ hk hz1 hz2 hP hD hS hl
                    refine lv_iload hx hb d_M_settle_120 (lv_at hl 3 rfl) ?_
                    refine lv_iload hx hb d_M_settle_122 (lv_at hl 2 rfl) ?_
                    refine pq_icmp_ge (tgt := 163) (a := k) (b := hy) hx hb d_M_settle_124 (by decide) (by omega) (by omega) (fun c_124 => ?_) (fun c_124 => ?_)
                    · refine lv_iconst (v := nI 0) hx hb d_M_settle_163 (by decide) ?_
                      refine lv_istore (lv' := [(5, .int (nI (0))), (0, .ref o), (3, .int (nI (p0))), (4, .int (nI (hy)))]) hx hb d_M_settle_164 hl (by decide) rfl (fun ls hl => ?_)
                      have B_166 : ∀ (k_ : Nat) (k2 : Nat) (yz : Nat → Int64) (H : Heap) (locs : List Loc) (ls : Array Slot), (p0 - k2) < k_ → (k2 ≤ p0) → (yz n = lN (pw_b F hy k2)) → (∀ i, i < n → yz i = yb i) → (va_P (dC, dI) vwCl [(o, .inr (ciM, [.int (th), .int (nI (n)), .ref a1, .ref a2, .ref a3, .ref a4, .ref a5, .int (mo), .int (le)])), (a1, .inl (c1, 40, .inl (upd xh n (nI (hy))))), (a2, .inl (c2, 40, .inl (upd yr n (nI (p0))))), (a3, .inl (c3, 40, .inr (.inl z))), (a4, .inl (c4, 40, .inr (.inl yz))), (a5, .inl (c5, 7400, .inl bs))] H) → (va_D A [(o, .inr (ciM, [.int (th), .int (nI (n)), .ref a1, .ref a2, .ref a3, .ref a4, .ref a5, .int (mo), .int (le)])), (a1, .inl (c1, 40, .inl (upd xh n (nI (hy))))), (a2, .inl (c2, 40, .inl (upd yr n (nI (p0))))), (a3, .inl (c3, 40, .inr (.inl z))), (a4, .inl (c4, 40, .inr (.inl yz))), (a5, .inl (c5, 7400, .inl bs))]) → (va_S A s.heap H locs) → lv_has ls 6 [(0, .ref o), (3, .int (nI (p0))), (4, .int (nI (hy))), (5, .int (nI (k2)))] → W p l e (headSpec ws_M_settle ({ frames := 1, cells := 0, slots := 0, locals := 24 } : Room)).room s m ([.ref o, .int (nI (fr)), .int (nI (bk))]).toArray below meth c H locs 0 0 (MQ below (va_Qi (fun r u => md_set F n xh yr xb yb r u) (md_B dC dI A o a1 a2 a3 a4 a5 c1 c2 c3 c4 c5) A) ([.ref o, .int (nI (fr)), .int (nI (bk))]).toArray s 0 0 A) (F0 m 166 ls []) := by
                        intro k_
                        induction k_ with
                        | zero => intro k2 yz H locs ls h_; omega
                        | succ k_ ih_166 =>
                          intro k2 yz H locs ls hm_ hk2 hy1 hy2 hP hD hS hl
                          refine lv_iload hx hb d_M_settle_166 (lv_at hl 3 rfl) ?_
                          refine lv_iload_n hx hb d_M_settle_168 rfl (lv_at hl 1 rfl) ?_
                          refine pq_icmp_ge (tgt := 211) (a := k2) (b := p0) hx hb d_M_settle_169 (by decide) (by omega) (by omega) (fun c_169 => ?_) (fun c_169 => ?_)
                          · refine lv_aload_n hx hb d_M_settle_211 rfl (lv_at hl 0 rfl) ?_
                            refine lv_dup hx hb d_M_settle_212 rfl ?_
                            refine va_get (D := (dC, dI)) (ci := ciM) (v := .int (nI (n))) (C := R_M) (T := F_M) (N := 9) hx hb hts (fun w h => List.mem_cons_of_mem _ (in_M w h)) hown hK hP 0 rfl rfl 1 (by decide) (hts (.fieldLink R_M 31 "PeriodWordsModel" "words" "I") (List.mem_cons_of_mem _ mb_381)) (fun _ h9 => h9) rfl d_M_settle_213 ?_
                            refine lv_iconst (v := nI 1) hx hb d_M_settle_216 (by decide) ?_
                            refine pq_iadd (a := n) (b := 1) hx hb d_M_settle_217 ?_
                            refine va_put (D := (dC, dI)) (ci := ciM) (v := .int (nI (n + 1))) (ty := .int) (C := R_M) (T := F_M) (N := 9) hx hb hts (fun w h => List.mem_cons_of_mem _ (in_M w h)) t_M t_M_ok n_M hown hK hP hD hS 0 rfl rfl 1 (by decide) (hts (.fieldLink R_M 31 "PeriodWordsModel" "words" "I") (List.mem_cons_of_mem _ mb_381)) (fun _ h9 => h9) rfl (by decide +kernel) rfl rfl (Nat.le_of_ble_eq_true rfl) d_M_settle_218 (fun H locs hP hD hS => ?_)
                            have hP : va_P (dC, dI) vwCl [(o, .inr (ciM, [.int (th), .int (nI (n + 1)), .ref a1, .ref a2, .ref a3, .ref a4, .ref a5, .int (mo), .int (le)])), (a1, .inl (c1, 40, .inl (upd xh n (nI (hy))))), (a2, .inl (c2, 40, .inl (upd yr n (nI (p0))))), (a3, .inl (c3, 40, .inr (.inl z))), (a4, .inl (c4, 40, .inr (.inl yz))), (a5, .inl (c5, 7400, .inl bs))] H := hP
                            have hD : va_D A [(o, .inr (ciM, [.int (th), .int (nI (n + 1)), .ref a1, .ref a2, .ref a3, .ref a4, .ref a5, .int (mo), .int (le)])), (a1, .inl (c1, 40, .inl (upd xh n (nI (hy))))), (a2, .inl (c2, 40, .inl (upd yr n (nI (p0))))), (a3, .inl (c3, 40, .inr (.inl z))), (a4, .inl (c4, 40, .inr (.inl yz))), (a5, .inl (c5, 7400, .inl bs))] := hD
                            refine lv_aload_n hx hb d_M_settle_221 rfl (lv_at hl 0 rfl) ?_
                            refine va_get (D := (dC, dI)) (ci := ciM) (v := .int (nI (n + 1))) (C := R_M) (T := F_M) (N := 9) hx hb hts (fun w h => List.mem_cons_of_mem _ (in_M w h)) hown hK hP 0 rfl rfl 1 (by decide) (hts (.fieldLink R_M 31 "PeriodWordsModel" "words" "I") (List.mem_cons_of_mem _ mb_381)) (fun _ h9 => h9) rfl d_M_settle_222 ?_
                            refine lv_iconst (v := nI 1) hx hb d_M_settle_225 (by decide) ?_
                            refine pq_isub (a := (n + 1)) (b := 1) hx hb d_M_settle_226 (by omega) ?_
                            exact W.iret (v := (nI ((n + 1) - 1))) hx hb hr (fun t_ ht_ hW_ => ⟨⟨_, (th, n + 1, mo, le, upd xh n (nI (hy)), upd yr n (nI (p0)), z, yz, bs), rfl, ⟨hy, p0, hcan, Or.inl ⟨by omega, by omega, rfl, rfl, ⟨hn, pk_us, pk_us, by rw [show hy = k by omega]; exact hz1, by rw [show p0 = k2 by omega]; exact hy1, ⟨by omega, hp00, by omega, hcan.2.1⟩⟩, fun i hi => ⟨pk_un (by omega), pk_un (by omega), hz2 i hi, hy2 i hi⟩⟩⟩, by rw [ht_]; exact hP, va_K.moved hW_.alike hK, hD⟩, hS.F ht_⟩) hS.2.2 d_M_settle_227
                          · refine lv_aload_n hx hb d_M_settle_172 rfl (lv_at hl 0 rfl) ?_
                            refine va_get (D := (dC, dI)) (ci := ciM) (v := .ref a4) (C := R_M) (T := F_M) (N := 9) hx hb hts (fun w h => List.mem_cons_of_mem _ (in_M w h)) hown hK hP 0 rfl rfl 5 (by decide) (hts (.fieldLink R_M 20 "PeriodWordsModel" "ringBits" "[J") (List.mem_cons_of_mem _ mb_385)) (fun _ h9 => h9) rfl d_M_settle_173 ?_
                            refine lv_aload_n hx hb d_M_settle_176 rfl (lv_at hl 0 rfl) ?_
                            refine va_get (D := (dC, dI)) (ci := ciM) (v := .int (nI (n))) (C := R_M) (T := F_M) (N := 9) hx hb hts (fun w h => List.mem_cons_of_mem _ (in_M w h)) hown hK hP 0 rfl rfl 1 (by decide) (hts (.fieldLink R_M 31 "PeriodWordsModel" "words" "I") (List.mem_cons_of_mem _ mb_381)) (fun _ h9 => h9) rfl d_M_settle_177 ?_
                            refine lv_dup2_11 hx hb d_M_settle_180 rfl rfl ?_
                            refine va_lald hx hb hK hP 4 3 rfl rfl (vp_in_nI (n := n) (by omega) (by omega)) d_M_settle_181 ?_
                            refine pq_top (y := .long (yz n)) (by rw [pq_cl (by omega)]) ?_
                            refine lv_aload_n hx hb d_M_settle_182 rfl (lv_at hl 0 rfl) ?_
                            refine va_get (D := (dC, dI)) (ci := ciM) (v := .ref a5) (C := R_M) (T := F_M) (N := 9) hx hb hts (fun w h => List.mem_cons_of_mem _ (in_M w h)) hown hK hP 0 rfl rfl 6 (by decide) (hts (.fieldLink R_M 23 "PeriodWordsModel" "bits" "[Z") (List.mem_cons_of_mem _ mb_386)) (fun _ h9 => h9) rfl d_M_settle_183 ?_
                            refine lv_iload hx hb d_M_settle_186 (lv_at hl 2 rfl) ?_
                            refine lv_iload hx hb d_M_settle_188 (lv_at hl 3 rfl) ?_
                            refine pq_iadd (a := hy) (b := k2) hx hb d_M_settle_190 ?_
                            refine va_zald hx hb hK hP 5 4 rfl rfl (vp_in_nI (n := (hy + k2)) (by omega) (by omega)) d_M_settle_191 ?_
                            refine pq_top (y := .int (bs (hy + k2))) (by rw [pq_cl (by omega)]) ?_
                            refine pq_top (y := .int (nI ((F (hy + k2)).toNat))) (by rw [hbs _ (by omega)]) ?_
                            refine pq_if_eq (tgt := 202) (a := ((F (hy + k2)).toNat)) hx hb d_M_settle_192 (by decide) (by have := pw_lt2 (F (hy + k2)); omega) (fun c_192 => ?_) (fun c_192 => ?_)
                            · refine lv_lconst (v := lN 0) hx hb d_M_settle_202 (by decide) ?_
                              refine lv_lor hx hb d_M_settle_203 ?_
                              refine pq_top (y := .long (lN (pw_b F hy (k2 + 1)))) (by rw [md_bit (x := 0) (show k2 < 60 by omega) hy1 (by rw [c_192, Nat.zero_mul])]) ?_
                              refine va_last hx hb hK hP hD hS 4 3 rfl rfl (vp_in_nI (n := n) (by omega) (by omega)) d_M_settle_204 (fun H locs hP hD hS => ?_)
                              rw [pq_cl (by omega)] at hP hD
                              have hP : va_P (dC, dI) vwCl [(o, .inr (ciM, [.int (th), .int (nI (n)), .ref a1, .ref a2, .ref a3, .ref a4, .ref a5, .int (mo), .int (le)])), (a1, .inl (c1, 40, .inl (upd xh n (nI (hy))))), (a2, .inl (c2, 40, .inl (upd yr n (nI (p0))))), (a3, .inl (c3, 40, .inr (.inl z))), (a4, .inl (c4, 40, .inr (.inl (vp_updL yz n (lN (pw_b F hy (k2 + 1))))))), (a5, .inl (c5, 7400, .inl bs))] H := hP
                              have hD : va_D A [(o, .inr (ciM, [.int (th), .int (nI (n)), .ref a1, .ref a2, .ref a3, .ref a4, .ref a5, .int (mo), .int (le)])), (a1, .inl (c1, 40, .inl (upd xh n (nI (hy))))), (a2, .inl (c2, 40, .inl (upd yr n (nI (p0))))), (a3, .inl (c3, 40, .inr (.inl z))), (a4, .inl (c4, 40, .inr (.inl (vp_updL yz n (lN (pw_b F hy (k2 + 1))))))), (a5, .inl (c5, 7400, .inl bs))] := hD
                              refine lv_iinc (v := nI (k2 + 1)) (lv' := [(5, .int (nI (k2 + 1))), (0, .ref o), (3, .int (nI (p0))), (4, .int (nI (hy)))]) hx hb d_M_settle_205 hl (k := 3) rfl (pq_inc _) (by decide) rfl (fun ls hl => ?_)
                              refine lv_goto (tgt := 166) hx hb d_M_settle_208 (by decide) ?_
                              exact ih_166 (k2 + 1) (vp_updL yz n (lN (pw_b F hy (k2 + 1)))) _ _ ls (by omega) (by omega) pk_uLs (fun i hi => (pk_uLn (by omega)).trans (hy2 i hi)) hP hD hS (lv_sub hl [1, 2, 3, 0] rfl)
                            · refine lv_lconst (v := lN 1) hx hb d_M_settle_195 (by decide) ?_
                              refine lv_iload hx hb d_M_settle_196 (lv_at hl 3 rfl) ?_
                              refine lv_lshl hx hb d_M_settle_198 rfl ?_
                              refine lv_topl (fun y_1 ey_1 => ?_)
                              refine pq_top (y := .long (lN (2 ^ k2))) (by rw [ey_1, pq_lshl 1 (show k2 < 64 by omega), Nat.one_mul]) ?_
                              refine lv_goto (tgt := 203) hx hb d_M_settle_199 (by decide) ?_
                              refine lv_lor hx hb d_M_settle_203 ?_
                              refine pq_top (y := .long (lN (pw_b F hy (k2 + 1)))) (by rw [md_bit (x := 2 ^ k2) (show k2 < 60 by omega) hy1 (by rw [show (F (hy + k2)).toNat = 1 by have := pw_lt2 (F (hy + k2)); omega, Nat.one_mul])]) ?_
                              refine va_last hx hb hK hP hD hS 4 3 rfl rfl (vp_in_nI (n := n) (by omega) (by omega)) d_M_settle_204 (fun H locs hP hD hS => ?_)
                              rw [pq_cl (by omega)] at hP hD
                              have hP : va_P (dC, dI) vwCl [(o, .inr (ciM, [.int (th), .int (nI (n)), .ref a1, .ref a2, .ref a3, .ref a4, .ref a5, .int (mo), .int (le)])), (a1, .inl (c1, 40, .inl (upd xh n (nI (hy))))), (a2, .inl (c2, 40, .inl (upd yr n (nI (p0))))), (a3, .inl (c3, 40, .inr (.inl z))), (a4, .inl (c4, 40, .inr (.inl (vp_updL yz n (lN (pw_b F hy (k2 + 1))))))), (a5, .inl (c5, 7400, .inl bs))] H := hP
                              have hD : va_D A [(o, .inr (ciM, [.int (th), .int (nI (n)), .ref a1, .ref a2, .ref a3, .ref a4, .ref a5, .int (mo), .int (le)])), (a1, .inl (c1, 40, .inl (upd xh n (nI (hy))))), (a2, .inl (c2, 40, .inl (upd yr n (nI (p0))))), (a3, .inl (c3, 40, .inr (.inl z))), (a4, .inl (c4, 40, .inr (.inl (vp_updL yz n (lN (pw_b F hy (k2 + 1))))))), (a5, .inl (c5, 7400, .inl bs))] := hD
                              refine lv_iinc (v := nI (k2 + 1)) (lv' := [(5, .int (nI (k2 + 1))), (0, .ref o), (3, .int (nI (p0))), (4, .int (nI (hy)))]) hx hb d_M_settle_205 hl (k := 3) rfl (pq_inc _) (by decide) rfl (fun ls hl => ?_)
                              refine lv_goto (tgt := 166) hx hb d_M_settle_208 (by decide) ?_
                              exact ih_166 (k2 + 1) (vp_updL yz n (lN (pw_b F hy (k2 + 1)))) _ _ ls (by omega) (by omega) pk_uLs (fun i hi => (pk_uLn (by omega)).trans (hy2 i hi)) hP hD hS (lv_sub hl [1, 2, 3, 0] rfl)
                      exact B_166 _ (0) (vp_updL yb n (lN (0))) _ _ ls (Nat.lt_succ_self _) (by omega) pk_uLs (fun i hi => pk_uLn (by omega)) hP hD hS (lv_sub hl [1, 2, 3, 0] rfl)
                    · refine lv_aload_n hx hb d_M_settle_127 rfl (lv_at hl 0 rfl) ?_
                      refine va_get (D := (dC, dI)) (ci := ciM) (v := .ref a3) (C := R_M) (T := F_M) (N := 9) hx hb hts (fun w h => List.mem_cons_of_mem _ (in_M w h)) hown hK hP 0 rfl rfl 4 (by decide) (hts (.fieldLink R_M 16 "PeriodWordsModel" "headBits" "[J") (List.mem_cons_of_mem _ mb_384)) (fun _ h9 => h9) rfl d_M_settle_128 ?_
                      refine lv_aload_n hx hb d_M_settle_131 rfl (lv_at hl 0 rfl) ?_
                      refine va_get (D := (dC, dI)) (ci := ciM) (v := .int (nI (n))) (C := R_M) (T := F_M) (N := 9) hx hb hts (fun w h => List.mem_cons_of_mem _ (in_M w h)) hown hK hP 0 rfl rfl 1 (by decide) (hts (.fieldLink R_M 31 "PeriodWordsModel" "words" "I") (List.mem_cons_of_mem _ mb_381)) (fun _ h9 => h9) rfl d_M_settle_132 ?_
                      refine lv_dup2_11 hx hb d_M_settle_135 rfl rfl ?_
                      refine va_lald hx hb hK hP 3 2 rfl rfl (vp_in_nI (n := n) (by omega) (by omega)) d_M_settle_136 ?_
                      refine pq_top (y := .long (z n)) (by rw [pq_cl (by omega)]) ?_
                      refine lv_aload_n hx hb d_M_settle_137 rfl (lv_at hl 0 rfl) ?_
                      refine va_get (D := (dC, dI)) (ci := ciM) (v := .ref a5) (C := R_M) (T := F_M) (N := 9) hx hb hts (fun w h => List.mem_cons_of_mem _ (in_M w h)) hown hK hP 0 rfl rfl 6 (by decide) (hts (.fieldLink R_M 23 "PeriodWordsModel" "bits" "[Z") (List.mem_cons_of_mem _ mb_386)) (fun _ h9 => h9) rfl d_M_settle_138 ?_
                      refine lv_iload hx hb d_M_settle_141 (lv_at hl 3 rfl) ?_
                      refine va_zald hx hb hK hP 5 4 rfl rfl (vp_in_nI (n := k) (by omega) (by omega)) d_M_settle_143 ?_
                      refine pq_top (y := .int (bs k)) (by rw [pq_cl (by omega)]) ?_
                      refine pq_top (y := .int (nI ((F k).toNat))) (by rw [hbs _ (by omega)]) ?_
                      refine pq_if_eq (tgt := 154) (a := ((F k).toNat)) hx hb d_M_settle_144 (by decide) (by have := pw_lt2 (F k); omega) (fun c_144 => ?_) (fun c_144 => ?_)
                      · refine lv_lconst (v := lN 0) hx hb d_M_settle_154 (by decide) ?_
                        refine lv_lor hx hb d_M_settle_155 ?_
                        refine pq_top (y := .long (lN (pw_b F 0 (k + 1)))) (by rw [md_bit (x := 0) (show k < 60 by omega) hz1 (by rw [Nat.zero_add, c_144, Nat.zero_mul])]) ?_
                        refine va_last hx hb hK hP hD hS 3 2 rfl rfl (vp_in_nI (n := n) (by omega) (by omega)) d_M_settle_156 (fun H locs hP hD hS => ?_)
                        rw [pq_cl (by omega)] at hP hD
                        have hP : va_P (dC, dI) vwCl [(o, .inr (ciM, [.int (th), .int (nI (n)), .ref a1, .ref a2, .ref a3, .ref a4, .ref a5, .int (mo), .int (le)])), (a1, .inl (c1, 40, .inl (upd xh n (nI (hy))))), (a2, .inl (c2, 40, .inl (upd yr n (nI (p0))))), (a3, .inl (c3, 40, .inr (.inl (vp_updL z n (lN (pw_b F 0 (k + 1))))))), (a4, .inl (c4, 40, .inr (.inl (vp_updL yb n (lN (0)))))), (a5, .inl (c5, 7400, .inl bs))] H := hP
                        have hD : va_D A [(o, .inr (ciM, [.int (th), .int (nI (n)), .ref a1, .ref a2, .ref a3, .ref a4, .ref a5, .int (mo), .int (le)])), (a1, .inl (c1, 40, .inl (upd xh n (nI (hy))))), (a2, .inl (c2, 40, .inl (upd yr n (nI (p0))))), (a3, .inl (c3, 40, .inr (.inl (vp_updL z n (lN (pw_b F 0 (k + 1))))))), (a4, .inl (c4, 40, .inr (.inl (vp_updL yb n (lN (0)))))), (a5, .inl (c5, 7400, .inl bs))] := hD
                        refine lv_iinc (v := nI (k + 1)) (lv' := [(5, .int (nI (k + 1))), (0, .ref o), (3, .int (nI (p0))), (4, .int (nI (hy)))]) hx hb d_M_settle_157 hl (k := 3) rfl (pq_inc _) (by decide) rfl (fun ls hl => ?_)
                        refine lv_goto (tgt := 120) hx hb d_M_settle_160 (by decide) ?_
                        exact ih_120 (k + 1) (vp_updL z n (lN (pw_b F 0 (k + 1)))) _ _ ls (by omega) (by omega) pk_uLs (fun i hi => (pk_uLn (by omega)).trans (hz2 i hi)) hP hD hS (lv_sub hl [1, 2, 3, 0] rfl)
                      · refine lv_lconst (v := lN 1) hx hb d_M_settle_147 (by decide) ?_
                        refine lv_iload hx hb d_M_settle_148 (lv_at hl 3 rfl) ?_
                        refine lv_lshl hx hb d_M_settle_150 rfl ?_
                        refine lv_topl (fun y_2 ey_2 => ?_)
                        refine pq_top (y := .long (lN (2 ^ k))) (by rw [ey_2, pq_lshl 1 (show k < 64 by omega), Nat.one_mul]) ?_
                        refine lv_goto (tgt := 155) hx hb d_M_settle_151 (by decide) ?_
                        refine lv_lor hx hb d_M_settle_155 ?_
                        refine pq_top (y := .long (lN (pw_b F 0 (k + 1)))) (by rw [md_bit (x := 2 ^ k) (show k < 60 by omega) hz1 (by rw [Nat.zero_add, show (F k).toNat = 1 by have := pw_lt2 (F k); omega, Nat.one_mul])]) ?_
                        refine va_last hx hb hK hP hD hS 3 2 rfl rfl (vp_in_nI (n := n) (by omega) (by omega)) d_M_settle_156 (fun H locs hP hD hS => ?_)
                        rw [pq_cl (by omega)] at hP hD
                        have hP : va_P (dC, dI) vwCl [(o, .inr (ciM, [.int (th), .int (nI (n)), .ref a1, .ref a2, .ref a3, .ref a4, .ref a5, .int (mo), .int (le)])), (a1, .inl (c1, 40, .inl (upd xh n (nI (hy))))), (a2, .inl (c2, 40, .inl (upd yr n (nI (p0))))), (a3, .inl (c3, 40, .inr (.inl (vp_updL z n (lN (pw_b F 0 (k + 1))))))), (a4, .inl (c4, 40, .inr (.inl (vp_updL yb n (lN (0)))))), (a5, .inl (c5, 7400, .inl bs))] H := hP
                        have hD : va_D A [(o, .inr (ciM, [.int (th), .int (nI (n)), .ref a1, .ref a2, .ref a3, .ref a4, .ref a5, .int (mo), .int (le)])), (a1, .inl (c1, 40, .inl (upd xh n (nI (hy))))), (a2, .inl (c2, 40, .inl (upd yr n (nI (p0))))), (a3, .inl (c3, 40, .inr (.inl (vp_updL z n (lN (pw_b F 0 (k + 1))))))), (a4, .inl (c4, 40, .inr (.inl (vp_updL yb n (lN (0)))))), (a5, .inl (c5, 7400, .inl bs))] := hD
                        refine lv_iinc (v := nI (k + 1)) (lv' := [(5, .int (nI (k + 1))), (0, .ref o), (3, .int (nI (p0))), (4, .int (nI (hy)))]) hx hb d_M_settle_157 hl (k := 3) rfl (pq_inc _) (by decide) rfl (fun ls hl => ?_)
                        refine lv_goto (tgt := 120) hx hb d_M_settle_160 (by decide) ?_
                        exact ih_120 (k + 1) (vp_updL z n (lN (pw_b F 0 (k + 1)))) _ _ ls (by omega) (by omega) pk_uLs (fun i hi => (pk_uLn (by omega)).trans (hz2 i hi)) hP hD hS (lv_sub hl [1, 2, 3, 0] rfl)
                exact B_120 _ (0) (vp_updL xb n (lN (0))) _ _ ls (Nat.lt_succ_self _) (by omega) pk_uLs (fun i hi => pk_uLn (by omega)) hP hD hS (lv_sub hl [1, 2, 3, 0] rfl)
              · refine lv_iconst (v := (-1)) hx hb d_M_settle_74 (by decide) ?_
                exact W.iret (v := (-1)) hx hb hr (fun t_ ht_ hW_ => ⟨⟨_, (th, n, mo, le, xh, yr, xb, yb, bs), rfl, ⟨hy, p0, hcan, Or.inr ⟨by omega, rfl, rfl, fun i hi => ⟨rfl, rfl, rfl, rfl⟩⟩⟩, by rw [ht_]; exact hP, va_K.moved hW_.alike hK, hD⟩, hS.F ht_⟩) hS.2.2 d_M_settle_75
          refine lv_iload_n hx hb d_M_settle_24 rfl (lv_at hl 1 rfl) ?_
          refine lv_istore (lv' := [(4, .int (nI (fr))), (0, .ref o), (1, .int (nI (fr))), (2, .int (nI (bk))), (3, .int (nI (p0)))]) hx hb d_M_settle_25 hl (by decide) rfl (fun ls hl => ?_)
          have B_27 : ∀ (k_ : Nat) (hz : Nat) (H : Heap) (locs : List Loc) (ls : Array Slot), (hz) < k_ → (hz ≤ fr) → (pw_E F hz p0) → (va_P (dC, dI) vwCl [(o, .inr (ciM, [.int (th), .int (nI (n)), .ref a1, .ref a2, .ref a3, .ref a4, .ref a5, .int (mo), .int (le)])), (a1, .inl (c1, 40, .inl xh)), (a2, .inl (c2, 40, .inl yr)), (a3, .inl (c3, 40, .inr (.inl xb))), (a4, .inl (c4, 40, .inr (.inl yb))), (a5, .inl (c5, 7400, .inl bs))] H) → (va_D A [(o, .inr (ciM, [.int (th), .int (nI (n)), .ref a1, .ref a2, .ref a3, .ref a4, .ref a5, .int (mo), .int (le)])), (a1, .inl (c1, 40, .inl xh)), (a2, .inl (c2, 40, .inl yr)), (a3, .inl (c3, 40, .inr (.inl xb))), (a4, .inl (c4, 40, .inr (.inl yb))), (a5, .inl (c5, 7400, .inl bs))]) → (va_S A s.heap H locs) → lv_has ls 6 [(0, .ref o), (3, .int (nI (p0))), (4, .int (nI (hz)))] → W p l e (headSpec ws_M_settle ({ frames := 1, cells := 0, slots := 0, locals := 24 } : Room)).room s m ([.ref o, .int (nI (fr)), .int (nI (bk))]).toArray below meth c H locs 0 0 (MQ below (va_Qi (fun r u => md_set F n xh yr xb yb r u) (md_B dC dI A o a1 a2 a3 a4 a5 c1 c2 c3 c4 c5) A) ([.ref o, .int (nI (fr)), .int (nI (bk))]).toArray s 0 0 A) (F0 m 27 ls []) := by
            intro k_
            induction k_ with
            | zero => intro hz H locs ls h_; omega
            | succ k_ ih_27 =>
              intro hz H locs ls hm_ hzf hzE hP hD hS hl
              refine lv_iload hx hb d_M_settle_27 (lv_at hl 2 rfl) ?_
              refine pq_if_le (tgt := 61) (a := hz) hx hb d_M_settle_29 (by decide) (by omega) (fun c_29 => ?_) (fun c_29 => ?_)
              · exact B_61 (hz) _ _ ls (by omega) (pw_Can_of hbk hEF hp00 hmin hzE (by first | exact Or.inl c_29 | exact Or.inr (fun z => c_52 (by rw [z])))) hP hD hS (lv_sub hl [0, 1, 2] rfl)
              · refine lv_aload_n hx hb d_M_settle_32 rfl (lv_at hl 0 rfl) ?_
                refine va_get (D := (dC, dI)) (ci := ciM) (v := .ref a5) (C := R_M) (T := F_M) (N := 9) hx hb hts (fun w h => List.mem_cons_of_mem _ (in_M w h)) hown hK hP 0 rfl rfl 6 (by decide) (hts (.fieldLink R_M 23 "PeriodWordsModel" "bits" "[Z") (List.mem_cons_of_mem _ mb_386)) (fun _ h9 => h9) rfl d_M_settle_33 ?_
                refine lv_iload hx hb d_M_settle_36 (lv_at hl 2 rfl) ?_
                refine lv_iconst (v := nI 1) hx hb d_M_settle_38 (by decide) ?_
                refine pq_isub (a := hz) (b := 1) hx hb d_M_settle_39 (by omega) ?_
                refine va_zald hx hb hK hP 5 4 rfl rfl (vp_in_nI (n := (hz - 1)) (by omega) (by omega)) d_M_settle_40 ?_
                refine pq_top (y := .int (bs (hz - 1))) (by rw [pq_cl (by omega)]) ?_
                refine pq_top (y := .int (nI ((F (hz - 1)).toNat))) (by rw [hbs _ (by omega)]) ?_
                refine lv_aload_n hx hb d_M_settle_41 rfl (lv_at hl 0 rfl) ?_
                refine va_get (D := (dC, dI)) (ci := ciM) (v := .ref a5) (C := R_M) (T := F_M) (N := 9) hx hb hts (fun w h => List.mem_cons_of_mem _ (in_M w h)) hown hK hP 0 rfl rfl 6 (by decide) (hts (.fieldLink R_M 23 "PeriodWordsModel" "bits" "[Z") (List.mem_cons_of_mem _ mb_386)) (fun _ h9 => h9) rfl d_M_settle_42 ?_
                refine lv_iload hx hb d_M_settle_45 (lv_at hl 2 rfl) ?_
                refine lv_iconst (v := nI 1) hx hb d_M_settle_47 (by decide) ?_
                refine pq_isub (a := hz) (b := 1) hx hb d_M_settle_48 (by omega) ?_
                refine lv_iload_n hx hb d_M_settle_49 rfl (lv_at hl 1 rfl) ?_
                refine pq_iadd (a := (hz - 1)) (b := p0) hx hb d_M_settle_50 ?_
                refine va_zald hx hb hK hP 5 4 rfl rfl (vp_in_nI (n := ((hz - 1) + p0)) (by omega) (by omega)) d_M_settle_51 ?_
                refine pq_top (y := .int (bs ((hz - 1) + p0))) (by rw [pq_cl (by omega)]) ?_
                refine pq_top (y := .int (nI ((F (hz - 1 + p0)).toNat))) (by rw [hbs _ (by omega)]) ?_
                refine pq_icmp_ne (tgt := 61) (a := ((F (hz - 1)).toNat)) (b := ((F (hz - 1 + p0)).toNat)) hx hb d_M_settle_52 (by decide) (by have := pw_lt2 (F (hz - 1)); omega) (by have := pw_lt2 (F (hz - 1 + p0)); omega) (fun c_52 => ?_) (fun c_52 => ?_)
                · exact B_61 (hz) _ _ ls (by omega) (pw_Can_of hbk hEF hp00 hmin hzE (by first | exact Or.inl c_29 | exact Or.inr (fun z => c_52 (by rw [z])))) hP hD hS (lv_sub hl [0, 1, 2] rfl)
                · refine lv_iinc (v := nI (hz - 1)) (lv' := [(4, .int (nI (hz - 1))), (0, .ref o), (3, .int (nI (p0)))]) hx hb d_M_settle_55 hl (k := 2) rfl (pq_dec _ (by omega)) (by decide) rfl (fun ls hl => ?_)
                  refine lv_goto (tgt := 27) hx hb d_M_settle_58 (by decide) ?_
                  exact ih_27 (hz - 1) _ _ ls (by omega) (by omega) (pw_E_dn hzE c_52) hP hD hS (lv_sub hl [1, 2, 0] rfl)
          exact B_27 _ (fr) _ _ ls (Nat.lt_succ_self _) (Nat.le_refl _) hEp hP hD hS (lv_sub hl [1, 4, 0] rfl)
        · have hnot : ¬ (bk % p0 = 0 ∧ pw_B F fr bk p0) := by first | (intro z; exact absurd z.1 (by omega)) | exact fun z => hr_12.elim (fun y => absurd (y.1.symm.trans c_15) (by decide)) (fun y => y.2 z.2)
          have hltb : p0 < bk := by
            rcases Nat.lt_or_ge p0 bk with z | z
            · exact z
            · exfalso; apply hnot; rw [show p0 = bk by omega]; exact ⟨Nat.mod_self bk, fun k hk => absurd hk (by omega)⟩
          refine lv_iinc (v := nI (p0 + 1)) (lv' := [(3, .int (nI (p0 + 1))), (0, .ref o), (1, .int (nI (fr))), (2, .int (nI (bk)))]) hx hb d_M_settle_18 hl (k := 3) rfl (pq_inc _) (by decide) rfl (fun ls hl => ?_)
          refine lv_goto (tgt := 2) hx hb d_M_settle_21 (by decide) ?_
          exact ih_2 (p0 + 1) _ _ ls (by omega) (by omega) (by omega) (fun q h0 h1 => (Nat.lt_or_ge q p0).elim (fun z => hlow q h0 z) (fun z => (show q = p0 by omega) ▸ hnot)) hP hD hS (lv_sub hl [1, 2, 3, 0] rfl)
  exact B_2 _ (1) _ _ ls (Nat.lt_succ_self _) (by omega) (by omega) (fun q h0 h1 => absurd h1 (by omega)) hP hD hS (lv_sub hl [1, 2, 3, 0] rfl)
set_option maxHeartbeats 4000000 in
set_option maxRecDepth 100000 in
theorem c_M_joined (l : Launch) (dC : Nat → ClassId) (dI : Nat → Nat → Nat) {sz : Nat} {o a1 a2 a3 a4 a5 : Nat} {c1 c2 c3 c4 c5 : ClassId} {th mo le : Int32} {n : Nat} {xh yr : Nat → Int32} {xb yb : Nat → Int64} {bs : Nat → Int32} {i h pp : Nat} {f : Nat → Bool} (hmd : md_at xh yr xb yb i h pp f) {i2 h2 pp2 : Nat} {f2 : Nat → Bool} (hmd2 : md_at xh yr xb yb i2 h2 pp2 f2) {how d : Nat} (hhow : how < 3) (hn : n < 40) : Met l y_M_joined ws_M_joined ({ frames := 2, cells := 0, slots := 0, locals := 49 } : Room) (md_Pre [.ref o, .int (nI (how)), .int (nI (i)), .int (nI (i2))] dC dI sz (mdT c1 c2 c3 c4 c5) (md o a1 a2 a3 a4 a5 c1 c2 c3 c4 c5 th n mo le xh yr xb yb bs)) (va_Qi (fun r u => md_set (pw_mk how f f2 d) n xh yr xb yb r u) (md_B dC dI (va_A (md o a1 a2 a3 a4 a5 c1 c2 c3 c4 c5 th n mo le xh yr xb yb bs) sz) o a1 a2 a3 a4 a5 c1 c2 c3 c4 c5) (va_A (md o a1 a2 a3 a4 a5 c1 c2 c3 c4 c5 th n mo le xh yr xb yb bs) sz)) 0 0 (va_A (md o a1 a2 a3 a4 a5 c1 c2 c3 c4 c5 th n mo le xh yr xb yb bs) sz) := by
  refine Met.ofW (cc := b_M_joined) (maxL := 7) (ret := (some .int)) (by decide) rfl ?_
  intro p e s m args below meth c s₁ B hml hv
  obtain ⟨rfl, hsz, hP, hK, hD0⟩ := hv
  have hx := B.exec
  have hb := B.bytes
  have hr := B.returns
  have hts := atoms_spec (ws := ws_M_joined) B.pre
  have hown : s.vm.findClass R_M = some m.cls := findClass_of_methodNamed B.named
  have hlocks := B.notSynchronized
  subst hsz
  have hD := hD0.self (sz := s.heap.size)
  generalize hAe : va_A (md o a1 a2 a3 a4 a5 c1 c2 c3 c4 c5 th n mo le xh yr xb yb bs) s.heap.size = A at hD ⊢
  have hA : ∀ q : Nat, s.heap.size ≤ q → A q := fun q h => by rw [← hAe]; exact Or.inr h
  have hS : va_S A s.heap s.heap [] := va_S.rf
  have hmd_ := hmd; obtain ⟨hi, e1, e2, e3, e4, hok⟩ := hmd_; have hok_ := hok; obtain ⟨hh, hp0, hp6, hE⟩ := hok_
  have ho := pw_o_le f h pp
  have hc := pw_c_le f h
  have hb0 := pq_lt60 (pw_b_lt f 0 h) hh
  have hb1 := pq_lt60 (pw_b_lt f h pp) hp6
  have hmd2_ := hmd2; obtain ⟨hi2, e12, e22, e32, e42, hok2⟩ := hmd2_; have hok2_ := hok2; obtain ⟨hh2, hp02, hp62, hE2⟩ := hok2_
  have ho2 := pw_o_le f2 h2 pp2
  have hc2 := pw_c_le f2 h2
  have hb02 := pq_lt60 (pw_b_lt f2 0 h2) hh2
  have hb12 := pq_lt60 (pw_b_lt f2 h2 pp2) hp62
  have mm : pp * pp2 ≤ 60 * 60 := Nat.mul_le_mul hp6 hp62
  have hl := lv_entry ([.ref o, .int (nI (how)), .int (nI (i)), .int (nI (i2))]) (n := 7) (Nat.le_of_ble_eq_true rfl)
  rw [lg_entry_eq]
  generalize (lg_sl ([.ref o, .int (nI (how)), .int (nI (i)), .int (nI (i2))]) ++ List.replicate (7 - (lg_sl ([.ref o, .int (nI (how)), .int (nI (i)), .int (nI (i2))])).length) Slot.unset).toArray = ls at hl ⊢
  have hl : lv_has ls 7 [(0, .ref o), (1, .int (nI (how))), (2, .int (nI (i))), (3, .int (nI (i2)))] := hl
  refine lv_aload_n hx hb d_M_joined_0 rfl (lv_at hl 0 rfl) ?_
  refine va_get (D := (dC, dI)) (ci := ciM) (v := .ref a1) (C := R_M) (T := F_M) (N := 9) hx hb hts (fun w h => List.mem_cons_of_mem _ (in_M w h)) hown hK hP 0 rfl rfl 2 (by decide) (hts (.fieldLink R_M 7 "PeriodWordsModel" "head" "[I") (List.mem_cons_of_mem _ mb_382)) (fun _ h9 => h9) rfl d_M_joined_1 ?_
  refine lv_iload_n hx hb d_M_joined_4 rfl (lv_at hl 2 rfl) ?_
  refine va_iald hx hb hK hP 1 0 rfl rfl (vp_in_nI (n := i) (by omega) (by omega)) d_M_joined_5 ?_
  refine pq_top (y := .int (xh i)) (by rw [pq_cl (by omega)]) ?_
  refine pq_top (y := .int (nI (h))) (by rw [e1]) ?_
  refine lv_aload_n hx hb d_M_joined_6 rfl (lv_at hl 0 rfl) ?_
  refine va_get (D := (dC, dI)) (ci := ciM) (v := .ref a1) (C := R_M) (T := F_M) (N := 9) hx hb hts (fun w h => List.mem_cons_of_mem _ (in_M w h)) hown hK hP 0 rfl rfl 2 (by decide) (hts (.fieldLink R_M 7 "PeriodWordsModel" "head" "[I") (List.mem_cons_of_mem _ mb_382)) (fun _ h9 => h9) rfl d_M_joined_7 ?_
  refine lv_iload_n hx hb d_M_joined_10 rfl (lv_at hl 3 rfl) ?_
  refine va_iald hx hb hK hP 1 0 rfl rfl (vp_in_nI (n := i2) (by omega) (by omega)) d_M_joined_11 ?_
  refine pq_top (y := .int (xh i2)) (by rw [pq_cl (by omega)]) ?_
  refine pq_top (y := .int (nI (h2))) (by rw [e12]) ?_
  refine vp_callSi (W.runS (As := [.int (nI (h)), .int (nI (h2))]) (rest := []) ⟨hx, hb, hml, hown, hts⟩ (c_M_greater l dC dI (x := h) (y := h2) (by omega) (by omega)) (va_cwS 2 hts (gd_S mb_464 mb_465 mb_23 mb_466) rfl rfl rfl (by decide +kernel) ⟨Nat.le_of_ble_eq_true rfl, Nat.le_of_ble_eq_true rfl⟩) (pw_R_S pw_P0 (hK.sub [] rfl)) rfl rfl hl.1 rfl (lv_room (Nat.le_of_ble_eq_true rfl)) d_M_joined_12 ⟨Nat.le_of_ble_eq_true rfl, Nat.le_of_ble_eq_true rfl⟩) (fun r_12 hr_12 => ?_)
  subst hr_12
  refine lv_istore (lv' := [(4, .int (nI (max h h2))), (0, .ref o), (1, .int (nI (how))), (2, .int (nI (i))), (3, .int (nI (i2)))]) hx hb d_M_joined_15 hl (by decide) rfl (fun ls hl => ?_)
  refine lv_aload_n hx hb d_M_joined_17 rfl (lv_at hl 1 rfl) ?_
  refine va_get (D := (dC, dI)) (ci := ciM) (v := .ref a2) (C := R_M) (T := F_M) (N := 9) hx hb hts (fun w h => List.mem_cons_of_mem _ (in_M w h)) hown hK hP 0 rfl rfl 3 (by decide) (hts (.fieldLink R_M 13 "PeriodWordsModel" "ring" "[I") (List.mem_cons_of_mem _ mb_383)) (fun _ h9 => h9) rfl d_M_joined_18 ?_
  refine lv_iload_n hx hb d_M_joined_21 rfl (lv_at hl 3 rfl) ?_
  refine va_iald hx hb hK hP 2 1 rfl rfl (vp_in_nI (n := i) (by omega) (by omega)) d_M_joined_22 ?_
  refine pq_top (y := .int (yr i)) (by rw [pq_cl (by omega)]) ?_
  refine pq_top (y := .int (nI (pp))) (by rw [e2]) ?_
  refine lv_aload_n hx hb d_M_joined_23 rfl (lv_at hl 1 rfl) ?_
  refine va_get (D := (dC, dI)) (ci := ciM) (v := .ref a2) (C := R_M) (T := F_M) (N := 9) hx hb hts (fun w h => List.mem_cons_of_mem _ (in_M w h)) hown hK hP 0 rfl rfl 3 (by decide) (hts (.fieldLink R_M 13 "PeriodWordsModel" "ring" "[I") (List.mem_cons_of_mem _ mb_383)) (fun _ h9 => h9) rfl d_M_joined_24 ?_
  refine lv_iload_n hx hb d_M_joined_27 rfl (lv_at hl 4 rfl) ?_
  refine va_iald hx hb hK hP 2 1 rfl rfl (vp_in_nI (n := i2) (by omega) (by omega)) d_M_joined_28 ?_
  refine pq_top (y := .int (yr i2)) (by rw [pq_cl (by omega)]) ?_
  refine pq_top (y := .int (nI (pp2))) (by rw [e22]) ?_
  refine pq_imul (a := pp) (b := pp2) hx hb d_M_joined_29 ?_
  refine lv_istore (lv' := [(5, .int (nI (pp * pp2))), (4, .int (nI (max h h2))), (0, .ref o), (1, .int (nI (how))), (2, .int (nI (i))), (3, .int (nI (i2)))]) hx hb d_M_joined_30 hl (by decide) rfl (fun ls hl => ?_)
  refine lv_iconst (v := nI 0) hx hb d_M_joined_32 (by decide) ?_
  refine lv_istore (lv' := [(6, .int (nI (0))), (5, .int (nI (pp * pp2))), (4, .int (nI (max h h2))), (0, .ref o), (1, .int (nI (how))), (2, .int (nI (i))), (3, .int (nI (i2)))]) hx hb d_M_joined_33 hl (by decide) rfl (fun ls hl => ?_)
  have B_35 : ∀ (k_ : Nat) (t : Nat) (bz : Nat → Int32) (H : Heap) (locs : List Loc) (ls : Array Slot), (max h h2 + pp * pp2 - t) < k_ → (t ≤ max h h2 + pp * pp2) → (∀ j, j < t → bz j = nI (pw_mk how f f2 d j).toNat) → (va_P (dC, dI) vwCl [(o, .inr (ciM, [.int (th), .int (nI (n)), .ref a1, .ref a2, .ref a3, .ref a4, .ref a5, .int (mo), .int (le)])), (a1, .inl (c1, 40, .inl xh)), (a2, .inl (c2, 40, .inl yr)), (a3, .inl (c3, 40, .inr (.inl xb))), (a4, .inl (c4, 40, .inr (.inl yb))), (a5, .inl (c5, 7400, .inl bz))] H) → (va_D A [(o, .inr (ciM, [.int (th), .int (nI (n)), .ref a1, .ref a2, .ref a3, .ref a4, .ref a5, .int (mo), .int (le)])), (a1, .inl (c1, 40, .inl xh)), (a2, .inl (c2, 40, .inl yr)), (a3, .inl (c3, 40, .inr (.inl xb))), (a4, .inl (c4, 40, .inr (.inl yb))), (a5, .inl (c5, 7400, .inl bz))]) → (va_S A s.heap H locs) → lv_has ls 7 [(0, .ref o), (1, .int (nI (how))), (2, .int (nI (i))), (3, .int (nI (i2))), (4, .int (nI (max h h2))), (5, .int (nI (pp * pp2))), (6, .int (nI (t)))] → W p l e (headSpec ws_M_joined ({ frames := 2, cells := 0, slots := 0, locals := 49 } : Room)).room s m ([.ref o, .int (nI (how)), .int (nI (i)), .int (nI (i2))]).toArray below meth c H locs 0 0 (MQ below (va_Qi (fun r u => md_set (pw_mk how f f2 d) n xh yr xb yb r u) (md_B dC dI A o a1 a2 a3 a4 a5 c1 c2 c3 c4 c5) A) ([.ref o, .int (nI (how)), .int (nI (i)), .int (nI (i2))]).toArray s 0 0 A) (F0 m 35 ls []) := by
    intro k_
    induction k_ with
    | zero => intro t bz H locs ls h_; omega
    | succ k_ ih_35 =>
      intro t bz H locs ls hm_ ht hbz hP hD hS hl
      refine lv_iload hx hb d_M_joined_35 (lv_at hl 6 rfl) ?_
      refine lv_iload hx hb d_M_joined_37 (lv_at hl 4 rfl) ?_
      refine lv_iload hx hb d_M_joined_39 (lv_at hl 5 rfl) ?_
      refine pq_iadd (a := (max h h2)) (b := (pp * pp2)) hx hb d_M_joined_41 ?_
      refine pq_icmp_ge (tgt := 145) (a := t) (b := ((max h h2) + (pp * pp2))) hx hb d_M_joined_42 (by decide) (by omega) (by omega) (fun c_42 => ?_) (fun c_42 => ?_)
      · refine lv_aload_n hx hb d_M_joined_145 rfl (lv_at hl 0 rfl) ?_
        refine lv_iload hx hb d_M_joined_146 (lv_at hl 4 rfl) ?_
        refine lv_iload hx hb d_M_joined_148 (lv_at hl 5 rfl) ?_
        have hFc := va_free (wc := [(o, .inr (ciM, [.int (th), .int (nI (n)), .ref a1, .ref a2, .ref a3, .ref a4, .ref a5, .int (mo), .int (le)])), (a1, .inl (c1, 40, .inl xh)), (a2, .inl (c2, 40, .inl yr)), (a3, .inl (c3, 40, .inr (.inl xb))), (a4, .inl (c4, 40, .inr (.inl yb))), (a5, .inl (c5, 7400, .inl bz))]) hD hS hA [0, 1, 2, 3, 4, 5] rfl
        refine va_calli (va_runV (As := [.int (nI (max h h2)), .int (nI (pp * pp2))]) (rest := []) ⟨hx, hb, hml, hown, hts⟩ (c_M_settle l dC dI (F := pw_mk how f f2 d) (fun j hj => hbz j (by omega)) (by omega) (Nat.mul_pos hp0 hp02) (pw_E_join hhow hE hE2) hn) (cwV 2 hts (gd_V mb_421 mb_423 mb_3 mb_23 mb_424) rfl rfl rfl (by decide +kernel) ⟨Nat.le_of_ble_eq_true rfl, Nat.le_of_ble_eq_true rfl⟩) ⟨md_blind, va_recv hK hP (ci := ciM) (q0 := 0) rfl rfl, fun U hU hW => ⟨rfl, by rw [hU], by rw [hU]; exact hP, va_K.moved hW.alike hK, hD.weaken (fun _ _ _ _ => trivial)⟩⟩ rfl rfl hl.1 rfl (lv_room (Nat.le_of_ble_eq_true rfl)) d_M_joined_150 ⟨Nat.le_of_ble_eq_true rfl, Nat.le_of_ble_eq_true rfl⟩) hS (fun q _ h => hFc q h) hFc (fun r_150 u_150 t_ H1 locs ht_ hvm_ hr_150 hB_ hz1_ hk1_ hS => ?_)
        obtain ⟨hP1_, hK1_, hD1_⟩ := hB_
        rw [ht_] at hP1_
        clear hP hD
        have hP := hP1_
        have hD := hD1_.weaken (fun k q _ h => hFc q.1 h)
        generalize H1 = H at hP hS ⊢
        have hP : va_P (dC, dI) vwCl [(o, .inr (ciM, [.int (u_150.1), .int (nI (u_150.2.1)), .ref a1, .ref a2, .ref a3, .ref a4, .ref a5, .int (u_150.2.2.1), .int (u_150.2.2.2.1)])), (a1, .inl (c1, 40, .inl u_150.2.2.2.2.1)), (a2, .inl (c2, 40, .inl u_150.2.2.2.2.2.1)), (a3, .inl (c3, 40, .inr (.inl u_150.2.2.2.2.2.2.1))), (a4, .inl (c4, 40, .inr (.inl u_150.2.2.2.2.2.2.2.1))), (a5, .inl (c5, 7400, .inl u_150.2.2.2.2.2.2.2.2))] H := hP
        have hD : va_D A [(o, .inr (ciM, [.int (u_150.1), .int (nI (u_150.2.1)), .ref a1, .ref a2, .ref a3, .ref a4, .ref a5, .int (u_150.2.2.1), .int (u_150.2.2.2.1)])), (a1, .inl (c1, 40, .inl u_150.2.2.2.2.1)), (a2, .inl (c2, 40, .inl u_150.2.2.2.2.2.1)), (a3, .inl (c3, 40, .inr (.inl u_150.2.2.2.2.2.2.1))), (a4, .inl (c4, 40, .inr (.inl u_150.2.2.2.2.2.2.2.1))), (a5, .inl (c5, 7400, .inl u_150.2.2.2.2.2.2.2.2))] := hD
        exact W.iret (v := (r_150)) hx hb hr (fun t_ ht_ hW_ => ⟨⟨_, (u_150.1, u_150.2.1, u_150.2.2.1, u_150.2.2.2.1, u_150.2.2.2.2.1, u_150.2.2.2.2.2.1, u_150.2.2.2.2.2.2.1, u_150.2.2.2.2.2.2.2.1, u_150.2.2.2.2.2.2.2.2), rfl, hr_150, by rw [ht_]; exact hP, va_K.moved hW_.alike hK, hD⟩, hS.F ht_⟩) hS.2.2 d_M_joined_153
      · have B_138 : ∀ (x : Nat) (H : Heap) (locs : List Loc) (ls : Array Slot), (x = (pw_mk how f f2 d t).toNat) → (va_P (dC, dI) vwCl [(o, .inr (ciM, [.int (th), .int (nI (n)), .ref a1, .ref a2, .ref a3, .ref a4, .ref a5, .int (mo), .int (le)])), (a1, .inl (c1, 40, .inl xh)), (a2, .inl (c2, 40, .inl yr)), (a3, .inl (c3, 40, .inr (.inl xb))), (a4, .inl (c4, 40, .inr (.inl yb))), (a5, .inl (c5, 7400, .inl bz))] H) → (va_D A [(o, .inr (ciM, [.int (th), .int (nI (n)), .ref a1, .ref a2, .ref a3, .ref a4, .ref a5, .int (mo), .int (le)])), (a1, .inl (c1, 40, .inl xh)), (a2, .inl (c2, 40, .inl yr)), (a3, .inl (c3, 40, .inr (.inl xb))), (a4, .inl (c4, 40, .inr (.inl yb))), (a5, .inl (c5, 7400, .inl bz))]) → (va_S A s.heap H locs) → lv_has ls 7 [(0, .ref o), (1, .int (nI (how))), (2, .int (nI (i))), (3, .int (nI (i2))), (4, .int (nI (max h h2))), (5, .int (nI (pp * pp2))), (6, .int (nI (t)))] → W p l e (headSpec ws_M_joined ({ frames := 2, cells := 0, slots := 0, locals := 49 } : Room)).room s m ([.ref o, .int (nI (how)), .int (nI (i)), .int (nI (i2))]).toArray below meth c H locs 0 0 (MQ below (va_Qi (fun r u => md_set (pw_mk how f f2 d) n xh yr xb yb r u) (md_B dC dI A o a1 a2 a3 a4 a5 c1 c2 c3 c4 c5) A) ([.ref o, .int (nI (how)), .int (nI (i)), .int (nI (i2))]).toArray s 0 0 A) (F0 m 138 ls [.int (nI (x)), .int (nI (t)), .ref a5]) := by
          intro x H locs ls hx2 hP hD hS hl
          refine va_zast hx hb hK hP hD hS 5 4 rfl rfl (vp_in_nI (n := t) (by omega) (by omega)) d_M_joined_138 (fun H locs hP hD hS => ?_)
          rw [pq_cl (by omega)] at hP hD
          have hP : va_P (dC, dI) vwCl [(o, .inr (ciM, [.int (th), .int (nI (n)), .ref a1, .ref a2, .ref a3, .ref a4, .ref a5, .int (mo), .int (le)])), (a1, .inl (c1, 40, .inl xh)), (a2, .inl (c2, 40, .inl yr)), (a3, .inl (c3, 40, .inr (.inl xb))), (a4, .inl (c4, 40, .inr (.inl yb))), (a5, .inl (c5, 7400, .inl (upd bz t (vp_nar .boolean (nI (x))))))] H := hP
          have hD : va_D A [(o, .inr (ciM, [.int (th), .int (nI (n)), .ref a1, .ref a2, .ref a3, .ref a4, .ref a5, .int (mo), .int (le)])), (a1, .inl (c1, 40, .inl xh)), (a2, .inl (c2, 40, .inl yr)), (a3, .inl (c3, 40, .inr (.inl xb))), (a4, .inl (c4, 40, .inr (.inl yb))), (a5, .inl (c5, 7400, .inl (upd bz t (vp_nar .boolean (nI (x))))))] := hD
          refine lv_iinc (v := nI (t + 1)) (lv' := [(6, .int (nI (t + 1))), (0, .ref o), (1, .int (nI (how))), (2, .int (nI (i))), (3, .int (nI (i2))), (4, .int (nI (max h h2))), (5, .int (nI (pp * pp2)))]) hx hb d_M_joined_139 hl (k := 6) rfl (pq_inc _) (by decide) rfl (fun ls hl => ?_)
          refine lv_goto (tgt := 35) hx hb d_M_joined_142 (by decide) ?_
          exact ih_35 (t + 1) (upd bz t (vp_nar .boolean (nI (x)))) _ _ ls (by omega) (by omega) (md_put hbz hx2) hP hD hS (lv_sub hl [1, 2, 3, 4, 5, 6, 0] rfl)
        refine lv_aload_n hx hb d_M_joined_45 rfl (lv_at hl 0 rfl) ?_
        refine va_get (D := (dC, dI)) (ci := ciM) (v := .ref a5) (C := R_M) (T := F_M) (N := 9) hx hb hts (fun w h => List.mem_cons_of_mem _ (in_M w h)) hown hK hP 0 rfl rfl 6 (by decide) (hts (.fieldLink R_M 23 "PeriodWordsModel" "bits" "[Z") (List.mem_cons_of_mem _ mb_386)) (fun _ h9 => h9) rfl d_M_joined_46 ?_
        refine lv_iload hx hb d_M_joined_49 (lv_at hl 6 rfl) ?_
        refine lv_iload_n hx hb d_M_joined_51 rfl (lv_at hl 1 rfl) ?_
        refine pq_if_ne (tgt := 83) (a := how) hx hb d_M_joined_52 (by decide) (by omega) (fun c_52 => ?_) (fun c_52 => ?_)
        · refine lv_iload_n hx hb d_M_joined_83 rfl (lv_at hl 1 rfl) ?_
          refine lv_iconst (v := nI 1) hx hb d_M_joined_84 (by decide) ?_
          refine pq_icmp_ne (tgt := 116) (a := how) (b := 1) hx hb d_M_joined_85 (by decide) (by omega) (by omega) (fun c_85 => ?_) (fun c_85 => ?_)
          · refine lv_aload_n hx hb d_M_joined_116 rfl (lv_at hl 0 rfl) ?_
            refine lv_iload_n hx hb d_M_joined_117 rfl (lv_at hl 2 rfl) ?_
            refine lv_iload hx hb d_M_joined_118 (lv_at hl 6 rfl) ?_
            refine vp_callSi (W.runV (As := [.int (nI (i)), .int (nI (t))]) (rest := [.int (nI (t)), .ref a5]) ⟨hx, hb, hml, hown, hts⟩ (c_M_has l dC dI hmd (t := t) (by omega)) (cwV 2 hts (gd_V mb_452 mb_454 mb_9 mb_23 mb_455) rfl rfl rfl (by decide +kernel) ⟨Nat.le_of_ble_eq_true rfl, Nat.le_of_ble_eq_true rfl⟩) (pw_R_V (va_recv hK hP (ci := ciM) (q0 := 0) rfl rfl) hP hK) rfl rfl hl.1 rfl (lv_room (Nat.le_of_ble_eq_true rfl)) d_M_joined_120 ⟨Nat.le_of_ble_eq_true rfl, Nat.le_of_ble_eq_true rfl⟩) (fun r_120 hr_120 => ?_)
            subst hr_120
            refine lv_aload_n hx hb d_M_joined_123 rfl (lv_at hl 0 rfl) ?_
            refine lv_iload_n hx hb d_M_joined_124 rfl (lv_at hl 3 rfl) ?_
            refine lv_iload hx hb d_M_joined_125 (lv_at hl 6 rfl) ?_
            refine vp_callSi (W.runV (As := [.int (nI (i2)), .int (nI (t))]) (rest := [.int (nI ((f t).toNat)), .int (nI (t)), .ref a5]) ⟨hx, hb, hml, hown, hts⟩ (c_M_has l dC dI hmd2 (t := t) (by omega)) (cwV 2 hts (gd_V mb_452 mb_454 mb_9 mb_23 mb_455) rfl rfl rfl (by decide +kernel) ⟨Nat.le_of_ble_eq_true rfl, Nat.le_of_ble_eq_true rfl⟩) (pw_R_V (va_recv hK hP (ci := ciM) (q0 := 0) rfl rfl) hP hK) rfl rfl hl.1 rfl (lv_room (Nat.le_of_ble_eq_true rfl)) d_M_joined_127 ⟨Nat.le_of_ble_eq_true rfl, Nat.le_of_ble_eq_true rfl⟩) (fun r_127 hr_127 => ?_)
            subst hr_127
            refine pq_icmp_eq (tgt := 137) (a := ((f t).toNat)) (b := ((f2 t).toNat)) hx hb d_M_joined_130 (by decide) (by have := pw_lt2 (f t); omega) (by have := pw_lt2 (f2 t); omega) (fun c_130 => ?_) (fun c_130 => ?_)
            · refine lv_iconst (v := nI 0) hx hb d_M_joined_137 (by decide) ?_
              exact B_138 (0) _ _ ls (by first | (have hh9 : how = 0 := (by omega); subst hh9; show _ = (f t && f2 t).toNat; rcases pw_bt (f t) with q | q <;> rcases pw_bt (f2 t) with q2 | q2 <;> rw [q.2, q2.2] <;> first | rfl | (exfalso; omega)) | (have hh9 : how = 1 := (by omega); subst hh9; show _ = (f t || f2 t).toNat; rcases pw_bt (f t) with q | q <;> rcases pw_bt (f2 t) with q2 | q2 <;> rw [q.2, q2.2] <;> first | rfl | (exfalso; omega)) | (have hh9 : how = 2 := (by omega); subst hh9; show _ = (f t ^^ f2 t).toNat; rcases pw_bt (f t) with q | q <;> rcases pw_bt (f2 t) with q2 | q2 <;> rw [q.2, q2.2] <;> first | rfl | (exfalso; omega))) hP hD hS (lv_sub hl [0, 1, 2, 3, 4, 5, 6] rfl)
            · refine lv_iconst (v := nI 1) hx hb d_M_joined_133 (by decide) ?_
              refine lv_goto (tgt := 138) hx hb d_M_joined_134 (by decide) ?_
              exact B_138 (1) _ _ ls (by first | (have hh9 : how = 0 := (by omega); subst hh9; show _ = (f t && f2 t).toNat; rcases pw_bt (f t) with q | q <;> rcases pw_bt (f2 t) with q2 | q2 <;> rw [q.2, q2.2] <;> first | rfl | (exfalso; omega)) | (have hh9 : how = 1 := (by omega); subst hh9; show _ = (f t || f2 t).toNat; rcases pw_bt (f t) with q | q <;> rcases pw_bt (f2 t) with q2 | q2 <;> rw [q.2, q2.2] <;> first | rfl | (exfalso; omega)) | (have hh9 : how = 2 := (by omega); subst hh9; show _ = (f t ^^ f2 t).toNat; rcases pw_bt (f t) with q | q <;> rcases pw_bt (f2 t) with q2 | q2 <;> rw [q.2, q2.2] <;> first | rfl | (exfalso; omega))) hP hD hS (lv_sub hl [0, 1, 2, 3, 4, 5, 6] rfl)
          · refine lv_aload_n hx hb d_M_joined_88 rfl (lv_at hl 0 rfl) ?_
            refine lv_iload_n hx hb d_M_joined_89 rfl (lv_at hl 2 rfl) ?_
            refine lv_iload hx hb d_M_joined_90 (lv_at hl 6 rfl) ?_
            refine vp_callSi (W.runV (As := [.int (nI (i)), .int (nI (t))]) (rest := [.int (nI (t)), .ref a5]) ⟨hx, hb, hml, hown, hts⟩ (c_M_has l dC dI hmd (t := t) (by omega)) (cwV 2 hts (gd_V mb_452 mb_454 mb_9 mb_23 mb_455) rfl rfl rfl (by decide +kernel) ⟨Nat.le_of_ble_eq_true rfl, Nat.le_of_ble_eq_true rfl⟩) (pw_R_V (va_recv hK hP (ci := ciM) (q0 := 0) rfl rfl) hP hK) rfl rfl hl.1 rfl (lv_room (Nat.le_of_ble_eq_true rfl)) d_M_joined_92 ⟨Nat.le_of_ble_eq_true rfl, Nat.le_of_ble_eq_true rfl⟩) (fun r_92 hr_92 => ?_)
            subst hr_92
            refine pq_if_ne (tgt := 108) (a := ((f t).toNat)) hx hb d_M_joined_95 (by decide) (by have := pw_lt2 (f t); omega) (fun c_95 => ?_) (fun c_95 => ?_)
            · refine lv_iconst (v := nI 1) hx hb d_M_joined_108 (by decide) ?_
              refine lv_goto (tgt := 138) hx hb d_M_joined_109 (by decide) ?_
              exact B_138 (1) _ _ ls (by first | (have hh9 : how = 0 := (by omega); subst hh9; show _ = (f t && f2 t).toNat; rcases pw_bt (f t) with q | q <;> rcases pw_bt (f2 t) with q2 | q2 <;> rw [q.2, q2.2] <;> first | rfl | (exfalso; omega)) | (have hh9 : how = 1 := (by omega); subst hh9; show _ = (f t || f2 t).toNat; rcases pw_bt (f t) with q | q <;> rcases pw_bt (f2 t) with q2 | q2 <;> rw [q.2, q2.2] <;> first | rfl | (exfalso; omega)) | (have hh9 : how = 2 := (by omega); subst hh9; show _ = (f t ^^ f2 t).toNat; rcases pw_bt (f t) with q | q <;> rcases pw_bt (f2 t) with q2 | q2 <;> rw [q.2, q2.2] <;> first | rfl | (exfalso; omega))) hP hD hS (lv_sub hl [0, 1, 2, 3, 4, 5, 6] rfl)
            · refine lv_aload_n hx hb d_M_joined_98 rfl (lv_at hl 0 rfl) ?_
              refine lv_iload_n hx hb d_M_joined_99 rfl (lv_at hl 3 rfl) ?_
              refine lv_iload hx hb d_M_joined_100 (lv_at hl 6 rfl) ?_
              refine vp_callSi (W.runV (As := [.int (nI (i2)), .int (nI (t))]) (rest := [.int (nI (t)), .ref a5]) ⟨hx, hb, hml, hown, hts⟩ (c_M_has l dC dI hmd2 (t := t) (by omega)) (cwV 2 hts (gd_V mb_452 mb_454 mb_9 mb_23 mb_455) rfl rfl rfl (by decide +kernel) ⟨Nat.le_of_ble_eq_true rfl, Nat.le_of_ble_eq_true rfl⟩) (pw_R_V (va_recv hK hP (ci := ciM) (q0 := 0) rfl rfl) hP hK) rfl rfl hl.1 rfl (lv_room (Nat.le_of_ble_eq_true rfl)) d_M_joined_102 ⟨Nat.le_of_ble_eq_true rfl, Nat.le_of_ble_eq_true rfl⟩) (fun r_102 hr_102 => ?_)
              subst hr_102
              refine pq_if_eq (tgt := 112) (a := ((f2 t).toNat)) hx hb d_M_joined_105 (by decide) (by have := pw_lt2 (f2 t); omega) (fun c_105 => ?_) (fun c_105 => ?_)
              · refine lv_iconst (v := nI 0) hx hb d_M_joined_112 (by decide) ?_
                refine lv_goto (tgt := 138) hx hb d_M_joined_113 (by decide) ?_
                exact B_138 (0) _ _ ls (by first | (have hh9 : how = 0 := (by omega); subst hh9; show _ = (f t && f2 t).toNat; rcases pw_bt (f t) with q | q <;> rcases pw_bt (f2 t) with q2 | q2 <;> rw [q.2, q2.2] <;> first | rfl | (exfalso; omega)) | (have hh9 : how = 1 := (by omega); subst hh9; show _ = (f t || f2 t).toNat; rcases pw_bt (f t) with q | q <;> rcases pw_bt (f2 t) with q2 | q2 <;> rw [q.2, q2.2] <;> first | rfl | (exfalso; omega)) | (have hh9 : how = 2 := (by omega); subst hh9; show _ = (f t ^^ f2 t).toNat; rcases pw_bt (f t) with q | q <;> rcases pw_bt (f2 t) with q2 | q2 <;> rw [q.2, q2.2] <;> first | rfl | (exfalso; omega))) hP hD hS (lv_sub hl [0, 1, 2, 3, 4, 5, 6] rfl)
              · refine lv_iconst (v := nI 1) hx hb d_M_joined_108 (by decide) ?_
                refine lv_goto (tgt := 138) hx hb d_M_joined_109 (by decide) ?_
                exact B_138 (1) _ _ ls (by first | (have hh9 : how = 0 := (by omega); subst hh9; show _ = (f t && f2 t).toNat; rcases pw_bt (f t) with q | q <;> rcases pw_bt (f2 t) with q2 | q2 <;> rw [q.2, q2.2] <;> first | rfl | (exfalso; omega)) | (have hh9 : how = 1 := (by omega); subst hh9; show _ = (f t || f2 t).toNat; rcases pw_bt (f t) with q | q <;> rcases pw_bt (f2 t) with q2 | q2 <;> rw [q.2, q2.2] <;> first | rfl | (exfalso; omega)) | (have hh9 : how = 2 := (by omega); subst hh9; show _ = (f t ^^ f2 t).toNat; rcases pw_bt (f t) with q | q <;> rcases pw_bt (f2 t) with q2 | q2 <;> rw [q.2, q2.2] <;> first | rfl | (exfalso; omega))) hP hD hS (lv_sub hl [0, 1, 2, 3, 4, 5, 6] rfl)
        · refine lv_aload_n hx hb d_M_joined_55 rfl (lv_at hl 0 rfl) ?_
          refine lv_iload_n hx hb d_M_joined_56 rfl (lv_at hl 2 rfl) ?_
          refine lv_iload hx hb d_M_joined_57 (lv_at hl 6 rfl) ?_
          refine vp_callSi (W.runV (As := [.int (nI (i)), .int (nI (t))]) (rest := [.int (nI (t)), .ref a5]) ⟨hx, hb, hml, hown, hts⟩ (c_M_has l dC dI hmd (t := t) (by omega)) (cwV 2 hts (gd_V mb_452 mb_454 mb_9 mb_23 mb_455) rfl rfl rfl (by decide +kernel) ⟨Nat.le_of_ble_eq_true rfl, Nat.le_of_ble_eq_true rfl⟩) (pw_R_V (va_recv hK hP (ci := ciM) (q0 := 0) rfl rfl) hP hK) rfl rfl hl.1 rfl (lv_room (Nat.le_of_ble_eq_true rfl)) d_M_joined_59 ⟨Nat.le_of_ble_eq_true rfl, Nat.le_of_ble_eq_true rfl⟩) (fun r_59 hr_59 => ?_)
          subst hr_59
          refine pq_if_eq (tgt := 79) (a := ((f t).toNat)) hx hb d_M_joined_62 (by decide) (by have := pw_lt2 (f t); omega) (fun c_62 => ?_) (fun c_62 => ?_)
          · refine lv_iconst (v := nI 0) hx hb d_M_joined_79 (by decide) ?_
            refine lv_goto (tgt := 138) hx hb d_M_joined_80 (by decide) ?_
            exact B_138 (0) _ _ ls (by first | (have hh9 : how = 0 := (by omega); subst hh9; show _ = (f t && f2 t).toNat; rcases pw_bt (f t) with q | q <;> rcases pw_bt (f2 t) with q2 | q2 <;> rw [q.2, q2.2] <;> first | rfl | (exfalso; omega)) | (have hh9 : how = 1 := (by omega); subst hh9; show _ = (f t || f2 t).toNat; rcases pw_bt (f t) with q | q <;> rcases pw_bt (f2 t) with q2 | q2 <;> rw [q.2, q2.2] <;> first | rfl | (exfalso; omega)) | (have hh9 : how = 2 := (by omega); subst hh9; show _ = (f t ^^ f2 t).toNat; rcases pw_bt (f t) with q | q <;> rcases pw_bt (f2 t) with q2 | q2 <;> rw [q.2, q2.2] <;> first | rfl | (exfalso; omega))) hP hD hS (lv_sub hl [0, 1, 2, 3, 4, 5, 6] rfl)
          · refine lv_aload_n hx hb d_M_joined_65 rfl (lv_at hl 0 rfl) ?_
            refine lv_iload_n hx hb d_M_joined_66 rfl (lv_at hl 3 rfl) ?_
            refine lv_iload hx hb d_M_joined_67 (lv_at hl 6 rfl) ?_
            refine vp_callSi (W.runV (As := [.int (nI (i2)), .int (nI (t))]) (rest := [.int (nI (t)), .ref a5]) ⟨hx, hb, hml, hown, hts⟩ (c_M_has l dC dI hmd2 (t := t) (by omega)) (cwV 2 hts (gd_V mb_452 mb_454 mb_9 mb_23 mb_455) rfl rfl rfl (by decide +kernel) ⟨Nat.le_of_ble_eq_true rfl, Nat.le_of_ble_eq_true rfl⟩) (pw_R_V (va_recv hK hP (ci := ciM) (q0 := 0) rfl rfl) hP hK) rfl rfl hl.1 rfl (lv_room (Nat.le_of_ble_eq_true rfl)) d_M_joined_69 ⟨Nat.le_of_ble_eq_true rfl, Nat.le_of_ble_eq_true rfl⟩) (fun r_69 hr_69 => ?_)
            subst hr_69
            refine pq_if_eq (tgt := 79) (a := ((f2 t).toNat)) hx hb d_M_joined_72 (by decide) (by have := pw_lt2 (f2 t); omega) (fun c_72 => ?_) (fun c_72 => ?_)
            · refine lv_iconst (v := nI 0) hx hb d_M_joined_79 (by decide) ?_
              refine lv_goto (tgt := 138) hx hb d_M_joined_80 (by decide) ?_
              exact B_138 (0) _ _ ls (by first | (have hh9 : how = 0 := (by omega); subst hh9; show _ = (f t && f2 t).toNat; rcases pw_bt (f t) with q | q <;> rcases pw_bt (f2 t) with q2 | q2 <;> rw [q.2, q2.2] <;> first | rfl | (exfalso; omega)) | (have hh9 : how = 1 := (by omega); subst hh9; show _ = (f t || f2 t).toNat; rcases pw_bt (f t) with q | q <;> rcases pw_bt (f2 t) with q2 | q2 <;> rw [q.2, q2.2] <;> first | rfl | (exfalso; omega)) | (have hh9 : how = 2 := (by omega); subst hh9; show _ = (f t ^^ f2 t).toNat; rcases pw_bt (f t) with q | q <;> rcases pw_bt (f2 t) with q2 | q2 <;> rw [q.2, q2.2] <;> first | rfl | (exfalso; omega))) hP hD hS (lv_sub hl [0, 1, 2, 3, 4, 5, 6] rfl)
            · refine lv_iconst (v := nI 1) hx hb d_M_joined_75 (by decide) ?_
              refine lv_goto (tgt := 138) hx hb d_M_joined_76 (by decide) ?_
              exact B_138 (1) _ _ ls (by first | (have hh9 : how = 0 := (by omega); subst hh9; show _ = (f t && f2 t).toNat; rcases pw_bt (f t) with q | q <;> rcases pw_bt (f2 t) with q2 | q2 <;> rw [q.2, q2.2] <;> first | rfl | (exfalso; omega)) | (have hh9 : how = 1 := (by omega); subst hh9; show _ = (f t || f2 t).toNat; rcases pw_bt (f t) with q | q <;> rcases pw_bt (f2 t) with q2 | q2 <;> rw [q.2, q2.2] <;> first | rfl | (exfalso; omega)) | (have hh9 : how = 2 := (by omega); subst hh9; show _ = (f t ^^ f2 t).toNat; rcases pw_bt (f t) with q | q <;> rcases pw_bt (f2 t) with q2 | q2 <;> rw [q.2, q2.2] <;> first | rfl | (exfalso; omega))) hP hD hS (lv_sub hl [0, 1, 2, 3, 4, 5, 6] rfl)
  exact B_35 _ (0) (bs) _ _ ls (Nat.lt_succ_self _) (by omega) (fun j hj => absurd hj (Nat.not_lt_zero j)) hP hD hS (lv_sub hl [3, 4, 5, 6, 2, 1, 0] rfl)
set_option maxHeartbeats 4000000 in
set_option maxRecDepth 100000 in
theorem c_M_opposite (l : Launch) (dC : Nat → ClassId) (dI : Nat → Nat → Nat) {sz : Nat} {o a1 a2 a3 a4 a5 : Nat} {c1 c2 c3 c4 c5 : ClassId} {th mo le : Int32} {n : Nat} {xh yr : Nat → Int32} {xb yb : Nat → Int64} {bs : Nat → Int32} {i h pp : Nat} {f : Nat → Bool} (hmd : md_at xh yr xb yb i h pp f) {f2 : Nat → Bool} {d : Nat} (hn : n < 40) : Met l y_M_opposite ws_M_opposite ({ frames := 2, cells := 0, slots := 0, locals := 49 } : Room) (md_Pre [.ref o, .int (nI (i))] dC dI sz (mdT c1 c2 c3 c4 c5) (md o a1 a2 a3 a4 a5 c1 c2 c3 c4 c5 th n mo le xh yr xb yb bs)) (va_Qi (fun r u => md_set (pw_mk 3 f f2 d) n xh yr xb yb r u) (md_B dC dI (va_A (md o a1 a2 a3 a4 a5 c1 c2 c3 c4 c5 th n mo le xh yr xb yb bs) sz) o a1 a2 a3 a4 a5 c1 c2 c3 c4 c5) (va_A (md o a1 a2 a3 a4 a5 c1 c2 c3 c4 c5 th n mo le xh yr xb yb bs) sz)) 0 0 (va_A (md o a1 a2 a3 a4 a5 c1 c2 c3 c4 c5 th n mo le xh yr xb yb bs) sz) := by
  refine Met.ofW (cc := b_M_opposite) (maxL := 3) (ret := (some .int)) (by decide) rfl ?_
  intro p e s m args below meth c s₁ B hml hv
  obtain ⟨rfl, hsz, hP, hK, hD0⟩ := hv
  have hx := B.exec
  have hb := B.bytes
  have hr := B.returns
  have hts := atoms_spec (ws := ws_M_opposite) B.pre
  have hown : s.vm.findClass R_M = some m.cls := findClass_of_methodNamed B.named
  have hlocks := B.notSynchronized
  subst hsz
  have hD := hD0.self (sz := s.heap.size)
  generalize hAe : va_A (md o a1 a2 a3 a4 a5 c1 c2 c3 c4 c5 th n mo le xh yr xb yb bs) s.heap.size = A at hD ⊢
  have hA : ∀ q : Nat, s.heap.size ≤ q → A q := fun q h => by rw [← hAe]; exact Or.inr h
  have hS : va_S A s.heap s.heap [] := va_S.rf
  have hmd_ := hmd; obtain ⟨hi, e1, e2, e3, e4, hok⟩ := hmd_; have hok_ := hok; obtain ⟨hh, hp0, hp6, hE⟩ := hok_
  have ho := pw_o_le f h pp
  have hc := pw_c_le f h
  have hb0 := pq_lt60 (pw_b_lt f 0 h) hh
  have hb1 := pq_lt60 (pw_b_lt f h pp) hp6
  have hl := lv_entry ([.ref o, .int (nI (i))]) (n := 3) (Nat.le_of_ble_eq_true rfl)
  rw [lg_entry_eq]
  generalize (lg_sl ([.ref o, .int (nI (i))]) ++ List.replicate (3 - (lg_sl ([.ref o, .int (nI (i))])).length) Slot.unset).toArray = ls at hl ⊢
  have hl : lv_has ls 3 [(0, .ref o), (1, .int (nI (i)))] := hl
  refine lv_iconst (v := nI 0) hx hb d_M_opposite_0 (by decide) ?_
  refine lv_istore_n (lv' := [(2, .int (nI (0))), (0, .ref o), (1, .int (nI (i)))]) hx hb d_M_opposite_1 rfl hl (by decide) rfl (fun ls hl => ?_)
  have B_2 : ∀ (k_ : Nat) (t : Nat) (bz : Nat → Int32) (H : Heap) (locs : List Loc) (ls : Array Slot), (h + pp - t) < k_ → (t ≤ h + pp) → (∀ j, j < t → bz j = nI (pw_mk 3 f f2 d j).toNat) → (va_P (dC, dI) vwCl [(o, .inr (ciM, [.int (th), .int (nI (n)), .ref a1, .ref a2, .ref a3, .ref a4, .ref a5, .int (mo), .int (le)])), (a1, .inl (c1, 40, .inl xh)), (a2, .inl (c2, 40, .inl yr)), (a3, .inl (c3, 40, .inr (.inl xb))), (a4, .inl (c4, 40, .inr (.inl yb))), (a5, .inl (c5, 7400, .inl bz))] H) → (va_D A [(o, .inr (ciM, [.int (th), .int (nI (n)), .ref a1, .ref a2, .ref a3, .ref a4, .ref a5, .int (mo), .int (le)])), (a1, .inl (c1, 40, .inl xh)), (a2, .inl (c2, 40, .inl yr)), (a3, .inl (c3, 40, .inr (.inl xb))), (a4, .inl (c4, 40, .inr (.inl yb))), (a5, .inl (c5, 7400, .inl bz))]) → (va_S A s.heap H locs) → lv_has ls 3 [(0, .ref o), (1, .int (nI (i))), (2, .int (nI (t)))] → W p l e (headSpec ws_M_opposite ({ frames := 2, cells := 0, slots := 0, locals := 49 } : Room)).room s m ([.ref o, .int (nI (i))]).toArray below meth c H locs 0 0 (MQ below (va_Qi (fun r u => md_set (pw_mk 3 f f2 d) n xh yr xb yb r u) (md_B dC dI A o a1 a2 a3 a4 a5 c1 c2 c3 c4 c5) A) ([.ref o, .int (nI (i))]).toArray s 0 0 A) (F0 m 2 ls []) := by
    intro k_
    induction k_ with
    | zero => intro t bz H locs ls h_; omega
    | succ k_ ih_2 =>
      intro t bz H locs ls hm_ ht hbz hP hD hS hl
      refine lv_iload_n hx hb d_M_opposite_2 rfl (lv_at hl 2 rfl) ?_
      refine lv_aload_n hx hb d_M_opposite_3 rfl (lv_at hl 0 rfl) ?_
      refine va_get (D := (dC, dI)) (ci := ciM) (v := .ref a1) (C := R_M) (T := F_M) (N := 9) hx hb hts (fun w h => List.mem_cons_of_mem _ (in_M w h)) hown hK hP 0 rfl rfl 2 (by decide) (hts (.fieldLink R_M 7 "PeriodWordsModel" "head" "[I") (List.mem_cons_of_mem _ mb_382)) (fun _ h9 => h9) rfl d_M_opposite_4 ?_
      refine lv_iload_n hx hb d_M_opposite_7 rfl (lv_at hl 1 rfl) ?_
      refine va_iald hx hb hK hP 1 0 rfl rfl (vp_in_nI (n := i) (by omega) (by omega)) d_M_opposite_8 ?_
      refine pq_top (y := .int (xh i)) (by rw [pq_cl (by omega)]) ?_
      refine pq_top (y := .int (nI (h))) (by rw [e1]) ?_
      refine lv_aload_n hx hb d_M_opposite_9 rfl (lv_at hl 0 rfl) ?_
      refine va_get (D := (dC, dI)) (ci := ciM) (v := .ref a2) (C := R_M) (T := F_M) (N := 9) hx hb hts (fun w h => List.mem_cons_of_mem _ (in_M w h)) hown hK hP 0 rfl rfl 3 (by decide) (hts (.fieldLink R_M 13 "PeriodWordsModel" "ring" "[I") (List.mem_cons_of_mem _ mb_383)) (fun _ h9 => h9) rfl d_M_opposite_10 ?_
      refine lv_iload_n hx hb d_M_opposite_13 rfl (lv_at hl 1 rfl) ?_
      refine va_iald hx hb hK hP 2 1 rfl rfl (vp_in_nI (n := i) (by omega) (by omega)) d_M_opposite_14 ?_
      refine pq_top (y := .int (yr i)) (by rw [pq_cl (by omega)]) ?_
      refine pq_top (y := .int (nI (pp))) (by rw [e2]) ?_
      refine pq_iadd (a := h) (b := pp) hx hb d_M_opposite_15 ?_
      refine pq_icmp_ge (tgt := 45) (a := t) (b := (h + pp)) hx hb d_M_opposite_16 (by decide) (by omega) (by omega) (fun c_16 => ?_) (fun c_16 => ?_)
      · refine lv_aload_n hx hb d_M_opposite_45 rfl (lv_at hl 0 rfl) ?_
        refine lv_aload_n hx hb d_M_opposite_46 rfl (lv_at hl 0 rfl) ?_
        refine va_get (D := (dC, dI)) (ci := ciM) (v := .ref a1) (C := R_M) (T := F_M) (N := 9) hx hb hts (fun w h => List.mem_cons_of_mem _ (in_M w h)) hown hK hP 0 rfl rfl 2 (by decide) (hts (.fieldLink R_M 7 "PeriodWordsModel" "head" "[I") (List.mem_cons_of_mem _ mb_382)) (fun _ h9 => h9) rfl d_M_opposite_47 ?_
        refine lv_iload_n hx hb d_M_opposite_50 rfl (lv_at hl 1 rfl) ?_
        refine va_iald hx hb hK hP 1 0 rfl rfl (vp_in_nI (n := i) (by omega) (by omega)) d_M_opposite_51 ?_
        refine pq_top (y := .int (xh i)) (by rw [pq_cl (by omega)]) ?_
        refine pq_top (y := .int (nI (h))) (by rw [e1]) ?_
        refine lv_aload_n hx hb d_M_opposite_52 rfl (lv_at hl 0 rfl) ?_
        refine va_get (D := (dC, dI)) (ci := ciM) (v := .ref a2) (C := R_M) (T := F_M) (N := 9) hx hb hts (fun w h => List.mem_cons_of_mem _ (in_M w h)) hown hK hP 0 rfl rfl 3 (by decide) (hts (.fieldLink R_M 13 "PeriodWordsModel" "ring" "[I") (List.mem_cons_of_mem _ mb_383)) (fun _ h9 => h9) rfl d_M_opposite_53 ?_
        refine lv_iload_n hx hb d_M_opposite_56 rfl (lv_at hl 1 rfl) ?_
        refine va_iald hx hb hK hP 2 1 rfl rfl (vp_in_nI (n := i) (by omega) (by omega)) d_M_opposite_57 ?_
        refine pq_top (y := .int (yr i)) (by rw [pq_cl (by omega)]) ?_
        refine pq_top (y := .int (nI (pp))) (by rw [e2]) ?_
        have hFc := va_free (wc := [(o, .inr (ciM, [.int (th), .int (nI (n)), .ref a1, .ref a2, .ref a3, .ref a4, .ref a5, .int (mo), .int (le)])), (a1, .inl (c1, 40, .inl xh)), (a2, .inl (c2, 40, .inl yr)), (a3, .inl (c3, 40, .inr (.inl xb))), (a4, .inl (c4, 40, .inr (.inl yb))), (a5, .inl (c5, 7400, .inl bz))]) hD hS hA [0, 1, 2, 3, 4, 5] rfl
        refine va_calli (va_runV (As := [.int (nI (h)), .int (nI (pp))]) (rest := []) ⟨hx, hb, hml, hown, hts⟩ (c_M_settle l dC dI (F := pw_mk 3 f f2 d) (fun j hj => hbz j (by omega)) (by omega) hp0 (pw_E_not hE) hn) (cwV 2 hts (gd_V mb_421 mb_423 mb_3 mb_23 mb_424) rfl rfl rfl (by decide +kernel) ⟨Nat.le_of_ble_eq_true rfl, Nat.le_of_ble_eq_true rfl⟩) ⟨md_blind, va_recv hK hP (ci := ciM) (q0 := 0) rfl rfl, fun U hU hW => ⟨rfl, by rw [hU], by rw [hU]; exact hP, va_K.moved hW.alike hK, hD.weaken (fun _ _ _ _ => trivial)⟩⟩ rfl rfl hl.1 rfl (lv_room (Nat.le_of_ble_eq_true rfl)) d_M_opposite_58 ⟨Nat.le_of_ble_eq_true rfl, Nat.le_of_ble_eq_true rfl⟩) hS (fun q _ h => hFc q h) hFc (fun r_58 u_58 t_ H1 locs ht_ hvm_ hr_58 hB_ hz1_ hk1_ hS => ?_)
        obtain ⟨hP1_, hK1_, hD1_⟩ := hB_
        rw [ht_] at hP1_
        clear hP hD
        have hP := hP1_
        have hD := hD1_.weaken (fun k q _ h => hFc q.1 h)
        generalize H1 = H at hP hS ⊢
        have hP : va_P (dC, dI) vwCl [(o, .inr (ciM, [.int (u_58.1), .int (nI (u_58.2.1)), .ref a1, .ref a2, .ref a3, .ref a4, .ref a5, .int (u_58.2.2.1), .int (u_58.2.2.2.1)])), (a1, .inl (c1, 40, .inl u_58.2.2.2.2.1)), (a2, .inl (c2, 40, .inl u_58.2.2.2.2.2.1)), (a3, .inl (c3, 40, .inr (.inl u_58.2.2.2.2.2.2.1))), (a4, .inl (c4, 40, .inr (.inl u_58.2.2.2.2.2.2.2.1))), (a5, .inl (c5, 7400, .inl u_58.2.2.2.2.2.2.2.2))] H := hP
        have hD : va_D A [(o, .inr (ciM, [.int (u_58.1), .int (nI (u_58.2.1)), .ref a1, .ref a2, .ref a3, .ref a4, .ref a5, .int (u_58.2.2.1), .int (u_58.2.2.2.1)])), (a1, .inl (c1, 40, .inl u_58.2.2.2.2.1)), (a2, .inl (c2, 40, .inl u_58.2.2.2.2.2.1)), (a3, .inl (c3, 40, .inr (.inl u_58.2.2.2.2.2.2.1))), (a4, .inl (c4, 40, .inr (.inl u_58.2.2.2.2.2.2.2.1))), (a5, .inl (c5, 7400, .inl u_58.2.2.2.2.2.2.2.2))] := hD
        exact W.iret (v := (r_58)) hx hb hr (fun t_ ht_ hW_ => ⟨⟨_, (u_58.1, u_58.2.1, u_58.2.2.1, u_58.2.2.2.1, u_58.2.2.2.2.1, u_58.2.2.2.2.2.1, u_58.2.2.2.2.2.2.1, u_58.2.2.2.2.2.2.2.1, u_58.2.2.2.2.2.2.2.2), rfl, hr_58, by rw [ht_]; exact hP, va_K.moved hW_.alike hK, hD⟩, hS.F ht_⟩) hS.2.2 d_M_opposite_61
      · have B_38 : ∀ (x : Nat) (H : Heap) (locs : List Loc) (ls : Array Slot), (x = (pw_mk 3 f f2 d t).toNat) → (va_P (dC, dI) vwCl [(o, .inr (ciM, [.int (th), .int (nI (n)), .ref a1, .ref a2, .ref a3, .ref a4, .ref a5, .int (mo), .int (le)])), (a1, .inl (c1, 40, .inl xh)), (a2, .inl (c2, 40, .inl yr)), (a3, .inl (c3, 40, .inr (.inl xb))), (a4, .inl (c4, 40, .inr (.inl yb))), (a5, .inl (c5, 7400, .inl bz))] H) → (va_D A [(o, .inr (ciM, [.int (th), .int (nI (n)), .ref a1, .ref a2, .ref a3, .ref a4, .ref a5, .int (mo), .int (le)])), (a1, .inl (c1, 40, .inl xh)), (a2, .inl (c2, 40, .inl yr)), (a3, .inl (c3, 40, .inr (.inl xb))), (a4, .inl (c4, 40, .inr (.inl yb))), (a5, .inl (c5, 7400, .inl bz))]) → (va_S A s.heap H locs) → lv_has ls 3 [(0, .ref o), (1, .int (nI (i))), (2, .int (nI (t)))] → W p l e (headSpec ws_M_opposite ({ frames := 2, cells := 0, slots := 0, locals := 49 } : Room)).room s m ([.ref o, .int (nI (i))]).toArray below meth c H locs 0 0 (MQ below (va_Qi (fun r u => md_set (pw_mk 3 f f2 d) n xh yr xb yb r u) (md_B dC dI A o a1 a2 a3 a4 a5 c1 c2 c3 c4 c5) A) ([.ref o, .int (nI (i))]).toArray s 0 0 A) (F0 m 38 ls [.int (nI (x)), .int (nI (t)), .ref a5]) := by
          intro x H locs ls hx2 hP hD hS hl
          refine va_zast hx hb hK hP hD hS 5 4 rfl rfl (vp_in_nI (n := t) (by omega) (by omega)) d_M_opposite_38 (fun H locs hP hD hS => ?_)
          rw [pq_cl (by omega)] at hP hD
          have hP : va_P (dC, dI) vwCl [(o, .inr (ciM, [.int (th), .int (nI (n)), .ref a1, .ref a2, .ref a3, .ref a4, .ref a5, .int (mo), .int (le)])), (a1, .inl (c1, 40, .inl xh)), (a2, .inl (c2, 40, .inl yr)), (a3, .inl (c3, 40, .inr (.inl xb))), (a4, .inl (c4, 40, .inr (.inl yb))), (a5, .inl (c5, 7400, .inl (upd bz t (vp_nar .boolean (nI (x))))))] H := hP
          have hD : va_D A [(o, .inr (ciM, [.int (th), .int (nI (n)), .ref a1, .ref a2, .ref a3, .ref a4, .ref a5, .int (mo), .int (le)])), (a1, .inl (c1, 40, .inl xh)), (a2, .inl (c2, 40, .inl yr)), (a3, .inl (c3, 40, .inr (.inl xb))), (a4, .inl (c4, 40, .inr (.inl yb))), (a5, .inl (c5, 7400, .inl (upd bz t (vp_nar .boolean (nI (x))))))] := hD
          refine lv_iinc (v := nI (t + 1)) (lv' := [(2, .int (nI (t + 1))), (0, .ref o), (1, .int (nI (i)))]) hx hb d_M_opposite_39 hl (k := 2) rfl (pq_inc _) (by decide) rfl (fun ls hl => ?_)
          refine lv_goto (tgt := 2) hx hb d_M_opposite_42 (by decide) ?_
          exact ih_2 (t + 1) (upd bz t (vp_nar .boolean (nI (x)))) _ _ ls (by omega) (by omega) (md_put hbz hx2) hP hD hS (lv_sub hl [1, 2, 0] rfl)
        refine lv_aload_n hx hb d_M_opposite_19 rfl (lv_at hl 0 rfl) ?_
        refine va_get (D := (dC, dI)) (ci := ciM) (v := .ref a5) (C := R_M) (T := F_M) (N := 9) hx hb hts (fun w h => List.mem_cons_of_mem _ (in_M w h)) hown hK hP 0 rfl rfl 6 (by decide) (hts (.fieldLink R_M 23 "PeriodWordsModel" "bits" "[Z") (List.mem_cons_of_mem _ mb_386)) (fun _ h9 => h9) rfl d_M_opposite_20 ?_
        refine lv_iload_n hx hb d_M_opposite_23 rfl (lv_at hl 2 rfl) ?_
        refine lv_aload_n hx hb d_M_opposite_24 rfl (lv_at hl 0 rfl) ?_
        refine lv_iload_n hx hb d_M_opposite_25 rfl (lv_at hl 1 rfl) ?_
        refine lv_iload_n hx hb d_M_opposite_26 rfl (lv_at hl 2 rfl) ?_
        refine vp_callSi (W.runV (As := [.int (nI (i)), .int (nI (t))]) (rest := [.int (nI (t)), .ref a5]) ⟨hx, hb, hml, hown, hts⟩ (c_M_has l dC dI hmd (t := t) (by omega)) (cwV 2 hts (gd_V mb_452 mb_454 mb_9 mb_23 mb_455) rfl rfl rfl (by decide +kernel) ⟨Nat.le_of_ble_eq_true rfl, Nat.le_of_ble_eq_true rfl⟩) (pw_R_V (va_recv hK hP (ci := ciM) (q0 := 0) rfl rfl) hP hK) rfl rfl hl.1 rfl (lv_room (Nat.le_of_ble_eq_true rfl)) d_M_opposite_27 ⟨Nat.le_of_ble_eq_true rfl, Nat.le_of_ble_eq_true rfl⟩) (fun r_27 hr_27 => ?_)
        subst hr_27
        refine pq_if_ne (tgt := 37) (a := ((f t).toNat)) hx hb d_M_opposite_30 (by decide) (by have := pw_lt2 (f t); omega) (fun c_30 => ?_) (fun c_30 => ?_)
        · refine lv_iconst (v := nI 0) hx hb d_M_opposite_37 (by decide) ?_
          exact B_38 (0) _ _ ls (by show _ = (!f t).toNat; rcases pw_bt (f t) with q | q <;> rw [q.2] <;> first | rfl | (exfalso; omega)) hP hD hS (lv_sub hl [0, 1, 2] rfl)
        · refine lv_iconst (v := nI 1) hx hb d_M_opposite_33 (by decide) ?_
          refine lv_goto (tgt := 38) hx hb d_M_opposite_34 (by decide) ?_
          exact B_38 (1) _ _ ls (by show _ = (!f t).toNat; rcases pw_bt (f t) with q | q <;> rw [q.2] <;> first | rfl | (exfalso; omega)) hP hD hS (lv_sub hl [0, 1, 2] rfl)
  exact B_2 _ (0) (bs) _ _ ls (Nat.lt_succ_self _) (by omega) (fun j hj => absurd hj (Nat.not_lt_zero j)) hP hD hS (lv_sub hl [1, 2, 0] rfl)
set_option maxHeartbeats 4000000 in
set_option maxRecDepth 100000 in
theorem c_M_on (l : Launch) (dC : Nat → ClassId) (dI : Nat → Nat → Nat) {sz : Nat} {o a1 a2 a3 a4 a5 : Nat} {c1 c2 c3 c4 c5 : ClassId} {th mo le : Int32} {n : Nat} {xh yr : Nat → Int32} {xb yb : Nat → Int64} {bs : Nat → Int32} {i h pp : Nat} {f : Nat → Bool} (hmd : md_at xh yr xb yb i h pp f) {i2 h2 pp2 : Nat} {f2 : Nat → Bool} (hmd2 : md_at xh yr xb yb i2 h2 pp2 f2) {d : Nat} (hn : n < 40) : Met l y_M_on ws_M_on ({ frames := 2, cells := 0, slots := 0, locals := 49 } : Room) (md_Pre [.ref o, .int (nI (i)), .int (nI (i2))] dC dI sz (mdT c1 c2 c3 c4 c5) (md o a1 a2 a3 a4 a5 c1 c2 c3 c4 c5 th n mo le xh yr xb yb bs)) (va_Qi (fun r u => md_set (pw_mk 4 f f2 d) n xh yr xb yb r u) (md_B dC dI (va_A (md o a1 a2 a3 a4 a5 c1 c2 c3 c4 c5 th n mo le xh yr xb yb bs) sz) o a1 a2 a3 a4 a5 c1 c2 c3 c4 c5) (va_A (md o a1 a2 a3 a4 a5 c1 c2 c3 c4 c5 th n mo le xh yr xb yb bs) sz)) 0 0 (va_A (md o a1 a2 a3 a4 a5 c1 c2 c3 c4 c5 th n mo le xh yr xb yb bs) sz) := by
  refine Met.ofW (cc := b_M_on) (maxL := 8) (ret := (some .int)) (by decide) rfl ?_
  intro p e s m args below meth c s₁ B hml hv
  obtain ⟨rfl, hsz, hP, hK, hD0⟩ := hv
  have hx := B.exec
  have hb := B.bytes
  have hr := B.returns
  have hts := atoms_spec (ws := ws_M_on) B.pre
  have hown : s.vm.findClass R_M = some m.cls := findClass_of_methodNamed B.named
  have hlocks := B.notSynchronized
  subst hsz
  have hD := hD0.self (sz := s.heap.size)
  generalize hAe : va_A (md o a1 a2 a3 a4 a5 c1 c2 c3 c4 c5 th n mo le xh yr xb yb bs) s.heap.size = A at hD ⊢
  have hA : ∀ q : Nat, s.heap.size ≤ q → A q := fun q h => by rw [← hAe]; exact Or.inr h
  have hS : va_S A s.heap s.heap [] := va_S.rf
  have hmd_ := hmd; obtain ⟨hi, e1, e2, e3, e4, hok⟩ := hmd_; have hok_ := hok; obtain ⟨hh, hp0, hp6, hE⟩ := hok_
  have ho := pw_o_le f h pp
  have hc := pw_c_le f h
  have hb0 := pq_lt60 (pw_b_lt f 0 h) hh
  have hb1 := pq_lt60 (pw_b_lt f h pp) hp6
  have hmd2_ := hmd2; obtain ⟨hi2, e12, e22, e32, e42, hok2⟩ := hmd2_; have hok2_ := hok2; obtain ⟨hh2, hp02, hp62, hE2⟩ := hok2_
  have ho2 := pw_o_le f2 h2 pp2
  have hc2 := pw_c_le f2 h2
  have hb02 := pq_lt60 (pw_b_lt f2 0 h2) hh2
  have hb12 := pq_lt60 (pw_b_lt f2 h2 pp2) hp62
  have mm : pp * pp2 ≤ 60 * 60 := Nat.mul_le_mul hp6 hp62
  have hl := lv_entry ([.ref o, .int (nI (i)), .int (nI (i2))]) (n := 8) (Nat.le_of_ble_eq_true rfl)
  rw [lg_entry_eq]
  generalize (lg_sl ([.ref o, .int (nI (i)), .int (nI (i2))]) ++ List.replicate (8 - (lg_sl ([.ref o, .int (nI (i)), .int (nI (i2))])).length) Slot.unset).toArray = ls at hl ⊢
  have hl : lv_has ls 8 [(0, .ref o), (1, .int (nI (i))), (2, .int (nI (i2)))] := hl
  have B_69 : ∀ (k_ : Nat) (fr : Nat) (bk : Nat) (cnt : Nat) (t : Nat) (bz : Nat → Int32) (H : Heap) (locs : List Loc) (ls : Array Slot), (fr + bk - t) < k_ → (fr + bk ≤ 7400) → (0 < bk) → (pw_E (pw_mk 4 f f2 d) fr bk) → (t ≤ fr + bk) → (cnt = pw_c f t) → (∀ j, j < t → bz j = nI (pw_mk 4 f f2 d j).toNat) → (va_P (dC, dI) vwCl [(o, .inr (ciM, [.int (th), .int (nI (n)), .ref a1, .ref a2, .ref a3, .ref a4, .ref a5, .int (mo), .int (le)])), (a1, .inl (c1, 40, .inl xh)), (a2, .inl (c2, 40, .inl yr)), (a3, .inl (c3, 40, .inr (.inl xb))), (a4, .inl (c4, 40, .inr (.inl yb))), (a5, .inl (c5, 7400, .inl bz))] H) → (va_D A [(o, .inr (ciM, [.int (th), .int (nI (n)), .ref a1, .ref a2, .ref a3, .ref a4, .ref a5, .int (mo), .int (le)])), (a1, .inl (c1, 40, .inl xh)), (a2, .inl (c2, 40, .inl yr)), (a3, .inl (c3, 40, .inr (.inl xb))), (a4, .inl (c4, 40, .inr (.inl yb))), (a5, .inl (c5, 7400, .inl bz))]) → (va_S A s.heap H locs) → lv_has ls 8 [(0, .ref o), (1, .int (nI (i))), (2, .int (nI (i2))), (4, .int (nI (fr))), (5, .int (nI (bk))), (6, .int (nI (cnt))), (7, .int (nI (t)))] → W p l e (headSpec ws_M_on ({ frames := 2, cells := 0, slots := 0, locals := 49 } : Room)).room s m ([.ref o, .int (nI (i)), .int (nI (i2))]).toArray below meth c H locs 0 0 (MQ below (va_Qi (fun r u => md_set (pw_mk 4 f f2 d) n xh yr xb yb r u) (md_B dC dI A o a1 a2 a3 a4 a5 c1 c2 c3 c4 c5) A) ([.ref o, .int (nI (i)), .int (nI (i2))]).toArray s 0 0 A) (F0 m 69 ls []) := by
    intro k_
    induction k_ with
    | zero => intro fr bk cnt t bz H locs ls h_; omega
    | succ k_ ih_69 =>
      intro fr bk cnt t bz H locs ls hm_ hfb hbk hEF ht hcnt hbz hP hD hS hl
      refine lv_iload hx hb d_M_on_69 (lv_at hl 6 rfl) ?_
      refine lv_iload hx hb d_M_on_71 (lv_at hl 3 rfl) ?_
      refine lv_iload hx hb d_M_on_73 (lv_at hl 4 rfl) ?_
      refine pq_iadd (a := fr) (b := bk) hx hb d_M_on_75 ?_
      refine pq_icmp_ge (tgt := 137) (a := t) (b := (fr + bk)) hx hb d_M_on_76 (by decide) (by omega) (by omega) (fun c_76 => ?_) (fun c_76 => ?_)
      · refine lv_aload_n hx hb d_M_on_137 rfl (lv_at hl 0 rfl) ?_
        refine lv_iload hx hb d_M_on_138 (lv_at hl 3 rfl) ?_
        refine lv_iload hx hb d_M_on_140 (lv_at hl 4 rfl) ?_
        have hFc := va_free (wc := [(o, .inr (ciM, [.int (th), .int (nI (n)), .ref a1, .ref a2, .ref a3, .ref a4, .ref a5, .int (mo), .int (le)])), (a1, .inl (c1, 40, .inl xh)), (a2, .inl (c2, 40, .inl yr)), (a3, .inl (c3, 40, .inr (.inl xb))), (a4, .inl (c4, 40, .inr (.inl yb))), (a5, .inl (c5, 7400, .inl bz))]) hD hS hA [0, 1, 2, 3, 4, 5] rfl
        refine va_calli (va_runV (As := [.int (nI (fr)), .int (nI (bk))]) (rest := []) ⟨hx, hb, hml, hown, hts⟩ (c_M_settle l dC dI (F := pw_mk 4 f f2 d) (fun j hj => hbz j (by omega)) hfb hbk hEF hn) (cwV 2 hts (gd_V mb_421 mb_423 mb_3 mb_23 mb_424) rfl rfl rfl (by decide +kernel) ⟨Nat.le_of_ble_eq_true rfl, Nat.le_of_ble_eq_true rfl⟩) ⟨md_blind, va_recv hK hP (ci := ciM) (q0 := 0) rfl rfl, fun U hU hW => ⟨rfl, by rw [hU], by rw [hU]; exact hP, va_K.moved hW.alike hK, hD.weaken (fun _ _ _ _ => trivial)⟩⟩ rfl rfl hl.1 rfl (lv_room (Nat.le_of_ble_eq_true rfl)) d_M_on_142 ⟨Nat.le_of_ble_eq_true rfl, Nat.le_of_ble_eq_true rfl⟩) hS (fun q _ h => hFc q h) hFc (fun r_142 u_142 t_ H1 locs ht_ hvm_ hr_142 hB_ hz1_ hk1_ hS => ?_)
        obtain ⟨hP1_, hK1_, hD1_⟩ := hB_
        rw [ht_] at hP1_
        clear hP hD
        have hP := hP1_
        have hD := hD1_.weaken (fun k q _ h => hFc q.1 h)
        generalize H1 = H at hP hS ⊢
        have hP : va_P (dC, dI) vwCl [(o, .inr (ciM, [.int (u_142.1), .int (nI (u_142.2.1)), .ref a1, .ref a2, .ref a3, .ref a4, .ref a5, .int (u_142.2.2.1), .int (u_142.2.2.2.1)])), (a1, .inl (c1, 40, .inl u_142.2.2.2.2.1)), (a2, .inl (c2, 40, .inl u_142.2.2.2.2.2.1)), (a3, .inl (c3, 40, .inr (.inl u_142.2.2.2.2.2.2.1))), (a4, .inl (c4, 40, .inr (.inl u_142.2.2.2.2.2.2.2.1))), (a5, .inl (c5, 7400, .inl u_142.2.2.2.2.2.2.2.2))] H := hP
        have hD : va_D A [(o, .inr (ciM, [.int (u_142.1), .int (nI (u_142.2.1)), .ref a1, .ref a2, .ref a3, .ref a4, .ref a5, .int (u_142.2.2.1), .int (u_142.2.2.2.1)])), (a1, .inl (c1, 40, .inl u_142.2.2.2.2.1)), (a2, .inl (c2, 40, .inl u_142.2.2.2.2.2.1)), (a3, .inl (c3, 40, .inr (.inl u_142.2.2.2.2.2.2.1))), (a4, .inl (c4, 40, .inr (.inl u_142.2.2.2.2.2.2.2.1))), (a5, .inl (c5, 7400, .inl u_142.2.2.2.2.2.2.2.2))] := hD
        exact W.iret (v := (r_142)) hx hb hr (fun t_ ht_ hW_ => ⟨⟨_, (u_142.1, u_142.2.1, u_142.2.2.1, u_142.2.2.2.1, u_142.2.2.2.2.1, u_142.2.2.2.2.2.1, u_142.2.2.2.2.2.2.1, u_142.2.2.2.2.2.2.2.1, u_142.2.2.2.2.2.2.2.2), rfl, hr_142, by rw [ht_]; exact hP, va_K.moved hW_.alike hK, hD⟩, hS.F ht_⟩) hS.2.2 d_M_on_145
      · have hcle := pw_c_le f t
        have B_110 : ∀ (x : Nat) (H : Heap) (locs : List Loc) (ls : Array Slot), (x = (pw_mk 4 f f2 d t).toNat) → (va_P (dC, dI) vwCl [(o, .inr (ciM, [.int (th), .int (nI (n)), .ref a1, .ref a2, .ref a3, .ref a4, .ref a5, .int (mo), .int (le)])), (a1, .inl (c1, 40, .inl xh)), (a2, .inl (c2, 40, .inl yr)), (a3, .inl (c3, 40, .inr (.inl xb))), (a4, .inl (c4, 40, .inr (.inl yb))), (a5, .inl (c5, 7400, .inl bz))] H) → (va_D A [(o, .inr (ciM, [.int (th), .int (nI (n)), .ref a1, .ref a2, .ref a3, .ref a4, .ref a5, .int (mo), .int (le)])), (a1, .inl (c1, 40, .inl xh)), (a2, .inl (c2, 40, .inl yr)), (a3, .inl (c3, 40, .inr (.inl xb))), (a4, .inl (c4, 40, .inr (.inl yb))), (a5, .inl (c5, 7400, .inl bz))]) → (va_S A s.heap H locs) → lv_has ls 8 [(0, .ref o), (1, .int (nI (i))), (2, .int (nI (i2))), (4, .int (nI (fr))), (5, .int (nI (bk))), (6, .int (nI (cnt))), (7, .int (nI (t)))] → W p l e (headSpec ws_M_on ({ frames := 2, cells := 0, slots := 0, locals := 49 } : Room)).room s m ([.ref o, .int (nI (i)), .int (nI (i2))]).toArray below meth c H locs 0 0 (MQ below (va_Qi (fun r u => md_set (pw_mk 4 f f2 d) n xh yr xb yb r u) (md_B dC dI A o a1 a2 a3 a4 a5 c1 c2 c3 c4 c5) A) ([.ref o, .int (nI (i)), .int (nI (i2))]).toArray s 0 0 A) (F0 m 110 ls [.int (nI (x)), .int (nI (t)), .ref a5]) := by
          intro x H locs ls hx2 hP hD hS hl
          refine va_zast hx hb hK hP hD hS 5 4 rfl rfl (vp_in_nI (n := t) (by omega) (by omega)) d_M_on_110 (fun H locs hP hD hS => ?_)
          rw [pq_cl (by omega)] at hP hD
          have hP : va_P (dC, dI) vwCl [(o, .inr (ciM, [.int (th), .int (nI (n)), .ref a1, .ref a2, .ref a3, .ref a4, .ref a5, .int (mo), .int (le)])), (a1, .inl (c1, 40, .inl xh)), (a2, .inl (c2, 40, .inl yr)), (a3, .inl (c3, 40, .inr (.inl xb))), (a4, .inl (c4, 40, .inr (.inl yb))), (a5, .inl (c5, 7400, .inl (upd bz t (vp_nar .boolean (nI (x))))))] H := hP
          have hD : va_D A [(o, .inr (ciM, [.int (th), .int (nI (n)), .ref a1, .ref a2, .ref a3, .ref a4, .ref a5, .int (mo), .int (le)])), (a1, .inl (c1, 40, .inl xh)), (a2, .inl (c2, 40, .inl yr)), (a3, .inl (c3, 40, .inr (.inl xb))), (a4, .inl (c4, 40, .inr (.inl yb))), (a5, .inl (c5, 7400, .inl (upd bz t (vp_nar .boolean (nI (x))))))] := hD
          refine lv_iload hx hb d_M_on_111 (lv_at hl 5 rfl) ?_
          refine lv_aload_n hx hb d_M_on_113 rfl (lv_at hl 0 rfl) ?_
          refine lv_iload_n hx hb d_M_on_114 rfl (lv_at hl 1 rfl) ?_
          refine lv_iload hx hb d_M_on_115 (lv_at hl 6 rfl) ?_
          refine vp_callSi (W.runV (As := [.int (nI (i)), .int (nI (t))]) (rest := [.int (nI (cnt))]) ⟨hx, hb, hml, hown, hts⟩ (c_M_has l dC dI hmd (t := t) (by omega)) (cwV 2 hts (gd_V mb_452 mb_454 mb_9 mb_23 mb_455) rfl rfl rfl (by decide +kernel) ⟨Nat.le_of_ble_eq_true rfl, Nat.le_of_ble_eq_true rfl⟩) (pw_R_V (va_recv hK hP (ci := ciM) (q0 := 0) rfl rfl) hP hK) rfl rfl hl.1 rfl (lv_room (Nat.le_of_ble_eq_true rfl)) d_M_on_117 ⟨Nat.le_of_ble_eq_true rfl, Nat.le_of_ble_eq_true rfl⟩) (fun r_117 hr_117 => ?_)
          subst hr_117
          refine pq_if_eq (tgt := 127) (a := ((f t).toNat)) hx hb d_M_on_120 (by decide) (by have := pw_lt2 (f t); omega) (fun c_120 => ?_) (fun c_120 => ?_)
          · refine lv_iconst (v := nI 0) hx hb d_M_on_127 (by decide) ?_
            refine pq_iadd (a := cnt) (b := 0) hx hb d_M_on_128 ?_
            refine lv_istore (lv' := [(6, .int (nI (cnt + 0))), (0, .ref o), (1, .int (nI (i))), (2, .int (nI (i2))), (4, .int (nI (fr))), (5, .int (nI (bk))), (7, .int (nI (t)))]) hx hb d_M_on_129 hl (by decide) rfl (fun ls hl => ?_)
            refine lv_iinc (v := nI (t + 1)) (lv' := [(7, .int (nI (t + 1))), (6, .int (nI (cnt + 0))), (0, .ref o), (1, .int (nI (i))), (2, .int (nI (i2))), (4, .int (nI (fr))), (5, .int (nI (bk)))]) hx hb d_M_on_131 hl (k := 6) rfl (pq_inc _) (by decide) rfl (fun ls hl => ?_)
            refine lv_goto (tgt := 69) hx hb d_M_on_134 (by decide) ?_
            exact ih_69 (fr) (bk) (cnt + 0) (t + 1) (upd bz t (vp_nar .boolean (nI (x)))) _ _ ls (by omega) hfb hbk hEF (by omega) (by rw [pw_c_s, ← hcnt]; have := pw_lt2 (f t); omega) (md_put hbz hx2) hP hD hS (lv_sub hl [2, 3, 4, 5, 6, 1, 0] rfl)
          · refine lv_iconst (v := nI 1) hx hb d_M_on_123 (by decide) ?_
            refine lv_goto (tgt := 128) hx hb d_M_on_124 (by decide) ?_
            refine pq_iadd (a := cnt) (b := 1) hx hb d_M_on_128 ?_
            refine lv_istore (lv' := [(6, .int (nI (cnt + 1))), (0, .ref o), (1, .int (nI (i))), (2, .int (nI (i2))), (4, .int (nI (fr))), (5, .int (nI (bk))), (7, .int (nI (t)))]) hx hb d_M_on_129 hl (by decide) rfl (fun ls hl => ?_)
            refine lv_iinc (v := nI (t + 1)) (lv' := [(7, .int (nI (t + 1))), (6, .int (nI (cnt + 1))), (0, .ref o), (1, .int (nI (i))), (2, .int (nI (i2))), (4, .int (nI (fr))), (5, .int (nI (bk)))]) hx hb d_M_on_131 hl (k := 6) rfl (pq_inc _) (by decide) rfl (fun ls hl => ?_)
            refine lv_goto (tgt := 69) hx hb d_M_on_134 (by decide) ?_
            exact ih_69 (fr) (bk) (cnt + 1) (t + 1) (upd bz t (vp_nar .boolean (nI (x)))) _ _ ls (by omega) hfb hbk hEF (by omega) (by rw [pw_c_s, ← hcnt]; have := pw_lt2 (f t); omega) (md_put hbz hx2) hP hD hS (lv_sub hl [2, 3, 4, 5, 6, 1, 0] rfl)
        refine lv_aload_n hx hb d_M_on_79 rfl (lv_at hl 0 rfl) ?_
        refine va_get (D := (dC, dI)) (ci := ciM) (v := .ref a5) (C := R_M) (T := F_M) (N := 9) hx hb hts (fun w h => List.mem_cons_of_mem _ (in_M w h)) hown hK hP 0 rfl rfl 6 (by decide) (hts (.fieldLink R_M 23 "PeriodWordsModel" "bits" "[Z") (List.mem_cons_of_mem _ mb_386)) (fun _ h9 => h9) rfl d_M_on_80 ?_
        refine lv_iload hx hb d_M_on_83 (lv_at hl 6 rfl) ?_
        refine lv_aload_n hx hb d_M_on_85 rfl (lv_at hl 0 rfl) ?_
        refine lv_iload_n hx hb d_M_on_86 rfl (lv_at hl 1 rfl) ?_
        refine lv_iload hx hb d_M_on_87 (lv_at hl 6 rfl) ?_
        refine vp_callSi (W.runV (As := [.int (nI (i)), .int (nI (t))]) (rest := [.int (nI (t)), .ref a5]) ⟨hx, hb, hml, hown, hts⟩ (c_M_has l dC dI hmd (t := t) (by omega)) (cwV 2 hts (gd_V mb_452 mb_454 mb_9 mb_23 mb_455) rfl rfl rfl (by decide +kernel) ⟨Nat.le_of_ble_eq_true rfl, Nat.le_of_ble_eq_true rfl⟩) (pw_R_V (va_recv hK hP (ci := ciM) (q0 := 0) rfl rfl) hP hK) rfl rfl hl.1 rfl (lv_room (Nat.le_of_ble_eq_true rfl)) d_M_on_89 ⟨Nat.le_of_ble_eq_true rfl, Nat.le_of_ble_eq_true rfl⟩) (fun r_89 hr_89 => ?_)
        subst hr_89
        refine pq_if_eq (tgt := 109) (a := ((f t).toNat)) hx hb d_M_on_92 (by decide) (by have := pw_lt2 (f t); omega) (fun c_92 => ?_) (fun c_92 => ?_)
        · refine lv_iconst (v := nI 0) hx hb d_M_on_109 (by decide) ?_
          exact B_110 (0) _ _ ls (by show _ = (f t && f2 (pw_c f t)).toNat; rw [← hcnt]; rcases pw_bt (f t) with q | q <;> rcases pw_bt (f2 cnt) with q2 | q2 <;> rw [q.2, q2.2] <;> first | rfl | (exfalso; omega)) hP hD hS (lv_sub hl [0, 1, 2, 3, 4, 5, 6] rfl)
        · refine lv_aload_n hx hb d_M_on_95 rfl (lv_at hl 0 rfl) ?_
          refine lv_iload_n hx hb d_M_on_96 rfl (lv_at hl 2 rfl) ?_
          refine lv_iload hx hb d_M_on_97 (lv_at hl 5 rfl) ?_
          refine vp_callSi (W.runV (As := [.int (nI (i2)), .int (nI (cnt))]) (rest := [.int (nI (t)), .ref a5]) ⟨hx, hb, hml, hown, hts⟩ (c_M_has l dC dI hmd2 (t := cnt) (by omega)) (cwV 2 hts (gd_V mb_452 mb_454 mb_9 mb_23 mb_455) rfl rfl rfl (by decide +kernel) ⟨Nat.le_of_ble_eq_true rfl, Nat.le_of_ble_eq_true rfl⟩) (pw_R_V (va_recv hK hP (ci := ciM) (q0 := 0) rfl rfl) hP hK) rfl rfl hl.1 rfl (lv_room (Nat.le_of_ble_eq_true rfl)) d_M_on_99 ⟨Nat.le_of_ble_eq_true rfl, Nat.le_of_ble_eq_true rfl⟩) (fun r_99 hr_99 => ?_)
          subst hr_99
          refine pq_if_eq (tgt := 109) (a := ((f2 cnt).toNat)) hx hb d_M_on_102 (by decide) (by have := pw_lt2 (f2 cnt); omega) (fun c_102 => ?_) (fun c_102 => ?_)
          · refine lv_iconst (v := nI 0) hx hb d_M_on_109 (by decide) ?_
            exact B_110 (0) _ _ ls (by show _ = (f t && f2 (pw_c f t)).toNat; rw [← hcnt]; rcases pw_bt (f t) with q | q <;> rcases pw_bt (f2 cnt) with q2 | q2 <;> rw [q.2, q2.2] <;> first | rfl | (exfalso; omega)) hP hD hS (lv_sub hl [0, 1, 2, 3, 4, 5, 6] rfl)
          · refine lv_iconst (v := nI 1) hx hb d_M_on_105 (by decide) ?_
            refine lv_goto (tgt := 110) hx hb d_M_on_106 (by decide) ?_
            exact B_110 (1) _ _ ls (by show _ = (f t && f2 (pw_c f t)).toNat; rw [← hcnt]; rcases pw_bt (f t) with q | q <;> rcases pw_bt (f2 cnt) with q2 | q2 <;> rw [q.2, q2.2] <;> first | rfl | (exfalso; omega)) hP hD hS (lv_sub hl [0, 1, 2, 3, 4, 5, 6] rfl)
  refine lv_aload_n hx hb d_M_on_0 rfl (lv_at hl 0 rfl) ?_
  refine lv_iload_n hx hb d_M_on_1 rfl (lv_at hl 1 rfl) ?_
  refine vp_callSi (W.runV (As := [.int (nI (i))]) (rest := []) ⟨hx, hb, hml, hown, hts⟩ (c_M_inRing l dC dI hmd) (cwV 1 hts (gd_V mb_437 mb_439 mb_6 mb_23 mb_440) rfl rfl rfl (by decide +kernel) ⟨Nat.le_of_ble_eq_true rfl, Nat.le_of_ble_eq_true rfl⟩) (pw_R_V (va_recv hK hP (ci := ciM) (q0 := 0) rfl rfl) hP hK) rfl rfl hl.1 rfl (lv_room (Nat.le_of_ble_eq_true rfl)) d_M_on_2 ⟨Nat.le_of_ble_eq_true rfl, Nat.le_of_ble_eq_true rfl⟩) (fun r_2 hr_2 => ?_)
  subst hr_2
  refine pq_if_ne (tgt := 12) (a := (pw_o f h pp)) hx hb d_M_on_5 (by decide) (by omega) (fun c_5 => ?_) (fun c_5 => ?_)
  · refine lv_iconst (v := nI 0) hx hb d_M_on_12 (by decide) ?_
    refine lv_istore_n (lv' := [(3, .int (nI (0))), (0, .ref o), (1, .int (nI (i))), (2, .int (nI (i2)))]) hx hb d_M_on_13 rfl hl (by decide) rfl (fun ls hl => ?_)
    refine lv_aload_n hx hb d_M_on_14 rfl (lv_at hl 1 rfl) ?_
    refine va_get (D := (dC, dI)) (ci := ciM) (v := .ref a1) (C := R_M) (T := F_M) (N := 9) hx hb hts (fun w h => List.mem_cons_of_mem _ (in_M w h)) hown hK hP 0 rfl rfl 2 (by decide) (hts (.fieldLink R_M 7 "PeriodWordsModel" "head" "[I") (List.mem_cons_of_mem _ mb_382)) (fun _ h9 => h9) rfl d_M_on_15 ?_
    refine lv_iload_n hx hb d_M_on_18 rfl (lv_at hl 2 rfl) ?_
    refine va_iald hx hb hK hP 1 0 rfl rfl (vp_in_nI (n := i) (by omega) (by omega)) d_M_on_19 ?_
    refine pq_top (y := .int (xh i)) (by rw [pq_cl (by omega)]) ?_
    refine pq_top (y := .int (nI (h))) (by rw [e1]) ?_
    refine lv_iload_n hx hb d_M_on_20 rfl (lv_at hl 0 rfl) ?_
    refine pq_if_eq (tgt := 28) (a := 0) hx hb d_M_on_21 (by decide) (by omega) (fun c_21 => ?_) (fun c_21 => absurd c_21 (by omega))
    refine lv_bipush (v := nI 60) hx hb d_M_on_28 (by decide) ?_
    refine lv_aload_n hx hb d_M_on_30 rfl (lv_at hl 1 rfl) ?_
    refine va_get (D := (dC, dI)) (ci := ciM) (v := .ref a2) (C := R_M) (T := F_M) (N := 9) hx hb hts (fun w h => List.mem_cons_of_mem _ (in_M w h)) hown hK hP 0 rfl rfl 3 (by decide) (hts (.fieldLink R_M 13 "PeriodWordsModel" "ring" "[I") (List.mem_cons_of_mem _ mb_383)) (fun _ h9 => h9) rfl d_M_on_31 ?_
    refine lv_iload_n hx hb d_M_on_34 rfl (lv_at hl 2 rfl) ?_
    refine va_iald hx hb hK hP 2 1 rfl rfl (vp_in_nI (n := i) (by omega) (by omega)) d_M_on_35 ?_
    refine pq_top (y := .int (yr i)) (by rw [pq_cl (by omega)]) ?_
    refine pq_top (y := .int (nI (pp))) (by rw [e2]) ?_
    refine pq_imul (a := 60) (b := pp) hx hb d_M_on_36 ?_
    refine pq_iadd (a := h) (b := (60 * pp)) hx hb d_M_on_37 ?_
    refine lv_istore (lv' := [(4, .int (nI (h + (60 * pp)))), (3, .int (nI (0))), (0, .ref o), (1, .int (nI (i))), (2, .int (nI (i2)))]) hx hb d_M_on_38 hl (by decide) rfl (fun ls hl => ?_)
    refine lv_iload_n hx hb d_M_on_40 rfl (lv_at hl 1 rfl) ?_
    refine pq_if_eq (tgt := 48) (a := 0) hx hb d_M_on_41 (by decide) (by omega) (fun c_41 => ?_) (fun c_41 => absurd c_41 (by omega))
    refine lv_aload_n hx hb d_M_on_48 rfl (lv_at hl 2 rfl) ?_
    refine va_get (D := (dC, dI)) (ci := ciM) (v := .ref a2) (C := R_M) (T := F_M) (N := 9) hx hb hts (fun w h => List.mem_cons_of_mem _ (in_M w h)) hown hK hP 0 rfl rfl 3 (by decide) (hts (.fieldLink R_M 13 "PeriodWordsModel" "ring" "[I") (List.mem_cons_of_mem _ mb_383)) (fun _ h9 => h9) rfl d_M_on_49 ?_
    refine lv_iload_n hx hb d_M_on_52 rfl (lv_at hl 3 rfl) ?_
    refine va_iald hx hb hK hP 2 1 rfl rfl (vp_in_nI (n := i) (by omega) (by omega)) d_M_on_53 ?_
    refine pq_top (y := .int (yr i)) (by rw [pq_cl (by omega)]) ?_
    refine pq_top (y := .int (nI (pp))) (by rw [e2]) ?_
    refine lv_aload_n hx hb d_M_on_54 rfl (lv_at hl 2 rfl) ?_
    refine va_get (D := (dC, dI)) (ci := ciM) (v := .ref a2) (C := R_M) (T := F_M) (N := 9) hx hb hts (fun w h => List.mem_cons_of_mem _ (in_M w h)) hown hK hP 0 rfl rfl 3 (by decide) (hts (.fieldLink R_M 13 "PeriodWordsModel" "ring" "[I") (List.mem_cons_of_mem _ mb_383)) (fun _ h9 => h9) rfl d_M_on_55 ?_
    refine lv_iload_n hx hb d_M_on_58 rfl (lv_at hl 4 rfl) ?_
    refine va_iald hx hb hK hP 2 1 rfl rfl (vp_in_nI (n := i2) (by omega) (by omega)) d_M_on_59 ?_
    refine pq_top (y := .int (yr i2)) (by rw [pq_cl (by omega)]) ?_
    refine pq_top (y := .int (nI (pp2))) (by rw [e22]) ?_
    refine pq_imul (a := pp) (b := pp2) hx hb d_M_on_60 ?_
    refine lv_istore (lv' := [(5, .int (nI (pp * pp2))), (4, .int (nI (h + (60 * pp)))), (3, .int (nI (0))), (0, .ref o), (1, .int (nI (i))), (2, .int (nI (i2)))]) hx hb d_M_on_61 hl (by decide) rfl (fun ls hl => ?_)
    refine lv_iconst (v := nI 0) hx hb d_M_on_63 (by decide) ?_
    refine lv_istore (lv' := [(6, .int (nI (0))), (5, .int (nI (pp * pp2))), (4, .int (nI (h + (60 * pp)))), (3, .int (nI (0))), (0, .ref o), (1, .int (nI (i))), (2, .int (nI (i2)))]) hx hb d_M_on_64 hl (by decide) rfl (fun ls hl => ?_)
    refine lv_iconst (v := nI 0) hx hb d_M_on_66 (by decide) ?_
    refine lv_istore (lv' := [(7, .int (nI (0))), (6, .int (nI (0))), (5, .int (nI (pp * pp2))), (4, .int (nI (h + (60 * pp)))), (3, .int (nI (0))), (0, .ref o), (1, .int (nI (i))), (2, .int (nI (i2)))]) hx hb d_M_on_67 hl (by decide) rfl (fun ls hl => ?_)
    exact B_69 _ (h + (60 * pp)) (pp * pp2) (0) (0) (bs) _ _ ls (Nat.lt_succ_self _) (by omega) (by first | omega | exact Nat.mul_pos hp0 hp02) (by first | exact pw_E_on0 hE hp0 c_5 f2 1 | exact pw_E_onM hE hp0 hE2 c_5 hh2) (by omega) rfl (fun j hj => absurd hj (Nat.not_lt_zero j)) hP hD hS (lv_sub hl [5, 6, 7, 3, 2, 1, 0] rfl)
  · refine lv_iconst (v := nI 1) hx hb d_M_on_8 (by decide) ?_
    refine lv_goto (tgt := 13) hx hb d_M_on_9 (by decide) ?_
    refine lv_istore_n (lv' := [(3, .int (nI (1))), (0, .ref o), (1, .int (nI (i))), (2, .int (nI (i2)))]) hx hb d_M_on_13 rfl hl (by decide) rfl (fun ls hl => ?_)
    refine lv_aload_n hx hb d_M_on_14 rfl (lv_at hl 1 rfl) ?_
    refine va_get (D := (dC, dI)) (ci := ciM) (v := .ref a1) (C := R_M) (T := F_M) (N := 9) hx hb hts (fun w h => List.mem_cons_of_mem _ (in_M w h)) hown hK hP 0 rfl rfl 2 (by decide) (hts (.fieldLink R_M 7 "PeriodWordsModel" "head" "[I") (List.mem_cons_of_mem _ mb_382)) (fun _ h9 => h9) rfl d_M_on_15 ?_
    refine lv_iload_n hx hb d_M_on_18 rfl (lv_at hl 2 rfl) ?_
    refine va_iald hx hb hK hP 1 0 rfl rfl (vp_in_nI (n := i) (by omega) (by omega)) d_M_on_19 ?_
    refine pq_top (y := .int (xh i)) (by rw [pq_cl (by omega)]) ?_
    refine pq_top (y := .int (nI (h))) (by rw [e1]) ?_
    refine lv_iload_n hx hb d_M_on_20 rfl (lv_at hl 0 rfl) ?_
    refine pq_if_eq (tgt := 28) (a := 1) hx hb d_M_on_21 (by decide) (by omega) (fun c_21 => absurd c_21 (by omega)) (fun c_21 => ?_)
    refine lv_iconst (v := nI 0) hx hb d_M_on_24 (by decide) ?_
    refine lv_goto (tgt := 37) hx hb d_M_on_25 (by decide) ?_
    refine pq_iadd (a := h) (b := 0) hx hb d_M_on_37 ?_
    refine lv_istore (lv' := [(4, .int (nI (h + 0))), (3, .int (nI (1))), (0, .ref o), (1, .int (nI (i))), (2, .int (nI (i2)))]) hx hb d_M_on_38 hl (by decide) rfl (fun ls hl => ?_)
    refine lv_iload_n hx hb d_M_on_40 rfl (lv_at hl 1 rfl) ?_
    refine pq_if_eq (tgt := 48) (a := 1) hx hb d_M_on_41 (by decide) (by omega) (fun c_41 => absurd c_41 (by omega)) (fun c_41 => ?_)
    refine lv_iconst (v := nI 1) hx hb d_M_on_44 (by decide) ?_
    refine lv_goto (tgt := 61) hx hb d_M_on_45 (by decide) ?_
    refine lv_istore (lv' := [(5, .int (nI (1))), (4, .int (nI (h + 0))), (3, .int (nI (1))), (0, .ref o), (1, .int (nI (i))), (2, .int (nI (i2)))]) hx hb d_M_on_61 hl (by decide) rfl (fun ls hl => ?_)
    refine lv_iconst (v := nI 0) hx hb d_M_on_63 (by decide) ?_
    refine lv_istore (lv' := [(6, .int (nI (0))), (5, .int (nI (1))), (4, .int (nI (h + 0))), (3, .int (nI (1))), (0, .ref o), (1, .int (nI (i))), (2, .int (nI (i2)))]) hx hb d_M_on_64 hl (by decide) rfl (fun ls hl => ?_)
    refine lv_iconst (v := nI 0) hx hb d_M_on_66 (by decide) ?_
    refine lv_istore (lv' := [(7, .int (nI (0))), (6, .int (nI (0))), (5, .int (nI (1))), (4, .int (nI (h + 0))), (3, .int (nI (1))), (0, .ref o), (1, .int (nI (i))), (2, .int (nI (i2)))]) hx hb d_M_on_67 hl (by decide) rfl (fun ls hl => ?_)
    exact B_69 _ (h + 0) (1) (0) (0) (bs) _ _ ls (Nat.lt_succ_self _) (by omega) (by first | omega | exact Nat.mul_pos hp0 hp02) (by first | exact pw_E_on0 hE hp0 c_5 f2 1 | exact pw_E_onM hE hp0 hE2 c_5 hh2) (by omega) rfl (fun j hj => absurd hj (Nat.not_lt_zero j)) hP hD hS (lv_sub hl [5, 6, 7, 3, 2, 1, 0] rfl)
set_option maxHeartbeats 4000000 in
set_option maxRecDepth 100000 in
theorem c_M_by (l : Launch) (dC : Nat → ClassId) (dI : Nat → Nat → Nat) {sz : Nat} {o a1 a2 a3 a4 a5 : Nat} {c1 c2 c3 c4 c5 : ClassId} {th mo le : Int32} {n : Nat} {xh yr : Nat → Int32} {xb yb : Nat → Int64} {bs : Nat → Int32} {i h pp : Nat} {f : Nat → Bool} (hmd : md_at xh yr xb yb i h pp f) {i2 h2 pp2 : Nat} {f2 : Nat → Bool} (hmd2 : md_at xh yr xb yb i2 h2 pp2 f2) {d : Nat} (hob : 0 < pw_o f2 h2 pp2) (hn : n < 40) : Met l y_M_by ws_M_by ({ frames := 2, cells := 0, slots := 0, locals := 49 } : Room) (md_Pre [.ref o, .int (nI (i)), .int (nI (i2))] dC dI sz (mdT c1 c2 c3 c4 c5) (md o a1 a2 a3 a4 a5 c1 c2 c3 c4 c5 th n mo le xh yr xb yb bs)) (va_Qi (fun r u => md_set (pw_mk 5 f f2 d) n xh yr xb yb r u) (md_B dC dI (va_A (md o a1 a2 a3 a4 a5 c1 c2 c3 c4 c5 th n mo le xh yr xb yb bs) sz) o a1 a2 a3 a4 a5 c1 c2 c3 c4 c5) (va_A (md o a1 a2 a3 a4 a5 c1 c2 c3 c4 c5 th n mo le xh yr xb yb bs) sz)) 0 0 (va_A (md o a1 a2 a3 a4 a5 c1 c2 c3 c4 c5 th n mo le xh yr xb yb bs) sz) := by
  refine Met.ofW (cc := b_M_by) (maxL := 8) (ret := (some .int)) (by decide) rfl ?_
  intro p e s m args below meth c s₁ B hml hv
  obtain ⟨rfl, hsz, hP, hK, hD0⟩ := hv
  have hx := B.exec
  have hb := B.bytes
  have hr := B.returns
  have hts := atoms_spec (ws := ws_M_by) B.pre
  have hown : s.vm.findClass R_M = some m.cls := findClass_of_methodNamed B.named
  have hlocks := B.notSynchronized
  subst hsz
  have hD := hD0.self (sz := s.heap.size)
  generalize hAe : va_A (md o a1 a2 a3 a4 a5 c1 c2 c3 c4 c5 th n mo le xh yr xb yb bs) s.heap.size = A at hD ⊢
  have hA : ∀ q : Nat, s.heap.size ≤ q → A q := fun q h => by rw [← hAe]; exact Or.inr h
  have hS : va_S A s.heap s.heap [] := va_S.rf
  have hmd_ := hmd; obtain ⟨hi, e1, e2, e3, e4, hok⟩ := hmd_; have hok_ := hok; obtain ⟨hh, hp0, hp6, hE⟩ := hok_
  have ho := pw_o_le f h pp
  have hc := pw_c_le f h
  have hb0 := pq_lt60 (pw_b_lt f 0 h) hh
  have hb1 := pq_lt60 (pw_b_lt f h pp) hp6
  have hmd2_ := hmd2; obtain ⟨hi2, e12, e22, e32, e42, hok2⟩ := hmd2_; have hok2_ := hok2; obtain ⟨hh2, hp02, hp62, hE2⟩ := hok2_
  have ho2 := pw_o_le f2 h2 pp2
  have hc2 := pw_c_le f2 h2
  have hb02 := pq_lt60 (pw_b_lt f2 0 h2) hh2
  have hb12 := pq_lt60 (pw_b_lt f2 h2 pp2) hp62
  have mm : pw_o f2 h2 pp2 * pp ≤ 60 * 60 := Nat.mul_le_mul (by omega) hp6
  have mm0 : 0 < pw_o f2 h2 pp2 * pp := Nat.mul_pos hob hp0
  have hl := lv_entry ([.ref o, .int (nI (i)), .int (nI (i2))]) (n := 8) (Nat.le_of_ble_eq_true rfl)
  rw [lg_entry_eq]
  generalize (lg_sl ([.ref o, .int (nI (i)), .int (nI (i2))]) ++ List.replicate (8 - (lg_sl ([.ref o, .int (nI (i)), .int (nI (i2))])).length) Slot.unset).toArray = ls at hl ⊢
  have hl : lv_has ls 8 [(0, .ref o), (1, .int (nI (i))), (2, .int (nI (i2)))] := hl
  refine lv_aload_n hx hb d_M_by_0 rfl (lv_at hl 0 rfl) ?_
  refine va_get (D := (dC, dI)) (ci := ciM) (v := .ref a1) (C := R_M) (T := F_M) (N := 9) hx hb hts (fun w h => List.mem_cons_of_mem _ (in_M w h)) hown hK hP 0 rfl rfl 2 (by decide) (hts (.fieldLink R_M 7 "PeriodWordsModel" "head" "[I") (List.mem_cons_of_mem _ mb_382)) (fun _ h9 => h9) rfl d_M_by_1 ?_
  refine lv_iload_n hx hb d_M_by_4 rfl (lv_at hl 1 rfl) ?_
  refine va_iald hx hb hK hP 1 0 rfl rfl (vp_in_nI (n := i) (by omega) (by omega)) d_M_by_5 ?_
  refine pq_top (y := .int (xh i)) (by rw [pq_cl (by omega)]) ?_
  refine pq_top (y := .int (nI (h))) (by rw [e1]) ?_
  refine lv_aload_n hx hb d_M_by_6 rfl (lv_at hl 0 rfl) ?_
  refine va_get (D := (dC, dI)) (ci := ciM) (v := .ref a1) (C := R_M) (T := F_M) (N := 9) hx hb hts (fun w h => List.mem_cons_of_mem _ (in_M w h)) hown hK hP 0 rfl rfl 2 (by decide) (hts (.fieldLink R_M 7 "PeriodWordsModel" "head" "[I") (List.mem_cons_of_mem _ mb_382)) (fun _ h9 => h9) rfl d_M_by_7 ?_
  refine lv_iload_n hx hb d_M_by_10 rfl (lv_at hl 2 rfl) ?_
  refine va_iald hx hb hK hP 1 0 rfl rfl (vp_in_nI (n := i2) (by omega) (by omega)) d_M_by_11 ?_
  refine pq_top (y := .int (xh i2)) (by rw [pq_cl (by omega)]) ?_
  refine pq_top (y := .int (nI (h2))) (by rw [e12]) ?_
  refine vp_callSi (W.runS (As := [.int (nI (h)), .int (nI (h2))]) (rest := []) ⟨hx, hb, hml, hown, hts⟩ (c_M_greater l dC dI (x := h) (y := h2) (by omega) (by omega)) (va_cwS 2 hts (gd_S mb_464 mb_465 mb_23 mb_466) rfl rfl rfl (by decide +kernel) ⟨Nat.le_of_ble_eq_true rfl, Nat.le_of_ble_eq_true rfl⟩) (pw_R_S pw_P0 (hK.sub [] rfl)) rfl rfl hl.1 rfl (lv_room (Nat.le_of_ble_eq_true rfl)) d_M_by_12 ⟨Nat.le_of_ble_eq_true rfl, Nat.le_of_ble_eq_true rfl⟩) (fun r_12 hr_12 => ?_)
  subst hr_12
  refine lv_istore_n (lv' := [(3, .int (nI (max h h2))), (0, .ref o), (1, .int (nI (i))), (2, .int (nI (i2)))]) hx hb d_M_by_15 rfl hl (by decide) rfl (fun ls hl => ?_)
  refine lv_iconst (v := nI 0) hx hb d_M_by_16 (by decide) ?_
  refine lv_istore (lv' := [(4, .int (nI (0))), (3, .int (nI (max h h2))), (0, .ref o), (1, .int (nI (i))), (2, .int (nI (i2)))]) hx hb d_M_by_17 hl (by decide) rfl (fun ls hl => ?_)
  refine lv_iconst (v := nI 0) hx hb d_M_by_19 (by decide) ?_
  refine lv_istore (lv' := [(5, .int (nI (0))), (4, .int (nI (0))), (3, .int (nI (max h h2))), (0, .ref o), (1, .int (nI (i))), (2, .int (nI (i2)))]) hx hb d_M_by_20 hl (by decide) rfl (fun ls hl => ?_)
  have B_22 : ∀ (k_ : Nat) (fr : Nat) (t : Nat) (H : Heap) (locs : List Loc) (ls : Array Slot), (max h h2 - t) < k_ → (t ≤ max h h2) → (fr = pw_c f2 t) → (fr ≤ t) → (va_P (dC, dI) vwCl [(o, .inr (ciM, [.int (th), .int (nI (n)), .ref a1, .ref a2, .ref a3, .ref a4, .ref a5, .int (mo), .int (le)])), (a1, .inl (c1, 40, .inl xh)), (a2, .inl (c2, 40, .inl yr)), (a3, .inl (c3, 40, .inr (.inl xb))), (a4, .inl (c4, 40, .inr (.inl yb))), (a5, .inl (c5, 7400, .inl bs))] H) → (va_D A [(o, .inr (ciM, [.int (th), .int (nI (n)), .ref a1, .ref a2, .ref a3, .ref a4, .ref a5, .int (mo), .int (le)])), (a1, .inl (c1, 40, .inl xh)), (a2, .inl (c2, 40, .inl yr)), (a3, .inl (c3, 40, .inr (.inl xb))), (a4, .inl (c4, 40, .inr (.inl yb))), (a5, .inl (c5, 7400, .inl bs))]) → (va_S A s.heap H locs) → lv_has ls 8 [(0, .ref o), (1, .int (nI (i))), (2, .int (nI (i2))), (3, .int (nI (max h h2))), (4, .int (nI (fr))), (5, .int (nI (t)))] → W p l e (headSpec ws_M_by ({ frames := 2, cells := 0, slots := 0, locals := 49 } : Room)).room s m ([.ref o, .int (nI (i)), .int (nI (i2))]).toArray below meth c H locs 0 0 (MQ below (va_Qi (fun r u => md_set (pw_mk 5 f f2 d) n xh yr xb yb r u) (md_B dC dI A o a1 a2 a3 a4 a5 c1 c2 c3 c4 c5) A) ([.ref o, .int (nI (i)), .int (nI (i2))]).toArray s 0 0 A) (F0 m 22 ls []) := by
    intro k_
    induction k_ with
    | zero => intro fr t H locs ls h_; omega
    | succ k_ ih_22 =>
      intro fr t H locs ls hm_ ht hfr hfl hP hD hS hl
      refine lv_iload hx hb d_M_by_22 (lv_at hl 5 rfl) ?_
      refine lv_iload_n hx hb d_M_by_24 rfl (lv_at hl 3 rfl) ?_
      refine pq_icmp_ge (tgt := 54) (a := t) (b := (max h h2)) hx hb d_M_by_25 (by decide) (by omega) (by omega) (fun c_25 => ?_) (fun c_25 => ?_)
      · have hfr2 : fr = pw_c f2 (max h h2) := by rw [hfr, show t = max h h2 by omega]
        have hEF : pw_E (pw_mk 5 f f2 d) fr (pw_o f2 h2 pp2 * pp) := by rw [hfr2]; exact pw_E_byM hE hE2 hp02 hob
        have hfle := pw_c_le f2 (max h h2)
        obtain ⟨T, hTe⟩ : ∃ T, T = pw_tk f2 (fr + pw_o f2 h2 pp2 * pp) := ⟨_, rfl⟩
        have hTN : pw_N f2 (fr + pw_o f2 h2 pp2 * pp) T := by rw [hTe]; exact pw_tk_N ((pw_has hE2 hp02 (by omega)).mpr (Or.inl hob))
        have hTb : T < 1000000 := by
          have a := pw_tk_le hE2 hp02 (show 0 < fr + pw_o f2 h2 pp2 * pp by omega) (Or.inl hob)
          have b : (fr + pw_o f2 h2 pp2 * pp) * pp2 ≤ 7200 * 60 := Nat.mul_le_mul (by omega) hp62
          omega
        refine lv_aload_n hx hb d_M_by_54 rfl (lv_at hl 0 rfl) ?_
        refine lv_iload_n hx hb d_M_by_55 rfl (lv_at hl 2 rfl) ?_
        refine vp_callSi (W.runV (As := [.int (nI (i2))]) (rest := []) ⟨hx, hb, hml, hown, hts⟩ (c_M_inRing l dC dI hmd2) (cwV 1 hts (gd_V mb_437 mb_439 mb_6 mb_23 mb_440) rfl rfl rfl (by decide +kernel) ⟨Nat.le_of_ble_eq_true rfl, Nat.le_of_ble_eq_true rfl⟩) (pw_R_V (va_recv hK hP (ci := ciM) (q0 := 0) rfl rfl) hP hK) rfl rfl hl.1 rfl (lv_room (Nat.le_of_ble_eq_true rfl)) d_M_by_56 ⟨Nat.le_of_ble_eq_true rfl, Nat.le_of_ble_eq_true rfl⟩) (fun r_56 hr_56 => ?_)
        subst hr_56
        refine lv_aload_n hx hb d_M_by_59 rfl (lv_at hl 0 rfl) ?_
        refine va_get (D := (dC, dI)) (ci := ciM) (v := .ref a2) (C := R_M) (T := F_M) (N := 9) hx hb hts (fun w h => List.mem_cons_of_mem _ (in_M w h)) hown hK hP 0 rfl rfl 3 (by decide) (hts (.fieldLink R_M 13 "PeriodWordsModel" "ring" "[I") (List.mem_cons_of_mem _ mb_383)) (fun _ h9 => h9) rfl d_M_by_60 ?_
        refine lv_iload_n hx hb d_M_by_63 rfl (lv_at hl 1 rfl) ?_
        refine va_iald hx hb hK hP 2 1 rfl rfl (vp_in_nI (n := i) (by omega) (by omega)) d_M_by_64 ?_
        refine pq_top (y := .int (yr i)) (by rw [pq_cl (by omega)]) ?_
        refine pq_top (y := .int (nI (pp))) (by rw [e2]) ?_
        refine pq_imul (a := (pw_o f2 h2 pp2)) (b := pp) hx hb d_M_by_65 ?_
        refine lv_istore (lv' := [(5, .int (nI ((pw_o f2 h2 pp2) * pp))), (0, .ref o), (1, .int (nI (i))), (2, .int (nI (i2))), (3, .int (nI (max h h2))), (4, .int (nI (fr)))]) hx hb d_M_by_66 hl (by decide) rfl (fun ls hl => ?_)
        refine lv_iconst (v := nI 0) hx hb d_M_by_68 (by decide) ?_
        refine lv_istore (lv' := [(6, .int (nI (0))), (5, .int (nI ((pw_o f2 h2 pp2) * pp))), (0, .ref o), (1, .int (nI (i))), (2, .int (nI (i2))), (3, .int (nI (max h h2))), (4, .int (nI (fr)))]) hx hb d_M_by_69 hl (by decide) rfl (fun ls hl => ?_)
        refine lv_iconst (v := nI 0) hx hb d_M_by_71 (by decide) ?_
        refine lv_istore (lv' := [(7, .int (nI (0))), (6, .int (nI (0))), (5, .int (nI ((pw_o f2 h2 pp2) * pp))), (0, .ref o), (1, .int (nI (i))), (2, .int (nI (i2))), (3, .int (nI (max h h2))), (4, .int (nI (fr)))]) hx hb d_M_by_72 hl (by decide) rfl (fun ls hl => ?_)
        have B_74 : ∀ (k_ : Nat) (cnt : Nat) (t : Nat) (bz : Nat → Int32) (H : Heap) (locs : List Loc) (ls : Array Slot), (T + 1 - t) < k_ → (t ≤ T + 1) → (cnt = pw_c f2 t) → (cnt ≤ fr + pw_o f2 h2 pp2 * pp) → (∀ j, j < cnt → bz j = nI (pw_mk 5 f f2 d j).toNat) → (va_P (dC, dI) vwCl [(o, .inr (ciM, [.int (th), .int (nI (n)), .ref a1, .ref a2, .ref a3, .ref a4, .ref a5, .int (mo), .int (le)])), (a1, .inl (c1, 40, .inl xh)), (a2, .inl (c2, 40, .inl yr)), (a3, .inl (c3, 40, .inr (.inl xb))), (a4, .inl (c4, 40, .inr (.inl yb))), (a5, .inl (c5, 7400, .inl bz))] H) → (va_D A [(o, .inr (ciM, [.int (th), .int (nI (n)), .ref a1, .ref a2, .ref a3, .ref a4, .ref a5, .int (mo), .int (le)])), (a1, .inl (c1, 40, .inl xh)), (a2, .inl (c2, 40, .inl yr)), (a3, .inl (c3, 40, .inr (.inl xb))), (a4, .inl (c4, 40, .inr (.inl yb))), (a5, .inl (c5, 7400, .inl bz))]) → (va_S A s.heap H locs) → lv_has ls 8 [(0, .ref o), (1, .int (nI (i))), (2, .int (nI (i2))), (4, .int (nI (fr))), (5, .int (nI (pw_o f2 h2 pp2 * pp))), (6, .int (nI (cnt))), (7, .int (nI (t)))] → W p l e (headSpec ws_M_by ({ frames := 2, cells := 0, slots := 0, locals := 49 } : Room)).room s m ([.ref o, .int (nI (i)), .int (nI (i2))]).toArray below meth c H locs 0 0 (MQ below (va_Qi (fun r u => md_set (pw_mk 5 f f2 d) n xh yr xb yb r u) (md_B dC dI A o a1 a2 a3 a4 a5 c1 c2 c3 c4 c5) A) ([.ref o, .int (nI (i)), .int (nI (i2))]).toArray s 0 0 A) (F0 m 74 ls []) := by
          intro k_
          induction k_ with
          | zero => intro cnt t bz H locs ls h_; omega
          | succ k_ ih_74 =>
            intro cnt t bz H locs ls hm_ ht1 hcnt hcb hbz hP hD hS hl
            refine lv_iload hx hb d_M_by_74 (lv_at hl 5 rfl) ?_
            refine lv_iload hx hb d_M_by_76 (lv_at hl 3 rfl) ?_
            refine lv_iload hx hb d_M_by_78 (lv_at hl 4 rfl) ?_
            refine pq_iadd (a := fr) (b := (pw_o f2 h2 pp2 * pp)) hx hb d_M_by_80 ?_
            refine pq_icmp_ge (tgt := 120) (a := cnt) (b := (fr + (pw_o f2 h2 pp2 * pp))) hx hb d_M_by_81 (by decide) (by omega) (by omega) (fun c_81 => ?_) (fun c_81 => ?_)
            · refine lv_aload_n hx hb d_M_by_120 rfl (lv_at hl 0 rfl) ?_
              refine lv_iload hx hb d_M_by_121 (lv_at hl 3 rfl) ?_
              refine lv_iload hx hb d_M_by_123 (lv_at hl 4 rfl) ?_
              have hFc := va_free (wc := [(o, .inr (ciM, [.int (th), .int (nI (n)), .ref a1, .ref a2, .ref a3, .ref a4, .ref a5, .int (mo), .int (le)])), (a1, .inl (c1, 40, .inl xh)), (a2, .inl (c2, 40, .inl yr)), (a3, .inl (c3, 40, .inr (.inl xb))), (a4, .inl (c4, 40, .inr (.inl yb))), (a5, .inl (c5, 7400, .inl bz))]) hD hS hA [0, 1, 2, 3, 4, 5] rfl
              refine va_calli (va_runV (As := [.int (nI (fr)), .int (nI (pw_o f2 h2 pp2 * pp))]) (rest := []) ⟨hx, hb, hml, hown, hts⟩ (c_M_settle l dC dI (F := pw_mk 5 f f2 d) (fun j hj => hbz j (by omega)) (by omega) mm0 hEF hn) (cwV 2 hts (gd_V mb_421 mb_423 mb_3 mb_23 mb_424) rfl rfl rfl (by decide +kernel) ⟨Nat.le_of_ble_eq_true rfl, Nat.le_of_ble_eq_true rfl⟩) ⟨md_blind, va_recv hK hP (ci := ciM) (q0 := 0) rfl rfl, fun U hU hW => ⟨rfl, by rw [hU], by rw [hU]; exact hP, va_K.moved hW.alike hK, hD.weaken (fun _ _ _ _ => trivial)⟩⟩ rfl rfl hl.1 rfl (lv_room (Nat.le_of_ble_eq_true rfl)) d_M_by_125 ⟨Nat.le_of_ble_eq_true rfl, Nat.le_of_ble_eq_true rfl⟩) hS (fun q _ h => hFc q h) hFc (fun r_125 u_125 t_ H1 locs ht_ hvm_ hr_125 hB_ hz1_ hk1_ hS => ?_)
              obtain ⟨hP1_, hK1_, hD1_⟩ := hB_
              rw [ht_] at hP1_
              clear hP hD
              have hP := hP1_
              have hD := hD1_.weaken (fun k q _ h => hFc q.1 h)
              generalize H1 = H at hP hS ⊢
              have hP : va_P (dC, dI) vwCl [(o, .inr (ciM, [.int (u_125.1), .int (nI (u_125.2.1)), .ref a1, .ref a2, .ref a3, .ref a4, .ref a5, .int (u_125.2.2.1), .int (u_125.2.2.2.1)])), (a1, .inl (c1, 40, .inl u_125.2.2.2.2.1)), (a2, .inl (c2, 40, .inl u_125.2.2.2.2.2.1)), (a3, .inl (c3, 40, .inr (.inl u_125.2.2.2.2.2.2.1))), (a4, .inl (c4, 40, .inr (.inl u_125.2.2.2.2.2.2.2.1))), (a5, .inl (c5, 7400, .inl u_125.2.2.2.2.2.2.2.2))] H := hP
              have hD : va_D A [(o, .inr (ciM, [.int (u_125.1), .int (nI (u_125.2.1)), .ref a1, .ref a2, .ref a3, .ref a4, .ref a5, .int (u_125.2.2.1), .int (u_125.2.2.2.1)])), (a1, .inl (c1, 40, .inl u_125.2.2.2.2.1)), (a2, .inl (c2, 40, .inl u_125.2.2.2.2.2.1)), (a3, .inl (c3, 40, .inr (.inl u_125.2.2.2.2.2.2.1))), (a4, .inl (c4, 40, .inr (.inl u_125.2.2.2.2.2.2.2.1))), (a5, .inl (c5, 7400, .inl u_125.2.2.2.2.2.2.2.2))] := hD
              exact W.iret (v := (r_125)) hx hb hr (fun t_ ht_ hW_ => ⟨⟨_, (u_125.1, u_125.2.1, u_125.2.2.1, u_125.2.2.2.1, u_125.2.2.2.2.1, u_125.2.2.2.2.2.1, u_125.2.2.2.2.2.2.1, u_125.2.2.2.2.2.2.2.1, u_125.2.2.2.2.2.2.2.2), rfl, hr_125, by rw [ht_]; exact hP, va_K.moved hW_.alike hK, hD⟩, hS.F ht_⟩) hS.2.2 d_M_by_128
            · have htT : t ≤ T := pw_N_far hTN (by omega)
              have hqs : pw_c f2 (t + 1) = pw_c f2 t + (f2 t).toNat := rfl
              have hq2 := pw_lt2 (f2 t)
              refine lv_aload_n hx hb d_M_by_84 rfl (lv_at hl 0 rfl) ?_
              refine lv_iload_n hx hb d_M_by_85 rfl (lv_at hl 2 rfl) ?_
              refine lv_iload hx hb d_M_by_86 (lv_at hl 6 rfl) ?_
              refine vp_callSi (W.runV (As := [.int (nI (i2)), .int (nI (t))]) (rest := []) ⟨hx, hb, hml, hown, hts⟩ (c_M_has l dC dI hmd2 (t := t) (by omega)) (cwV 2 hts (gd_V mb_452 mb_454 mb_9 mb_23 mb_455) rfl rfl rfl (by decide +kernel) ⟨Nat.le_of_ble_eq_true rfl, Nat.le_of_ble_eq_true rfl⟩) (pw_R_V (va_recv hK hP (ci := ciM) (q0 := 0) rfl rfl) hP hK) rfl rfl hl.1 rfl (lv_room (Nat.le_of_ble_eq_true rfl)) d_M_by_88 ⟨Nat.le_of_ble_eq_true rfl, Nat.le_of_ble_eq_true rfl⟩) (fun r_88 hr_88 => ?_)
              subst hr_88
              refine pq_if_ne (tgt := 97) (a := ((f2 t).toNat)) hx hb d_M_by_91 (by decide) (by have := pw_lt2 (f2 t); omega) (fun c_91 => ?_) (fun c_91 => ?_)
              · refine lv_aload_n hx hb d_M_by_97 rfl (lv_at hl 0 rfl) ?_
                refine va_get (D := (dC, dI)) (ci := ciM) (v := .ref a5) (C := R_M) (T := F_M) (N := 9) hx hb hts (fun w h => List.mem_cons_of_mem _ (in_M w h)) hown hK hP 0 rfl rfl 6 (by decide) (hts (.fieldLink R_M 23 "PeriodWordsModel" "bits" "[Z") (List.mem_cons_of_mem _ mb_386)) (fun _ h9 => h9) rfl d_M_by_98 ?_
                refine lv_iload hx hb d_M_by_101 (lv_at hl 5 rfl) ?_
                refine lv_aload_n hx hb d_M_by_103 rfl (lv_at hl 0 rfl) ?_
                refine lv_iload_n hx hb d_M_by_104 rfl (lv_at hl 1 rfl) ?_
                refine lv_iload hx hb d_M_by_105 (lv_at hl 6 rfl) ?_
                refine vp_callSi (W.runV (As := [.int (nI (i)), .int (nI (t))]) (rest := [.int (nI (cnt)), .ref a5]) ⟨hx, hb, hml, hown, hts⟩ (c_M_has l dC dI hmd (t := t) (by omega)) (cwV 2 hts (gd_V mb_452 mb_454 mb_9 mb_23 mb_455) rfl rfl rfl (by decide +kernel) ⟨Nat.le_of_ble_eq_true rfl, Nat.le_of_ble_eq_true rfl⟩) (pw_R_V (va_recv hK hP (ci := ciM) (q0 := 0) rfl rfl) hP hK) rfl rfl hl.1 rfl (lv_room (Nat.le_of_ble_eq_true rfl)) d_M_by_107 ⟨Nat.le_of_ble_eq_true rfl, Nat.le_of_ble_eq_true rfl⟩) (fun r_107 hr_107 => ?_)
                subst hr_107
                refine va_zast hx hb hK hP hD hS 5 4 rfl rfl (vp_in_nI (n := cnt) (by omega) (by omega)) d_M_by_110 (fun H locs hP hD hS => ?_)
                rw [pq_cl (by omega)] at hP hD
                have hP : va_P (dC, dI) vwCl [(o, .inr (ciM, [.int (th), .int (nI (n)), .ref a1, .ref a2, .ref a3, .ref a4, .ref a5, .int (mo), .int (le)])), (a1, .inl (c1, 40, .inl xh)), (a2, .inl (c2, 40, .inl yr)), (a3, .inl (c3, 40, .inr (.inl xb))), (a4, .inl (c4, 40, .inr (.inl yb))), (a5, .inl (c5, 7400, .inl (upd bz cnt (vp_nar .boolean (nI ((f t).toNat))))))] H := hP
                have hD : va_D A [(o, .inr (ciM, [.int (th), .int (nI (n)), .ref a1, .ref a2, .ref a3, .ref a4, .ref a5, .int (mo), .int (le)])), (a1, .inl (c1, 40, .inl xh)), (a2, .inl (c2, 40, .inl yr)), (a3, .inl (c3, 40, .inr (.inl xb))), (a4, .inl (c4, 40, .inr (.inl yb))), (a5, .inl (c5, 7400, .inl (upd bz cnt (vp_nar .boolean (nI ((f t).toNat))))))] := hD
                refine lv_iinc (v := nI (cnt + 1)) (lv' := [(6, .int (nI (cnt + 1))), (0, .ref o), (1, .int (nI (i))), (2, .int (nI (i2))), (4, .int (nI (fr))), (5, .int (nI (pw_o f2 h2 pp2 * pp))), (7, .int (nI (t)))]) hx hb d_M_by_111 hl (k := 5) rfl (pq_inc _) (by decide) rfl (fun ls hl => ?_)
                refine lv_iinc (v := nI (t + 1)) (lv' := [(7, .int (nI (t + 1))), (6, .int (nI (cnt + 1))), (0, .ref o), (1, .int (nI (i))), (2, .int (nI (i2))), (4, .int (nI (fr))), (5, .int (nI (pw_o f2 h2 pp2 * pp)))]) hx hb d_M_by_114 hl (k := 6) rfl (pq_inc _) (by decide) rfl (fun ls hl => ?_)
                refine lv_goto (tgt := 74) hx hb d_M_by_117 (by decide) ?_
                exact ih_74 (cnt + 1) (t + 1) (upd bz cnt (vp_nar .boolean (nI ((f t).toNat)))) _ _ ls (by omega) (by omega) (by omega) (by omega) (md_put hbz (by show _ = (f (pw_tk f2 (cnt + 1))).toNat; rw [pw_tk_of (pw_byN c_91 hcnt)])) hP hD hS (lv_sub hl [2, 3, 4, 5, 6, 1, 0] rfl)
              · refine lv_goto (tgt := 114) hx hb d_M_by_94 (by decide) ?_
                refine lv_iinc (v := nI (t + 1)) (lv' := [(7, .int (nI (t + 1))), (0, .ref o), (1, .int (nI (i))), (2, .int (nI (i2))), (4, .int (nI (fr))), (5, .int (nI (pw_o f2 h2 pp2 * pp))), (6, .int (nI (cnt)))]) hx hb d_M_by_114 hl (k := 6) rfl (pq_inc _) (by decide) rfl (fun ls hl => ?_)
                refine lv_goto (tgt := 74) hx hb d_M_by_117 (by decide) ?_
                exact ih_74 (cnt) (t + 1) (bz) _ _ ls (by omega) (by omega) (by omega) (by omega) hbz hP hD hS (lv_sub hl [1, 2, 3, 4, 5, 6, 0] rfl)
        exact B_74 _ (0) (0) (bs) _ _ ls (Nat.lt_succ_self _) (by omega) rfl (by omega) (fun j hj => absurd hj (Nat.not_lt_zero j)) hP hD hS (lv_sub hl [3, 4, 5, 7, 2, 1, 0] rfl)
      · refine lv_iload hx hb d_M_by_28 (lv_at hl 4 rfl) ?_
        refine lv_aload_n hx hb d_M_by_30 rfl (lv_at hl 0 rfl) ?_
        refine lv_iload_n hx hb d_M_by_31 rfl (lv_at hl 2 rfl) ?_
        refine lv_iload hx hb d_M_by_32 (lv_at hl 5 rfl) ?_
        refine vp_callSi (W.runV (As := [.int (nI (i2)), .int (nI (t))]) (rest := [.int (nI (fr))]) ⟨hx, hb, hml, hown, hts⟩ (c_M_has l dC dI hmd2 (t := t) (by omega)) (cwV 2 hts (gd_V mb_452 mb_454 mb_9 mb_23 mb_455) rfl rfl rfl (by decide +kernel) ⟨Nat.le_of_ble_eq_true rfl, Nat.le_of_ble_eq_true rfl⟩) (pw_R_V (va_recv hK hP (ci := ciM) (q0 := 0) rfl rfl) hP hK) rfl rfl hl.1 rfl (lv_room (Nat.le_of_ble_eq_true rfl)) d_M_by_34 ⟨Nat.le_of_ble_eq_true rfl, Nat.le_of_ble_eq_true rfl⟩) (fun r_34 hr_34 => ?_)
        subst hr_34
        refine pq_if_eq (tgt := 44) (a := ((f2 t).toNat)) hx hb d_M_by_37 (by decide) (by have := pw_lt2 (f2 t); omega) (fun c_37 => ?_) (fun c_37 => ?_)
        · refine lv_iconst (v := nI 0) hx hb d_M_by_44 (by decide) ?_
          refine pq_iadd (a := fr) (b := 0) hx hb d_M_by_45 ?_
          refine lv_istore (lv' := [(4, .int (nI (fr + 0))), (0, .ref o), (1, .int (nI (i))), (2, .int (nI (i2))), (3, .int (nI (max h h2))), (5, .int (nI (t)))]) hx hb d_M_by_46 hl (by decide) rfl (fun ls hl => ?_)
          refine lv_iinc (v := nI (t + 1)) (lv' := [(5, .int (nI (t + 1))), (4, .int (nI (fr + 0))), (0, .ref o), (1, .int (nI (i))), (2, .int (nI (i2))), (3, .int (nI (max h h2)))]) hx hb d_M_by_48 hl (k := 5) rfl (pq_inc _) (by decide) rfl (fun ls hl => ?_)
          refine lv_goto (tgt := 22) hx hb d_M_by_51 (by decide) ?_
          exact ih_22 (fr + 0) (t + 1) _ _ ls (by omega) (by omega) (by rw [pw_c_s, ← hfr]; have := pw_lt2 (f2 t); omega) (by omega) hP hD hS (lv_sub hl [2, 3, 4, 5, 1, 0] rfl)
        · refine lv_iconst (v := nI 1) hx hb d_M_by_40 (by decide) ?_
          refine lv_goto (tgt := 45) hx hb d_M_by_41 (by decide) ?_
          refine pq_iadd (a := fr) (b := 1) hx hb d_M_by_45 ?_
          refine lv_istore (lv' := [(4, .int (nI (fr + 1))), (0, .ref o), (1, .int (nI (i))), (2, .int (nI (i2))), (3, .int (nI (max h h2))), (5, .int (nI (t)))]) hx hb d_M_by_46 hl (by decide) rfl (fun ls hl => ?_)
          refine lv_iinc (v := nI (t + 1)) (lv' := [(5, .int (nI (t + 1))), (4, .int (nI (fr + 1))), (0, .ref o), (1, .int (nI (i))), (2, .int (nI (i2))), (3, .int (nI (max h h2)))]) hx hb d_M_by_48 hl (k := 5) rfl (pq_inc _) (by decide) rfl (fun ls hl => ?_)
          refine lv_goto (tgt := 22) hx hb d_M_by_51 (by decide) ?_
          exact ih_22 (fr + 1) (t + 1) _ _ ls (by omega) (by omega) (by rw [pw_c_s, ← hfr]; have := pw_lt2 (f2 t); omega) (by omega) hP hD hS (lv_sub hl [2, 3, 4, 5, 1, 0] rfl)
  exact B_22 _ (0) (0) _ _ ls (Nat.lt_succ_self _) (by omega) rfl (by omega) hP hD hS (lv_sub hl [3, 4, 5, 2, 1, 0] rfl)
set_option maxHeartbeats 4000000 in
set_option maxRecDepth 100000 in
theorem c_M_late (l : Launch) (dC : Nat → ClassId) (dI : Nat → Nat → Nat) {sz : Nat} {o a1 a2 a3 a4 a5 : Nat} {c1 c2 c3 c4 c5 : ClassId} {th mo le : Int32} {n : Nat} {xh yr : Nat → Int32} {xb yb : Nat → Int64} {bs : Nat → Int32} {i h pp : Nat} {f : Nat → Bool} (hmd : md_at xh yr xb yb i h pp f) {f2 : Nat → Bool} {d : Nat} (hd : d ≤ 30) (hn : n < 40) : Met l y_M_late ws_M_late ({ frames := 2, cells := 0, slots := 0, locals := 49 } : Room) (md_Pre [.ref o, .int (nI (i)), .int (nI (d))] dC dI sz (mdT c1 c2 c3 c4 c5) (md o a1 a2 a3 a4 a5 c1 c2 c3 c4 c5 th n mo le xh yr xb yb bs)) (va_Qi (fun r u => md_set (pw_mk 6 f f2 d) n xh yr xb yb r u) (md_B dC dI (va_A (md o a1 a2 a3 a4 a5 c1 c2 c3 c4 c5 th n mo le xh yr xb yb bs) sz) o a1 a2 a3 a4 a5 c1 c2 c3 c4 c5) (va_A (md o a1 a2 a3 a4 a5 c1 c2 c3 c4 c5 th n mo le xh yr xb yb bs) sz)) 0 0 (va_A (md o a1 a2 a3 a4 a5 c1 c2 c3 c4 c5 th n mo le xh yr xb yb bs) sz) := by
  refine Met.ofW (cc := b_M_late) (maxL := 4) (ret := (some .int)) (by decide) rfl ?_
  intro p e s m args below meth c s₁ B hml hv
  obtain ⟨rfl, hsz, hP, hK, hD0⟩ := hv
  have hx := B.exec
  have hb := B.bytes
  have hr := B.returns
  have hts := atoms_spec (ws := ws_M_late) B.pre
  have hown : s.vm.findClass R_M = some m.cls := findClass_of_methodNamed B.named
  have hlocks := B.notSynchronized
  subst hsz
  have hD := hD0.self (sz := s.heap.size)
  generalize hAe : va_A (md o a1 a2 a3 a4 a5 c1 c2 c3 c4 c5 th n mo le xh yr xb yb bs) s.heap.size = A at hD ⊢
  have hA : ∀ q : Nat, s.heap.size ≤ q → A q := fun q h => by rw [← hAe]; exact Or.inr h
  have hS : va_S A s.heap s.heap [] := va_S.rf
  have hmd_ := hmd; obtain ⟨hi, e1, e2, e3, e4, hok⟩ := hmd_; have hok_ := hok; obtain ⟨hh, hp0, hp6, hE⟩ := hok_
  have ho := pw_o_le f h pp
  have hc := pw_c_le f h
  have hb0 := pq_lt60 (pw_b_lt f 0 h) hh
  have hb1 := pq_lt60 (pw_b_lt f h pp) hp6
  have hl := lv_entry ([.ref o, .int (nI (i)), .int (nI (d))]) (n := 4) (Nat.le_of_ble_eq_true rfl)
  rw [lg_entry_eq]
  generalize (lg_sl ([.ref o, .int (nI (i)), .int (nI (d))]) ++ List.replicate (4 - (lg_sl ([.ref o, .int (nI (i)), .int (nI (d))])).length) Slot.unset).toArray = ls at hl ⊢
  have hl : lv_has ls 4 [(0, .ref o), (1, .int (nI (i))), (2, .int (nI (d)))] := hl
  refine lv_iconst (v := nI 0) hx hb d_M_late_0 (by decide) ?_
  refine lv_istore_n (lv' := [(3, .int (nI (0))), (0, .ref o), (1, .int (nI (i))), (2, .int (nI (d)))]) hx hb d_M_late_1 rfl hl (by decide) rfl (fun ls hl => ?_)
  have B_2 : ∀ (k_ : Nat) (t : Nat) (bz : Nat → Int32) (H : Heap) (locs : List Loc) (ls : Array Slot), (d - t) < k_ → (t ≤ d) → (∀ j, j < t → bz j = nI (pw_mk 6 f f2 d j).toNat) → (va_P (dC, dI) vwCl [(o, .inr (ciM, [.int (th), .int (nI (n)), .ref a1, .ref a2, .ref a3, .ref a4, .ref a5, .int (mo), .int (le)])), (a1, .inl (c1, 40, .inl xh)), (a2, .inl (c2, 40, .inl yr)), (a3, .inl (c3, 40, .inr (.inl xb))), (a4, .inl (c4, 40, .inr (.inl yb))), (a5, .inl (c5, 7400, .inl bz))] H) → (va_D A [(o, .inr (ciM, [.int (th), .int (nI (n)), .ref a1, .ref a2, .ref a3, .ref a4, .ref a5, .int (mo), .int (le)])), (a1, .inl (c1, 40, .inl xh)), (a2, .inl (c2, 40, .inl yr)), (a3, .inl (c3, 40, .inr (.inl xb))), (a4, .inl (c4, 40, .inr (.inl yb))), (a5, .inl (c5, 7400, .inl bz))]) → (va_S A s.heap H locs) → lv_has ls 4 [(0, .ref o), (1, .int (nI (i))), (2, .int (nI (d))), (3, .int (nI (t)))] → W p l e (headSpec ws_M_late ({ frames := 2, cells := 0, slots := 0, locals := 49 } : Room)).room s m ([.ref o, .int (nI (i)), .int (nI (d))]).toArray below meth c H locs 0 0 (MQ below (va_Qi (fun r u => md_set (pw_mk 6 f f2 d) n xh yr xb yb r u) (md_B dC dI A o a1 a2 a3 a4 a5 c1 c2 c3 c4 c5) A) ([.ref o, .int (nI (i)), .int (nI (d))]).toArray s 0 0 A) (F0 m 2 ls []) := by
    intro k_
    induction k_ with
    | zero => intro t bz H locs ls h_; omega
    | succ k_ ih_2 =>
      intro t bz H locs ls hm_ ht hbz hP hD hS hl
      refine lv_iload_n hx hb d_M_late_2 rfl (lv_at hl 3 rfl) ?_
      refine lv_iload_n hx hb d_M_late_3 rfl (lv_at hl 2 rfl) ?_
      refine pq_icmp_ge (tgt := 20) (a := t) (b := d) hx hb d_M_late_4 (by decide) (by omega) (by omega) (fun c_4 => ?_) (fun c_4 => ?_)
      · refine lv_iconst (v := nI 0) hx hb d_M_late_20 (by decide) ?_
        refine lv_istore_n (lv' := [(3, .int (nI (0))), (0, .ref o), (1, .int (nI (i))), (2, .int (nI (d)))]) hx hb d_M_late_21 rfl hl (by decide) rfl (fun ls hl => ?_)
        have B_22 : ∀ (k_ : Nat) (t : Nat) (bz : Nat → Int32) (H : Heap) (locs : List Loc) (ls : Array Slot), (h + pp - t) < k_ → (t ≤ h + pp) → (∀ j, j < d + t → bz j = nI (pw_mk 6 f f2 d j).toNat) → (va_P (dC, dI) vwCl [(o, .inr (ciM, [.int (th), .int (nI (n)), .ref a1, .ref a2, .ref a3, .ref a4, .ref a5, .int (mo), .int (le)])), (a1, .inl (c1, 40, .inl xh)), (a2, .inl (c2, 40, .inl yr)), (a3, .inl (c3, 40, .inr (.inl xb))), (a4, .inl (c4, 40, .inr (.inl yb))), (a5, .inl (c5, 7400, .inl bz))] H) → (va_D A [(o, .inr (ciM, [.int (th), .int (nI (n)), .ref a1, .ref a2, .ref a3, .ref a4, .ref a5, .int (mo), .int (le)])), (a1, .inl (c1, 40, .inl xh)), (a2, .inl (c2, 40, .inl yr)), (a3, .inl (c3, 40, .inr (.inl xb))), (a4, .inl (c4, 40, .inr (.inl yb))), (a5, .inl (c5, 7400, .inl bz))]) → (va_S A s.heap H locs) → lv_has ls 4 [(0, .ref o), (1, .int (nI (i))), (2, .int (nI (d))), (3, .int (nI (t)))] → W p l e (headSpec ws_M_late ({ frames := 2, cells := 0, slots := 0, locals := 49 } : Room)).room s m ([.ref o, .int (nI (i)), .int (nI (d))]).toArray below meth c H locs 0 0 (MQ below (va_Qi (fun r u => md_set (pw_mk 6 f f2 d) n xh yr xb yb r u) (md_B dC dI A o a1 a2 a3 a4 a5 c1 c2 c3 c4 c5) A) ([.ref o, .int (nI (i)), .int (nI (d))]).toArray s 0 0 A) (F0 m 22 ls []) := by
          intro k_
          induction k_ with
          | zero => intro t bz H locs ls h_; omega
          | succ k_ ih_22 =>
            intro t bz H locs ls hm_ ht hbz hP hD hS hl
            refine lv_iload_n hx hb d_M_late_22 rfl (lv_at hl 3 rfl) ?_
            refine lv_aload_n hx hb d_M_late_23 rfl (lv_at hl 0 rfl) ?_
            refine va_get (D := (dC, dI)) (ci := ciM) (v := .ref a1) (C := R_M) (T := F_M) (N := 9) hx hb hts (fun w h => List.mem_cons_of_mem _ (in_M w h)) hown hK hP 0 rfl rfl 2 (by decide) (hts (.fieldLink R_M 7 "PeriodWordsModel" "head" "[I") (List.mem_cons_of_mem _ mb_382)) (fun _ h9 => h9) rfl d_M_late_24 ?_
            refine lv_iload_n hx hb d_M_late_27 rfl (lv_at hl 1 rfl) ?_
            refine va_iald hx hb hK hP 1 0 rfl rfl (vp_in_nI (n := i) (by omega) (by omega)) d_M_late_28 ?_
            refine pq_top (y := .int (xh i)) (by rw [pq_cl (by omega)]) ?_
            refine pq_top (y := .int (nI (h))) (by rw [e1]) ?_
            refine lv_aload_n hx hb d_M_late_29 rfl (lv_at hl 0 rfl) ?_
            refine va_get (D := (dC, dI)) (ci := ciM) (v := .ref a2) (C := R_M) (T := F_M) (N := 9) hx hb hts (fun w h => List.mem_cons_of_mem _ (in_M w h)) hown hK hP 0 rfl rfl 3 (by decide) (hts (.fieldLink R_M 13 "PeriodWordsModel" "ring" "[I") (List.mem_cons_of_mem _ mb_383)) (fun _ h9 => h9) rfl d_M_late_30 ?_
            refine lv_iload_n hx hb d_M_late_33 rfl (lv_at hl 1 rfl) ?_
            refine va_iald hx hb hK hP 2 1 rfl rfl (vp_in_nI (n := i) (by omega) (by omega)) d_M_late_34 ?_
            refine pq_top (y := .int (yr i)) (by rw [pq_cl (by omega)]) ?_
            refine pq_top (y := .int (nI (pp))) (by rw [e2]) ?_
            refine pq_iadd (a := h) (b := pp) hx hb d_M_late_35 ?_
            refine pq_icmp_ge (tgt := 59) (a := t) (b := (h + pp)) hx hb d_M_late_36 (by decide) (by omega) (by omega) (fun c_36 => ?_) (fun c_36 => ?_)
            · refine lv_aload_n hx hb d_M_late_59 rfl (lv_at hl 0 rfl) ?_
              refine lv_iload_n hx hb d_M_late_60 rfl (lv_at hl 2 rfl) ?_
              refine lv_aload_n hx hb d_M_late_61 rfl (lv_at hl 0 rfl) ?_
              refine va_get (D := (dC, dI)) (ci := ciM) (v := .ref a1) (C := R_M) (T := F_M) (N := 9) hx hb hts (fun w h => List.mem_cons_of_mem _ (in_M w h)) hown hK hP 0 rfl rfl 2 (by decide) (hts (.fieldLink R_M 7 "PeriodWordsModel" "head" "[I") (List.mem_cons_of_mem _ mb_382)) (fun _ h9 => h9) rfl d_M_late_62 ?_
              refine lv_iload_n hx hb d_M_late_65 rfl (lv_at hl 1 rfl) ?_
              refine va_iald hx hb hK hP 1 0 rfl rfl (vp_in_nI (n := i) (by omega) (by omega)) d_M_late_66 ?_
              refine pq_top (y := .int (xh i)) (by rw [pq_cl (by omega)]) ?_
              refine pq_top (y := .int (nI (h))) (by rw [e1]) ?_
              refine pq_iadd (a := d) (b := h) hx hb d_M_late_67 ?_
              refine lv_aload_n hx hb d_M_late_68 rfl (lv_at hl 0 rfl) ?_
              refine va_get (D := (dC, dI)) (ci := ciM) (v := .ref a2) (C := R_M) (T := F_M) (N := 9) hx hb hts (fun w h => List.mem_cons_of_mem _ (in_M w h)) hown hK hP 0 rfl rfl 3 (by decide) (hts (.fieldLink R_M 13 "PeriodWordsModel" "ring" "[I") (List.mem_cons_of_mem _ mb_383)) (fun _ h9 => h9) rfl d_M_late_69 ?_
              refine lv_iload_n hx hb d_M_late_72 rfl (lv_at hl 1 rfl) ?_
              refine va_iald hx hb hK hP 2 1 rfl rfl (vp_in_nI (n := i) (by omega) (by omega)) d_M_late_73 ?_
              refine pq_top (y := .int (yr i)) (by rw [pq_cl (by omega)]) ?_
              refine pq_top (y := .int (nI (pp))) (by rw [e2]) ?_
              have hFc := va_free (wc := [(o, .inr (ciM, [.int (th), .int (nI (n)), .ref a1, .ref a2, .ref a3, .ref a4, .ref a5, .int (mo), .int (le)])), (a1, .inl (c1, 40, .inl xh)), (a2, .inl (c2, 40, .inl yr)), (a3, .inl (c3, 40, .inr (.inl xb))), (a4, .inl (c4, 40, .inr (.inl yb))), (a5, .inl (c5, 7400, .inl bz))]) hD hS hA [0, 1, 2, 3, 4, 5] rfl
              refine va_calli (va_runV (As := [.int (nI (d + h)), .int (nI (pp))]) (rest := []) ⟨hx, hb, hml, hown, hts⟩ (c_M_settle l dC dI (F := pw_mk 6 f f2 d) (fun j hj => hbz j (by omega)) (by omega) hp0 (by rw [Nat.add_comm d h]; exact pw_E_late hE d) hn) (cwV 2 hts (gd_V mb_421 mb_423 mb_3 mb_23 mb_424) rfl rfl rfl (by decide +kernel) ⟨Nat.le_of_ble_eq_true rfl, Nat.le_of_ble_eq_true rfl⟩) ⟨md_blind, va_recv hK hP (ci := ciM) (q0 := 0) rfl rfl, fun U hU hW => ⟨rfl, by rw [hU], by rw [hU]; exact hP, va_K.moved hW.alike hK, hD.weaken (fun _ _ _ _ => trivial)⟩⟩ rfl rfl hl.1 rfl (lv_room (Nat.le_of_ble_eq_true rfl)) d_M_late_74 ⟨Nat.le_of_ble_eq_true rfl, Nat.le_of_ble_eq_true rfl⟩) hS (fun q _ h => hFc q h) hFc (fun r_74 u_74 t_ H1 locs ht_ hvm_ hr_74 hB_ hz1_ hk1_ hS => ?_)
              obtain ⟨hP1_, hK1_, hD1_⟩ := hB_
              rw [ht_] at hP1_
              clear hP hD
              have hP := hP1_
              have hD := hD1_.weaken (fun k q _ h => hFc q.1 h)
              generalize H1 = H at hP hS ⊢
              have hP : va_P (dC, dI) vwCl [(o, .inr (ciM, [.int (u_74.1), .int (nI (u_74.2.1)), .ref a1, .ref a2, .ref a3, .ref a4, .ref a5, .int (u_74.2.2.1), .int (u_74.2.2.2.1)])), (a1, .inl (c1, 40, .inl u_74.2.2.2.2.1)), (a2, .inl (c2, 40, .inl u_74.2.2.2.2.2.1)), (a3, .inl (c3, 40, .inr (.inl u_74.2.2.2.2.2.2.1))), (a4, .inl (c4, 40, .inr (.inl u_74.2.2.2.2.2.2.2.1))), (a5, .inl (c5, 7400, .inl u_74.2.2.2.2.2.2.2.2))] H := hP
              have hD : va_D A [(o, .inr (ciM, [.int (u_74.1), .int (nI (u_74.2.1)), .ref a1, .ref a2, .ref a3, .ref a4, .ref a5, .int (u_74.2.2.1), .int (u_74.2.2.2.1)])), (a1, .inl (c1, 40, .inl u_74.2.2.2.2.1)), (a2, .inl (c2, 40, .inl u_74.2.2.2.2.2.1)), (a3, .inl (c3, 40, .inr (.inl u_74.2.2.2.2.2.2.1))), (a4, .inl (c4, 40, .inr (.inl u_74.2.2.2.2.2.2.2.1))), (a5, .inl (c5, 7400, .inl u_74.2.2.2.2.2.2.2.2))] := hD
              exact W.iret (v := (r_74)) hx hb hr (fun t_ ht_ hW_ => ⟨⟨_, (u_74.1, u_74.2.1, u_74.2.2.1, u_74.2.2.2.1, u_74.2.2.2.2.1, u_74.2.2.2.2.2.1, u_74.2.2.2.2.2.2.1, u_74.2.2.2.2.2.2.2.1, u_74.2.2.2.2.2.2.2.2), rfl, hr_74, by rw [ht_]; exact hP, va_K.moved hW_.alike hK, hD⟩, hS.F ht_⟩) hS.2.2 d_M_late_77
            · refine lv_aload_n hx hb d_M_late_39 rfl (lv_at hl 0 rfl) ?_
              refine va_get (D := (dC, dI)) (ci := ciM) (v := .ref a5) (C := R_M) (T := F_M) (N := 9) hx hb hts (fun w h => List.mem_cons_of_mem _ (in_M w h)) hown hK hP 0 rfl rfl 6 (by decide) (hts (.fieldLink R_M 23 "PeriodWordsModel" "bits" "[Z") (List.mem_cons_of_mem _ mb_386)) (fun _ h9 => h9) rfl d_M_late_40 ?_
              refine lv_iload_n hx hb d_M_late_43 rfl (lv_at hl 2 rfl) ?_
              refine lv_iload_n hx hb d_M_late_44 rfl (lv_at hl 3 rfl) ?_
              refine pq_iadd (a := d) (b := t) hx hb d_M_late_45 ?_
              refine lv_aload_n hx hb d_M_late_46 rfl (lv_at hl 0 rfl) ?_
              refine lv_iload_n hx hb d_M_late_47 rfl (lv_at hl 1 rfl) ?_
              refine lv_iload_n hx hb d_M_late_48 rfl (lv_at hl 3 rfl) ?_
              refine vp_callSi (W.runV (As := [.int (nI (i)), .int (nI (t))]) (rest := [.int (nI (d + t)), .ref a5]) ⟨hx, hb, hml, hown, hts⟩ (c_M_has l dC dI hmd (t := t) (by omega)) (cwV 2 hts (gd_V mb_452 mb_454 mb_9 mb_23 mb_455) rfl rfl rfl (by decide +kernel) ⟨Nat.le_of_ble_eq_true rfl, Nat.le_of_ble_eq_true rfl⟩) (pw_R_V (va_recv hK hP (ci := ciM) (q0 := 0) rfl rfl) hP hK) rfl rfl hl.1 rfl (lv_room (Nat.le_of_ble_eq_true rfl)) d_M_late_49 ⟨Nat.le_of_ble_eq_true rfl, Nat.le_of_ble_eq_true rfl⟩) (fun r_49 hr_49 => ?_)
              subst hr_49
              refine va_zast hx hb hK hP hD hS 5 4 rfl rfl (vp_in_nI (n := (d + t)) (by omega) (by omega)) d_M_late_52 (fun H locs hP hD hS => ?_)
              rw [pq_cl (by omega)] at hP hD
              have hP : va_P (dC, dI) vwCl [(o, .inr (ciM, [.int (th), .int (nI (n)), .ref a1, .ref a2, .ref a3, .ref a4, .ref a5, .int (mo), .int (le)])), (a1, .inl (c1, 40, .inl xh)), (a2, .inl (c2, 40, .inl yr)), (a3, .inl (c3, 40, .inr (.inl xb))), (a4, .inl (c4, 40, .inr (.inl yb))), (a5, .inl (c5, 7400, .inl (upd bz (d + t) (vp_nar .boolean (nI ((f t).toNat))))))] H := hP
              have hD : va_D A [(o, .inr (ciM, [.int (th), .int (nI (n)), .ref a1, .ref a2, .ref a3, .ref a4, .ref a5, .int (mo), .int (le)])), (a1, .inl (c1, 40, .inl xh)), (a2, .inl (c2, 40, .inl yr)), (a3, .inl (c3, 40, .inr (.inl xb))), (a4, .inl (c4, 40, .inr (.inl yb))), (a5, .inl (c5, 7400, .inl (upd bz (d + t) (vp_nar .boolean (nI ((f t).toNat))))))] := hD
              refine lv_iinc (v := nI (t + 1)) (lv' := [(3, .int (nI (t + 1))), (0, .ref o), (1, .int (nI (i))), (2, .int (nI (d)))]) hx hb d_M_late_53 hl (k := 3) rfl (pq_inc _) (by decide) rfl (fun ls hl => ?_)
              refine lv_goto (tgt := 22) hx hb d_M_late_56 (by decide) ?_
              exact ih_22 (t + 1) (upd bz (d + t) (vp_nar .boolean (nI ((f t).toNat)))) _ _ ls (by omega) (by omega) (md_put hbz (by show _ = (if d + t < d then false else f (d + t - d)).toNat; rw [if_neg (by omega), Nat.add_sub_cancel_left])) hP hD hS (lv_sub hl [1, 2, 3, 0] rfl)
        exact B_22 _ (0) (bz) _ _ ls (Nat.lt_succ_self _) (by omega) (fun j hj => hbz j (by omega)) hP hD hS (lv_sub hl [1, 2, 3, 0] rfl)
      · refine lv_aload_n hx hb d_M_late_7 rfl (lv_at hl 0 rfl) ?_
        refine va_get (D := (dC, dI)) (ci := ciM) (v := .ref a5) (C := R_M) (T := F_M) (N := 9) hx hb hts (fun w h => List.mem_cons_of_mem _ (in_M w h)) hown hK hP 0 rfl rfl 6 (by decide) (hts (.fieldLink R_M 23 "PeriodWordsModel" "bits" "[Z") (List.mem_cons_of_mem _ mb_386)) (fun _ h9 => h9) rfl d_M_late_8 ?_
        refine lv_iload_n hx hb d_M_late_11 rfl (lv_at hl 3 rfl) ?_
        refine lv_iconst (v := nI 0) hx hb d_M_late_12 (by decide) ?_
        refine va_zast hx hb hK hP hD hS 5 4 rfl rfl (vp_in_nI (n := t) (by omega) (by omega)) d_M_late_13 (fun H locs hP hD hS => ?_)
        rw [pq_cl (by omega)] at hP hD
        have hP : va_P (dC, dI) vwCl [(o, .inr (ciM, [.int (th), .int (nI (n)), .ref a1, .ref a2, .ref a3, .ref a4, .ref a5, .int (mo), .int (le)])), (a1, .inl (c1, 40, .inl xh)), (a2, .inl (c2, 40, .inl yr)), (a3, .inl (c3, 40, .inr (.inl xb))), (a4, .inl (c4, 40, .inr (.inl yb))), (a5, .inl (c5, 7400, .inl (upd bz t (vp_nar .boolean (nI (0))))))] H := hP
        have hD : va_D A [(o, .inr (ciM, [.int (th), .int (nI (n)), .ref a1, .ref a2, .ref a3, .ref a4, .ref a5, .int (mo), .int (le)])), (a1, .inl (c1, 40, .inl xh)), (a2, .inl (c2, 40, .inl yr)), (a3, .inl (c3, 40, .inr (.inl xb))), (a4, .inl (c4, 40, .inr (.inl yb))), (a5, .inl (c5, 7400, .inl (upd bz t (vp_nar .boolean (nI (0))))))] := hD
        refine lv_iinc (v := nI (t + 1)) (lv' := [(3, .int (nI (t + 1))), (0, .ref o), (1, .int (nI (i))), (2, .int (nI (d)))]) hx hb d_M_late_14 hl (k := 3) rfl (pq_inc _) (by decide) rfl (fun ls hl => ?_)
        refine lv_goto (tgt := 2) hx hb d_M_late_17 (by decide) ?_
        exact ih_2 (t + 1) (upd bz t (vp_nar .boolean (nI (0)))) _ _ ls (by omega) (by omega) (md_put (x := 0) hbz (by show 0 = (if t < d then false else f (t - d)).toNat; rw [if_pos (by omega)]; rfl)) hP hD hS (lv_sub hl [1, 2, 3, 0] rfl)
  exact B_2 _ (0) (bs) _ _ ls (Nat.lt_succ_self _) (by omega) (fun j hj => absurd hj (Nat.not_lt_zero j)) hP hD hS (lv_sub hl [1, 2, 3, 0] rfl)
set_option maxHeartbeats 4000000 in
set_option maxRecDepth 100000 in
theorem c_M_halved (l : Launch) (dC : Nat → ClassId) (dI : Nat → Nat → Nat) {sz : Nat} {o a1 a2 a3 a4 a5 : Nat} {c1 c2 c3 c4 c5 : ClassId} {th mo le : Int32} {n : Nat} {xh yr : Nat → Int32} {xb yb : Nat → Int64} {bs : Nat → Int32} {i h pp : Nat} {f : Nat → Bool} (hmd : md_at xh yr xb yb i h pp f) {f2 : Nat → Bool} {d : Nat} (hn : n < 40) : Met l y_M_halved ws_M_halved ({ frames := 2, cells := 0, slots := 0, locals := 49 } : Room) (md_Pre [.ref o, .int (nI (i))] dC dI sz (mdT c1 c2 c3 c4 c5) (md o a1 a2 a3 a4 a5 c1 c2 c3 c4 c5 th n mo le xh yr xb yb bs)) (va_Qi (fun r u => md_set (pw_mk 7 f f2 d) n xh yr xb yb r u) (md_B dC dI (va_A (md o a1 a2 a3 a4 a5 c1 c2 c3 c4 c5 th n mo le xh yr xb yb bs) sz) o a1 a2 a3 a4 a5 c1 c2 c3 c4 c5) (va_A (md o a1 a2 a3 a4 a5 c1 c2 c3 c4 c5 th n mo le xh yr xb yb bs) sz)) 0 0 (va_A (md o a1 a2 a3 a4 a5 c1 c2 c3 c4 c5 th n mo le xh yr xb yb bs) sz) := by
  refine Met.ofW (cc := b_M_halved) (maxL := 4) (ret := (some .int)) (by decide) rfl ?_
  intro p e s m args below meth c s₁ B hml hv
  obtain ⟨rfl, hsz, hP, hK, hD0⟩ := hv
  have hx := B.exec
  have hb := B.bytes
  have hr := B.returns
  have hts := atoms_spec (ws := ws_M_halved) B.pre
  have hown : s.vm.findClass R_M = some m.cls := findClass_of_methodNamed B.named
  have hlocks := B.notSynchronized
  subst hsz
  have hD := hD0.self (sz := s.heap.size)
  generalize hAe : va_A (md o a1 a2 a3 a4 a5 c1 c2 c3 c4 c5 th n mo le xh yr xb yb bs) s.heap.size = A at hD ⊢
  have hA : ∀ q : Nat, s.heap.size ≤ q → A q := fun q h => by rw [← hAe]; exact Or.inr h
  have hS : va_S A s.heap s.heap [] := va_S.rf
  have hmd_ := hmd; obtain ⟨hi, e1, e2, e3, e4, hok⟩ := hmd_; have hok_ := hok; obtain ⟨hh, hp0, hp6, hE⟩ := hok_
  have ho := pw_o_le f h pp
  have hc := pw_c_le f h
  have hb0 := pq_lt60 (pw_b_lt f 0 h) hh
  have hb1 := pq_lt60 (pw_b_lt f h pp) hp6
  have hl := lv_entry ([.ref o, .int (nI (i))]) (n := 4) (Nat.le_of_ble_eq_true rfl)
  rw [lg_entry_eq]
  generalize (lg_sl ([.ref o, .int (nI (i))]) ++ List.replicate (4 - (lg_sl ([.ref o, .int (nI (i))])).length) Slot.unset).toArray = ls at hl ⊢
  have hl : lv_has ls 4 [(0, .ref o), (1, .int (nI (i)))] := hl
  refine lv_iconst (v := nI 1) hx hb d_M_halved_0 (by decide) ?_
  refine lv_istore_n (lv' := [(2, .int (nI (1))), (0, .ref o), (1, .int (nI (i)))]) hx hb d_M_halved_1 rfl hl (by decide) rfl (fun ls hl => ?_)
  refine lv_iconst (v := nI 0) hx hb d_M_halved_2 (by decide) ?_
  refine lv_istore_n (lv' := [(3, .int (nI (0))), (2, .int (nI (1))), (0, .ref o), (1, .int (nI (i)))]) hx hb d_M_halved_3 rfl hl (by decide) rfl (fun ls hl => ?_)
  have B_4 : ∀ (k_ : Nat) (tk : Nat) (t : Nat) (bz : Nat → Int32) (H : Heap) (locs : List Loc) (ls : Array Slot), (h + 2 * pp - t) < k_ → (t ≤ h + 2 * pp) → (tk = (decide (pw_c f t % 2 = 0)).toNat) → (∀ j, j < t → bz j = nI (pw_mk 7 f f2 d j).toNat) → (va_P (dC, dI) vwCl [(o, .inr (ciM, [.int (th), .int (nI (n)), .ref a1, .ref a2, .ref a3, .ref a4, .ref a5, .int (mo), .int (le)])), (a1, .inl (c1, 40, .inl xh)), (a2, .inl (c2, 40, .inl yr)), (a3, .inl (c3, 40, .inr (.inl xb))), (a4, .inl (c4, 40, .inr (.inl yb))), (a5, .inl (c5, 7400, .inl bz))] H) → (va_D A [(o, .inr (ciM, [.int (th), .int (nI (n)), .ref a1, .ref a2, .ref a3, .ref a4, .ref a5, .int (mo), .int (le)])), (a1, .inl (c1, 40, .inl xh)), (a2, .inl (c2, 40, .inl yr)), (a3, .inl (c3, 40, .inr (.inl xb))), (a4, .inl (c4, 40, .inr (.inl yb))), (a5, .inl (c5, 7400, .inl bz))]) → (va_S A s.heap H locs) → lv_has ls 4 [(0, .ref o), (1, .int (nI (i))), (2, .int (nI (tk))), (3, .int (nI (t)))] → W p l e (headSpec ws_M_halved ({ frames := 2, cells := 0, slots := 0, locals := 49 } : Room)).room s m ([.ref o, .int (nI (i))]).toArray below meth c H locs 0 0 (MQ below (va_Qi (fun r u => md_set (pw_mk 7 f f2 d) n xh yr xb yb r u) (md_B dC dI A o a1 a2 a3 a4 a5 c1 c2 c3 c4 c5) A) ([.ref o, .int (nI (i))]).toArray s 0 0 A) (F0 m 4 ls []) := by
    intro k_
    induction k_ with
    | zero => intro tk t bz H locs ls h_; omega
    | succ k_ ih_4 =>
      intro tk t bz H locs ls hm_ ht htk hbz hP hD hS hl
      refine lv_iload_n hx hb d_M_halved_4 rfl (lv_at hl 3 rfl) ?_
      refine lv_aload_n hx hb d_M_halved_5 rfl (lv_at hl 0 rfl) ?_
      refine va_get (D := (dC, dI)) (ci := ciM) (v := .ref a1) (C := R_M) (T := F_M) (N := 9) hx hb hts (fun w h => List.mem_cons_of_mem _ (in_M w h)) hown hK hP 0 rfl rfl 2 (by decide) (hts (.fieldLink R_M 7 "PeriodWordsModel" "head" "[I") (List.mem_cons_of_mem _ mb_382)) (fun _ h9 => h9) rfl d_M_halved_6 ?_
      refine lv_iload_n hx hb d_M_halved_9 rfl (lv_at hl 1 rfl) ?_
      refine va_iald hx hb hK hP 1 0 rfl rfl (vp_in_nI (n := i) (by omega) (by omega)) d_M_halved_10 ?_
      refine pq_top (y := .int (xh i)) (by rw [pq_cl (by omega)]) ?_
      refine pq_top (y := .int (nI (h))) (by rw [e1]) ?_
      refine lv_iconst (v := nI 2) hx hb d_M_halved_11 (by decide) ?_
      refine lv_aload_n hx hb d_M_halved_12 rfl (lv_at hl 0 rfl) ?_
      refine va_get (D := (dC, dI)) (ci := ciM) (v := .ref a2) (C := R_M) (T := F_M) (N := 9) hx hb hts (fun w h => List.mem_cons_of_mem _ (in_M w h)) hown hK hP 0 rfl rfl 3 (by decide) (hts (.fieldLink R_M 13 "PeriodWordsModel" "ring" "[I") (List.mem_cons_of_mem _ mb_383)) (fun _ h9 => h9) rfl d_M_halved_13 ?_
      refine lv_iload_n hx hb d_M_halved_16 rfl (lv_at hl 1 rfl) ?_
      refine va_iald hx hb hK hP 2 1 rfl rfl (vp_in_nI (n := i) (by omega) (by omega)) d_M_halved_17 ?_
      refine pq_top (y := .int (yr i)) (by rw [pq_cl (by omega)]) ?_
      refine pq_top (y := .int (nI (pp))) (by rw [e2]) ?_
      refine pq_imul (a := 2) (b := pp) hx hb d_M_halved_18 ?_
      refine pq_iadd (a := h) (b := (2 * pp)) hx hb d_M_halved_19 ?_
      refine pq_icmp_ge (tgt := 69) (a := t) (b := (h + (2 * pp))) hx hb d_M_halved_20 (by decide) (by omega) (by omega) (fun c_20 => ?_) (fun c_20 => ?_)
      · refine lv_aload_n hx hb d_M_halved_69 rfl (lv_at hl 0 rfl) ?_
        refine lv_aload_n hx hb d_M_halved_70 rfl (lv_at hl 0 rfl) ?_
        refine va_get (D := (dC, dI)) (ci := ciM) (v := .ref a1) (C := R_M) (T := F_M) (N := 9) hx hb hts (fun w h => List.mem_cons_of_mem _ (in_M w h)) hown hK hP 0 rfl rfl 2 (by decide) (hts (.fieldLink R_M 7 "PeriodWordsModel" "head" "[I") (List.mem_cons_of_mem _ mb_382)) (fun _ h9 => h9) rfl d_M_halved_71 ?_
        refine lv_iload_n hx hb d_M_halved_74 rfl (lv_at hl 1 rfl) ?_
        refine va_iald hx hb hK hP 1 0 rfl rfl (vp_in_nI (n := i) (by omega) (by omega)) d_M_halved_75 ?_
        refine pq_top (y := .int (xh i)) (by rw [pq_cl (by omega)]) ?_
        refine pq_top (y := .int (nI (h))) (by rw [e1]) ?_
        refine lv_iconst (v := nI 2) hx hb d_M_halved_76 (by decide) ?_
        refine lv_aload_n hx hb d_M_halved_77 rfl (lv_at hl 0 rfl) ?_
        refine va_get (D := (dC, dI)) (ci := ciM) (v := .ref a2) (C := R_M) (T := F_M) (N := 9) hx hb hts (fun w h => List.mem_cons_of_mem _ (in_M w h)) hown hK hP 0 rfl rfl 3 (by decide) (hts (.fieldLink R_M 13 "PeriodWordsModel" "ring" "[I") (List.mem_cons_of_mem _ mb_383)) (fun _ h9 => h9) rfl d_M_halved_78 ?_
        refine lv_iload_n hx hb d_M_halved_81 rfl (lv_at hl 1 rfl) ?_
        refine va_iald hx hb hK hP 2 1 rfl rfl (vp_in_nI (n := i) (by omega) (by omega)) d_M_halved_82 ?_
        refine pq_top (y := .int (yr i)) (by rw [pq_cl (by omega)]) ?_
        refine pq_top (y := .int (nI (pp))) (by rw [e2]) ?_
        refine pq_imul (a := 2) (b := pp) hx hb d_M_halved_83 ?_
        have hFc := va_free (wc := [(o, .inr (ciM, [.int (th), .int (nI (n)), .ref a1, .ref a2, .ref a3, .ref a4, .ref a5, .int (mo), .int (le)])), (a1, .inl (c1, 40, .inl xh)), (a2, .inl (c2, 40, .inl yr)), (a3, .inl (c3, 40, .inr (.inl xb))), (a4, .inl (c4, 40, .inr (.inl yb))), (a5, .inl (c5, 7400, .inl bz))]) hD hS hA [0, 1, 2, 3, 4, 5] rfl
        refine va_calli (va_runV (As := [.int (nI (h)), .int (nI (2 * pp))]) (rest := []) ⟨hx, hb, hml, hown, hts⟩ (c_M_settle l dC dI (F := pw_mk 7 f f2 d) (fun j hj => hbz j (by omega)) (by omega) (by omega) (pw_E_half hE hp0 2 (by omega)) hn) (cwV 2 hts (gd_V mb_421 mb_423 mb_3 mb_23 mb_424) rfl rfl rfl (by decide +kernel) ⟨Nat.le_of_ble_eq_true rfl, Nat.le_of_ble_eq_true rfl⟩) ⟨md_blind, va_recv hK hP (ci := ciM) (q0 := 0) rfl rfl, fun U hU hW => ⟨rfl, by rw [hU], by rw [hU]; exact hP, va_K.moved hW.alike hK, hD.weaken (fun _ _ _ _ => trivial)⟩⟩ rfl rfl hl.1 rfl (lv_room (Nat.le_of_ble_eq_true rfl)) d_M_halved_84 ⟨Nat.le_of_ble_eq_true rfl, Nat.le_of_ble_eq_true rfl⟩) hS (fun q _ h => hFc q h) hFc (fun r_84 u_84 t_ H1 locs ht_ hvm_ hr_84 hB_ hz1_ hk1_ hS => ?_)
        obtain ⟨hP1_, hK1_, hD1_⟩ := hB_
        rw [ht_] at hP1_
        clear hP hD
        have hP := hP1_
        have hD := hD1_.weaken (fun k q _ h => hFc q.1 h)
        generalize H1 = H at hP hS ⊢
        have hP : va_P (dC, dI) vwCl [(o, .inr (ciM, [.int (u_84.1), .int (nI (u_84.2.1)), .ref a1, .ref a2, .ref a3, .ref a4, .ref a5, .int (u_84.2.2.1), .int (u_84.2.2.2.1)])), (a1, .inl (c1, 40, .inl u_84.2.2.2.2.1)), (a2, .inl (c2, 40, .inl u_84.2.2.2.2.2.1)), (a3, .inl (c3, 40, .inr (.inl u_84.2.2.2.2.2.2.1))), (a4, .inl (c4, 40, .inr (.inl u_84.2.2.2.2.2.2.2.1))), (a5, .inl (c5, 7400, .inl u_84.2.2.2.2.2.2.2.2))] H := hP
        have hD : va_D A [(o, .inr (ciM, [.int (u_84.1), .int (nI (u_84.2.1)), .ref a1, .ref a2, .ref a3, .ref a4, .ref a5, .int (u_84.2.2.1), .int (u_84.2.2.2.1)])), (a1, .inl (c1, 40, .inl u_84.2.2.2.2.1)), (a2, .inl (c2, 40, .inl u_84.2.2.2.2.2.1)), (a3, .inl (c3, 40, .inr (.inl u_84.2.2.2.2.2.2.1))), (a4, .inl (c4, 40, .inr (.inl u_84.2.2.2.2.2.2.2.1))), (a5, .inl (c5, 7400, .inl u_84.2.2.2.2.2.2.2.2))] := hD
        exact W.iret (v := (r_84)) hx hb hr (fun t_ ht_ hW_ => ⟨⟨_, (u_84.1, u_84.2.1, u_84.2.2.1, u_84.2.2.2.1, u_84.2.2.2.2.1, u_84.2.2.2.2.2.1, u_84.2.2.2.2.2.2.1, u_84.2.2.2.2.2.2.2.1, u_84.2.2.2.2.2.2.2.2), rfl, hr_84, by rw [ht_]; exact hP, va_K.moved hW_.alike hK, hD⟩, hS.F ht_⟩) hS.2.2 d_M_halved_87
      · have htk2 := pw_lt2 (decide (pw_c f t % 2 = 0))
        have B_46 : ∀ (x : Nat) (H : Heap) (locs : List Loc) (ls : Array Slot), (x = (pw_mk 7 f f2 d t).toNat) → (va_P (dC, dI) vwCl [(o, .inr (ciM, [.int (th), .int (nI (n)), .ref a1, .ref a2, .ref a3, .ref a4, .ref a5, .int (mo), .int (le)])), (a1, .inl (c1, 40, .inl xh)), (a2, .inl (c2, 40, .inl yr)), (a3, .inl (c3, 40, .inr (.inl xb))), (a4, .inl (c4, 40, .inr (.inl yb))), (a5, .inl (c5, 7400, .inl bz))] H) → (va_D A [(o, .inr (ciM, [.int (th), .int (nI (n)), .ref a1, .ref a2, .ref a3, .ref a4, .ref a5, .int (mo), .int (le)])), (a1, .inl (c1, 40, .inl xh)), (a2, .inl (c2, 40, .inl yr)), (a3, .inl (c3, 40, .inr (.inl xb))), (a4, .inl (c4, 40, .inr (.inl yb))), (a5, .inl (c5, 7400, .inl bz))]) → (va_S A s.heap H locs) → lv_has ls 4 [(0, .ref o), (1, .int (nI (i))), (2, .int (nI (tk))), (3, .int (nI (t)))] → W p l e (headSpec ws_M_halved ({ frames := 2, cells := 0, slots := 0, locals := 49 } : Room)).room s m ([.ref o, .int (nI (i))]).toArray below meth c H locs 0 0 (MQ below (va_Qi (fun r u => md_set (pw_mk 7 f f2 d) n xh yr xb yb r u) (md_B dC dI A o a1 a2 a3 a4 a5 c1 c2 c3 c4 c5) A) ([.ref o, .int (nI (i))]).toArray s 0 0 A) (F0 m 46 ls [.int (nI (x)), .int (nI (t)), .ref a5]) := by
          intro x H locs ls hx2 hP hD hS hl
          refine va_zast hx hb hK hP hD hS 5 4 rfl rfl (vp_in_nI (n := t) (by omega) (by omega)) d_M_halved_46 (fun H locs hP hD hS => ?_)
          rw [pq_cl (by omega)] at hP hD
          have hP : va_P (dC, dI) vwCl [(o, .inr (ciM, [.int (th), .int (nI (n)), .ref a1, .ref a2, .ref a3, .ref a4, .ref a5, .int (mo), .int (le)])), (a1, .inl (c1, 40, .inl xh)), (a2, .inl (c2, 40, .inl yr)), (a3, .inl (c3, 40, .inr (.inl xb))), (a4, .inl (c4, 40, .inr (.inl yb))), (a5, .inl (c5, 7400, .inl (upd bz t (vp_nar .boolean (nI (x))))))] H := hP
          have hD : va_D A [(o, .inr (ciM, [.int (th), .int (nI (n)), .ref a1, .ref a2, .ref a3, .ref a4, .ref a5, .int (mo), .int (le)])), (a1, .inl (c1, 40, .inl xh)), (a2, .inl (c2, 40, .inl yr)), (a3, .inl (c3, 40, .inr (.inl xb))), (a4, .inl (c4, 40, .inr (.inl yb))), (a5, .inl (c5, 7400, .inl (upd bz t (vp_nar .boolean (nI (x))))))] := hD
          refine lv_aload_n hx hb d_M_halved_47 rfl (lv_at hl 0 rfl) ?_
          refine lv_iload_n hx hb d_M_halved_48 rfl (lv_at hl 1 rfl) ?_
          refine lv_iload_n hx hb d_M_halved_49 rfl (lv_at hl 3 rfl) ?_
          refine vp_callSi (W.runV (As := [.int (nI (i)), .int (nI (t))]) (rest := []) ⟨hx, hb, hml, hown, hts⟩ (c_M_has l dC dI hmd (t := t) (by omega)) (cwV 2 hts (gd_V mb_452 mb_454 mb_9 mb_23 mb_455) rfl rfl rfl (by decide +kernel) ⟨Nat.le_of_ble_eq_true rfl, Nat.le_of_ble_eq_true rfl⟩) (pw_R_V (va_recv hK hP (ci := ciM) (q0 := 0) rfl rfl) hP hK) rfl rfl hl.1 rfl (lv_room (Nat.le_of_ble_eq_true rfl)) d_M_halved_50 ⟨Nat.le_of_ble_eq_true rfl, Nat.le_of_ble_eq_true rfl⟩) (fun r_50 hr_50 => ?_)
          subst hr_50
          refine lv_iload_n hx hb d_M_halved_53 rfl (lv_at hl 2 rfl) ?_
          refine pq_icmp_eq (tgt := 61) (a := ((f t).toNat)) (b := tk) hx hb d_M_halved_54 (by decide) (by have := pw_lt2 (f t); omega) (by omega) (fun c_54 => ?_) (fun c_54 => ?_)
          · refine lv_iconst (v := nI 0) hx hb d_M_halved_61 (by decide) ?_
            refine lv_istore_n (lv' := [(2, .int (nI (0))), (0, .ref o), (1, .int (nI (i))), (3, .int (nI (t)))]) hx hb d_M_halved_62 rfl hl (by decide) rfl (fun ls hl => ?_)
            refine lv_iinc (v := nI (t + 1)) (lv' := [(3, .int (nI (t + 1))), (2, .int (nI (0))), (0, .ref o), (1, .int (nI (i)))]) hx hb d_M_halved_63 hl (k := 3) rfl (pq_inc _) (by decide) rfl (fun ls hl => ?_)
            refine lv_goto (tgt := 4) hx hb d_M_halved_66 (by decide) ?_
            exact ih_4 (0) (t + 1) (upd bz t (vp_nar .boolean (nI (x)))) _ _ ls (by omega) (by omega) (pw_tkn htk (by omega)) (md_put hbz hx2) hP hD hS (lv_sub hl [2, 3, 1, 0] rfl)
          · refine lv_iconst (v := nI 1) hx hb d_M_halved_57 (by decide) ?_
            refine lv_goto (tgt := 62) hx hb d_M_halved_58 (by decide) ?_
            refine lv_istore_n (lv' := [(2, .int (nI (1))), (0, .ref o), (1, .int (nI (i))), (3, .int (nI (t)))]) hx hb d_M_halved_62 rfl hl (by decide) rfl (fun ls hl => ?_)
            refine lv_iinc (v := nI (t + 1)) (lv' := [(3, .int (nI (t + 1))), (2, .int (nI (1))), (0, .ref o), (1, .int (nI (i)))]) hx hb d_M_halved_63 hl (k := 3) rfl (pq_inc _) (by decide) rfl (fun ls hl => ?_)
            refine lv_goto (tgt := 4) hx hb d_M_halved_66 (by decide) ?_
            exact ih_4 (1) (t + 1) (upd bz t (vp_nar .boolean (nI (x)))) _ _ ls (by omega) (by omega) (pw_tkn htk (by omega)) (md_put hbz hx2) hP hD hS (lv_sub hl [2, 3, 1, 0] rfl)
        refine lv_aload_n hx hb d_M_halved_23 rfl (lv_at hl 0 rfl) ?_
        refine va_get (D := (dC, dI)) (ci := ciM) (v := .ref a5) (C := R_M) (T := F_M) (N := 9) hx hb hts (fun w h => List.mem_cons_of_mem _ (in_M w h)) hown hK hP 0 rfl rfl 6 (by decide) (hts (.fieldLink R_M 23 "PeriodWordsModel" "bits" "[Z") (List.mem_cons_of_mem _ mb_386)) (fun _ h9 => h9) rfl d_M_halved_24 ?_
        refine lv_iload_n hx hb d_M_halved_27 rfl (lv_at hl 3 rfl) ?_
        refine lv_aload_n hx hb d_M_halved_28 rfl (lv_at hl 0 rfl) ?_
        refine lv_iload_n hx hb d_M_halved_29 rfl (lv_at hl 1 rfl) ?_
        refine lv_iload_n hx hb d_M_halved_30 rfl (lv_at hl 3 rfl) ?_
        refine vp_callSi (W.runV (As := [.int (nI (i)), .int (nI (t))]) (rest := [.int (nI (t)), .ref a5]) ⟨hx, hb, hml, hown, hts⟩ (c_M_has l dC dI hmd (t := t) (by omega)) (cwV 2 hts (gd_V mb_452 mb_454 mb_9 mb_23 mb_455) rfl rfl rfl (by decide +kernel) ⟨Nat.le_of_ble_eq_true rfl, Nat.le_of_ble_eq_true rfl⟩) (pw_R_V (va_recv hK hP (ci := ciM) (q0 := 0) rfl rfl) hP hK) rfl rfl hl.1 rfl (lv_room (Nat.le_of_ble_eq_true rfl)) d_M_halved_31 ⟨Nat.le_of_ble_eq_true rfl, Nat.le_of_ble_eq_true rfl⟩) (fun r_31 hr_31 => ?_)
        subst hr_31
        refine pq_if_eq (tgt := 45) (a := ((f t).toNat)) hx hb d_M_halved_34 (by decide) (by have := pw_lt2 (f t); omega) (fun c_34 => ?_) (fun c_34 => ?_)
        · refine lv_iconst (v := nI 0) hx hb d_M_halved_45 (by decide) ?_
          exact B_46 (0) _ _ ls (by show _ = (f t && decide (pw_c f t % 2 = 0)).toNat; rcases pw_bt (f t) with q | q <;> rcases pw_bt (decide (pw_c f t % 2 = 0)) with q2 | q2 <;> rw [q.2, q2.2] <;> first | rfl | (exfalso; omega)) hP hD hS (lv_sub hl [0, 1, 2, 3] rfl)
        · refine lv_iload_n hx hb d_M_halved_37 rfl (lv_at hl 2 rfl) ?_
          refine pq_if_eq (tgt := 45) (a := tk) hx hb d_M_halved_38 (by decide) (by omega) (fun c_38 => ?_) (fun c_38 => ?_)
          · refine lv_iconst (v := nI 0) hx hb d_M_halved_45 (by decide) ?_
            exact B_46 (0) _ _ ls (by show _ = (f t && decide (pw_c f t % 2 = 0)).toNat; rcases pw_bt (f t) with q | q <;> rcases pw_bt (decide (pw_c f t % 2 = 0)) with q2 | q2 <;> rw [q.2, q2.2] <;> first | rfl | (exfalso; omega)) hP hD hS (lv_sub hl [0, 1, 2, 3] rfl)
          · refine lv_iconst (v := nI 1) hx hb d_M_halved_41 (by decide) ?_
            refine lv_goto (tgt := 46) hx hb d_M_halved_42 (by decide) ?_
            exact B_46 (1) _ _ ls (by show _ = (f t && decide (pw_c f t % 2 = 0)).toNat; rcases pw_bt (f t) with q | q <;> rcases pw_bt (decide (pw_c f t % 2 = 0)) with q2 | q2 <;> rw [q.2, q2.2] <;> first | rfl | (exfalso; omega)) hP hD hS (lv_sub hl [0, 1, 2, 3] rfl)
  exact B_4 _ (1) (0) (bs) _ _ ls (Nat.lt_succ_self _) (by omega) rfl (fun j hj => absurd hj (Nat.not_lt_zero j)) hP hD hS (lv_sub hl [2, 3, 1, 0] rfl)
end
section
/-! what the reference's calls need -/
def mdAll (xh yr : Nat → Int32) (xb yb : Nat → Int64) (n : Nat) (W : Nat → pw_V) : Prop := ∀ i, i < n → md_at xh yr xb yb i (W i).1 (W i).2.1 (W i).2.2
theorem pq_rt {a b : Nat} (ha : a < 1073741824) (hb : b < 1073741824) : (0 : Int32) ≤ nI a - nI b ↔ b ≤ a := by
  rw [Int32.le_iff_toInt_le, pk_sub_toInt ha hb, Int32.toInt_zero]
  omega
theorem pq_rt0 {a b : Nat} (ha : a < 1073741824) (hb : b < 1073741824) : nI a - nI b = 0 ↔ a = b := by
  rw [← Int32.toInt_inj, pk_sub_toInt ha hb, Int32.toInt_zero]
  omega
theorem pq_mx1 {m a b : Nat} (hm : m < 1073741824) (ha : a < 1073741824) (hb : b < 1073741824) (h : ¬ nI a - nI b ≤ nI m) : nI a - nI b = nI (max m (a - b)) := by
  rw [← pq_maxs hm ha hb, if_pos]
  rw [Int32.le_iff_toInt_le] at h
  rw [Int32.lt_iff_toInt_lt]
  omega
theorem pq_mx2 {m a b : Nat} (hm : m < 1073741824) (ha : a < 1073741824) (hb : b < 1073741824) (h : nI a - nI b ≤ nI m) : nI m = nI (max m (a - b)) := by
  rw [← pq_maxs hm ha hb, if_neg]
  rw [Int32.le_iff_toInt_le] at h
  rw [Int32.lt_iff_toInt_lt]
  omega
theorem pq_mn1 {m a b : Nat} (hm : m < 1073741824) (ha : a < 1073741824) (hb : b < 1073741824) (h : ¬ nI 0 - nI m ≤ nI a - nI b) : nI a - nI b = nI 0 - nI (max m (b - a)) := by
  rw [Int32.le_iff_toInt_le, pk_sub_toInt (by decide) hm, pk_sub_toInt ha hb] at h
  rw [← Int32.toInt_inj, pk_sub_toInt ha hb, pk_sub_toInt (by decide) (by omega)]
  omega
theorem pq_mn2 {m a b : Nat} (hm : m < 1073741824) (ha : a < 1073741824) (hb : b < 1073741824) (h : nI 0 - nI m ≤ nI a - nI b) : nI 0 - nI m = nI 0 - nI (max m (b - a)) := by
  rw [Int32.le_iff_toInt_le, pk_sub_toInt (by decide) hm, pk_sub_toInt ha hb] at h
  rw [← Int32.toInt_inj, pk_sub_toInt (by decide) hm, pk_sub_toInt (by decide) (by omega)]
  omega
theorem pq_neg0 {m : Nat} (hm : m < 1073741824) : -(nI 0 - nI m) = nI m := by
  have e : nI 0 - nI m = -nI m := by
    show 0 - nI m = _
    exact Int32.zero_sub (nI m)
  rw [e, Int32.neg_neg]
theorem pq_nm1 {m : Nat} (hm : m < 2147483648) : ¬ nI m = -1 := by
  intro h
  have a := nI_toInt hm
  rw [h] at a
  have b : (-1 : Int32).toInt = -1 := by decide
  omega
theorem pw_ks_bd (f g : Nat → Bool) (N : Nat) : pw_ks f g N ≤ N := pw_ks_le (fun n hn => by have := pw_c_le f n; omega)
theorem pw_ks_0 {f g : Nat → Bool} {N : Nat} : pw_ks f g N = 0 ↔ ∀ t, t ≤ N → pw_c f t ≤ pw_c g t := by
  constructor
  · intro h t ht
    have := pw_ks_ge f g ht
    omega
  · intro h
    have : pw_ks f g N ≤ 0 := pw_ks_le (fun n hn => by have := h n hn; omega)
    omega
theorem pw_md_many {f g : Nat → Bool} {h p h2 p2 : Nat} (E : pw_E f h p) (E2 : pw_E g h2 p2) (hh : h ≤ 60) (hh2 : h2 ≤ 60) (hp : 0 < p) (hp2 : 0 < p2) (ho : 0 < pw_o g h2 p2) (hr : pw_o g h2 p2 * p ≤ pw_o f h p * p2) : pw_md f g (61 + pw_o g h2 p2 * p) = pw_md f g (max (pw_c f h) (pw_c g h2) + pw_o f h p / Nat.gcd (pw_o f h p) (pw_o g h2 p2) * pw_o g h2 p2) := by
  have o1 := pw_oa hp ho hr
  obtain ⟨l1, l2, l3, l4⟩ := pw_lcm o1 ho
  have c1 := pw_c_le f h
  have c2 := pw_c_le g h2
  have c3 : pw_o f h p * pw_o g h2 p2 ≤ pw_o g h2 p2 * p := by
    rw [Nat.mul_comm]
    exact Nat.mul_le_mul_left _ (pw_o_le f h p)
  exact pw_md_st E E2 hp hp2 o1 ho (Nat.le_max_left _ _) (Nat.le_max_right _ _) l1 l2 l3 hr (by omega)
theorem pw_wt_u {v w : pw_V} {r r' : Int32} (h : pw_wt v w r) (h' : pw_wt v w r') : r = r' := by
  obtain ⟨a1, a2, a3, a4⟩ := h
  obtain ⟨b1, b2, b3, b4⟩ := h'
  rcases Nat.eq_zero_or_pos (pw_o w.2.2 w.1 w.2.1) with z | z
  · rcases Classical.em (0 < pw_o v.2.2 v.1 v.2.1 ∨ pw_c w.2.2 w.1 ≤ pw_c v.2.2 v.1) with y | y
    · rw [a1 z y, b1 z y]
    · rw [a2 z y, b2 z y]
  · rcases Nat.lt_or_ge (pw_o v.2.2 v.1 v.2.1 * w.2.1) (pw_o w.2.2 w.1 w.2.1 * v.2.1) with y | y
    · rw [a3 z y, b3 z y]
    · rw [a4 z y, b4 z y]
/-- STORE, MISSING, WAIT: a number, or none (an exception) -/
def sp_bt (v w : pw_V) (k : Int32) (res : Option Int32) : Prop :=
  (k = nI 2 ∧ ∃ d, pw_wt v w d ∧ ((d = -1 ∧ res = none) ∨ (d ≠ -1 ∧ res = some d))) ∨
  (k = nI 0 ∧ ((pw_o v.2.2 v.1 v.2.1 * w.2.1 = pw_o w.2.2 w.1 w.2.1 * v.2.1 ∧ res = some (nI (pw_ks v.2.2 w.2.2 (max v.1 w.1 + v.2.1 * w.2.1)))) ∨ (pw_o v.2.2 v.1 v.2.1 * w.2.1 ≠ pw_o w.2.2 w.1 w.2.1 * v.2.1 ∧ res = none))) ∨
  (k = nI 1 ∧ ((pw_o v.2.2 v.1 v.2.1 * w.2.1 = pw_o w.2.2 w.1 w.2.1 * v.2.1 ∧ res = some (nI (pw_ks w.2.2 v.2.2 (max v.1 w.1 + v.2.1 * w.2.1)))) ∨ (pw_o v.2.2 v.1 v.2.1 * w.2.1 ≠ pw_o w.2.2 w.1 w.2.1 * v.2.1 ∧ res = none)))
theorem pq_in3 {z : Int32} (h0 : ¬ z < nI 0) (h2 : ¬ nI 2 < z) : z = nI 0 ∨ z = nI 1 ∨ z = nI 2 := by
  have h : z ≤ nI 2 := by
    rw [Int32.le_iff_toInt_le]
    rw [Int32.lt_iff_toInt_lt] at h2
    omega
  obtain ⟨j, hj, rfl⟩ := nI_of2 (M := nI 2) (n := 2) (by decide) h0 h
  rcases (show j = 0 ∨ j = 1 ∨ j = 2 by omega) with rfl | rfl | rfl
  · exact Or.inl rfl
  · exact Or.inr (Or.inl rfl)
  · exact Or.inr (Or.inr rfl)
theorem pq_not_lt {a b : Int32} (h : ¬ a < b) : b ≤ a := by
  rw [Int32.le_iff_toInt_le]
  rw [Int32.lt_iff_toInt_lt] at h
  omega
end
section
set_option maxHeartbeats 4000000 in
set_option maxRecDepth 100000 in
theorem c_M_bit (l : Launch) (dC : Nat → ClassId) (dI : Nat → Nat → Nat) {sz : Nat} {o a1 a2 a3 a4 a5 : Nat} {c1 c2 c3 c4 c5 : ClassId} {th mo le : Int32} {n : Nat} {xh yr : Nat → Int32} {xb yb : Nat → Int64} {bs : Nat → Int32} {Wd : Nat → pw_V} (hn : n ≤ 40) (hall : mdAll xh yr xb yb n Wd) {x y : Int32} : Met l y_M_bit ws_M_bit ({ frames := 2, cells := 0, slots := 0, locals := 43 } : Room) (md_Pre [.ref o, .int (x), .int (y)] dC dI sz (mdT c1 c2 c3 c4 c5) (md o a1 a2 a3 a4 a5 c1 c2 c3 c4 c5 th n mo le xh yr xb yb bs)) (va_Qi (fun r u => sp_1 n x (fun i r => sp_far y (fun j => nI ((Wd i).2.2 j).toNat) r) (fun r => r = -1) r ∧ u = (nI 0, n, mo, le, xh, yr, xb, yb, bs)) (md_B dC dI (va_A (md o a1 a2 a3 a4 a5 c1 c2 c3 c4 c5 th n mo le xh yr xb yb bs) sz) o a1 a2 a3 a4 a5 c1 c2 c3 c4 c5) (va_A (md o a1 a2 a3 a4 a5 c1 c2 c3 c4 c5 th n mo le xh yr xb yb bs) sz)) 0 0 (va_A (md o a1 a2 a3 a4 a5 c1 c2 c3 c4 c5 th n mo le xh yr xb yb bs) sz) := by
  refine Met.ofW (cc := b_M_bit) (maxL := 3) (ret := (some .int)) (by decide) rfl ?_
  intro p e s m args below meth c s₁ B hml hv
  obtain ⟨rfl, hsz, hP, hK, hD0⟩ := hv
  have hx := B.exec
  have hb := B.bytes
  have hr := B.returns
  have hts := atoms_spec (ws := ws_M_bit) B.pre
  have hown : s.vm.findClass R_M = some m.cls := findClass_of_methodNamed B.named
  have hlocks := B.notSynchronized
  subst hsz
  have hD := hD0.self (sz := s.heap.size)
  generalize hAe : va_A (md o a1 a2 a3 a4 a5 c1 c2 c3 c4 c5 th n mo le xh yr xb yb bs) s.heap.size = A at hD ⊢
  have hA : ∀ q : Nat, s.heap.size ≤ q → A q := fun q h => by rw [← hAe]; exact Or.inr h
  have hS : va_S A s.heap s.heap [] := va_S.rf
  have hl := lv_entry ([.ref o, .int (x), .int (y)]) (n := 3) (Nat.le_of_ble_eq_true rfl)
  rw [lg_entry_eq]
  generalize (lg_sl ([.ref o, .int (x), .int (y)]) ++ List.replicate (3 - (lg_sl ([.ref o, .int (x), .int (y)])).length) Slot.unset).toArray = ls at hl ⊢
  have hl : lv_has ls 3 [(0, .ref o), (1, .int (x)), (2, .int (y))] := hl
  refine lv_aload_n hx hb d_M_bit_0 rfl (lv_at hl 0 rfl) ?_
  refine lv_iconst (v := nI 0) hx hb d_M_bit_1 (by decide) ?_
  refine va_put (D := (dC, dI)) (ci := ciM) (v := .int (nI (0))) (ty := .int) (C := R_M) (T := F_M) (N := 9) hx hb hts (fun w h => List.mem_cons_of_mem _ (in_M w h)) t_M t_M_ok n_M hown hK hP hD hS 0 rfl rfl 0 (by decide) (hts (.fieldLink R_M 27 "PeriodWordsModel" "thrown" "I") (List.mem_cons_of_mem _ mb_380)) (fun _ h9 => h9) rfl (by decide +kernel) rfl rfl (Nat.le_of_ble_eq_true rfl) d_M_bit_2 (fun H locs hP hD hS => ?_)
  have hP : va_P (dC, dI) vwCl [(o, .inr (ciM, [.int (nI (0)), .int (nI (n)), .ref a1, .ref a2, .ref a3, .ref a4, .ref a5, .int (mo), .int (le)])), (a1, .inl (c1, 40, .inl xh)), (a2, .inl (c2, 40, .inl yr)), (a3, .inl (c3, 40, .inr (.inl xb))), (a4, .inl (c4, 40, .inr (.inl yb))), (a5, .inl (c5, 7400, .inl bs))] H := hP
  have hD : va_D A [(o, .inr (ciM, [.int (nI (0)), .int (nI (n)), .ref a1, .ref a2, .ref a3, .ref a4, .ref a5, .int (mo), .int (le)])), (a1, .inl (c1, 40, .inl xh)), (a2, .inl (c2, 40, .inl yr)), (a3, .inl (c3, 40, .inr (.inl xb))), (a4, .inl (c4, 40, .inr (.inl yb))), (a5, .inl (c5, 7400, .inl bs))] := hD
  refine lv_aload_n hx hb d_M_bit_5 rfl (lv_at hl 0 rfl) ?_
  refine lv_iload_n hx hb d_M_bit_6 rfl (lv_at hl 1 rfl) ?_
  refine vp_callSi (W.runV (As := [.int (x)]) (rest := []) ⟨hx, hb, hml, hown, hts⟩ (c_M_isWord l dC dI hn (x := x)) (cwV 1 hts (gd_V mb_433 mb_435 mb_5 mb_23 mb_436) rfl rfl rfl (by decide +kernel) ⟨Nat.le_of_ble_eq_true rfl, Nat.le_of_ble_eq_true rfl⟩) (pw_R_V (va_recv hK hP (ci := ciM) (q0 := 0) rfl rfl) hP hK) rfl rfl hl.1 rfl (lv_room (Nat.le_of_ble_eq_true rfl)) d_M_bit_7 ⟨Nat.le_of_ble_eq_true rfl, Nat.le_of_ble_eq_true rfl⟩) (fun r_7 hr_7 => ?_)
  rcases hr_7 with ⟨hre, i1, hi1, hx1⟩ | ⟨hre, hno1⟩
  · subst hre
    rw [hx1] at hl
    have hmd1 := hall i1 hi1
    have hmd1_ := hmd1; obtain ⟨hj1, e11, e21, e31, e41, hok1⟩ := hmd1_; have hok1_ := hok1; obtain ⟨hh1, hp01, hp61, hE1⟩ := hok1_
    have ho1 := pw_o_le (Wd i1).2.2 (Wd i1).1 (Wd i1).2.1
    have hc1 := pw_c_le (Wd i1).2.2 (Wd i1).1
    have hb01 := pq_lt60 (pw_b_lt (Wd i1).2.2 0 (Wd i1).1) hh1
    have hb11 := pq_lt60 (pw_b_lt (Wd i1).2.2 (Wd i1).1 (Wd i1).2.1) hp61
    refine pq_if_eq (tgt := 40) (a := 1) hx hb d_M_bit_10 (by decide) (by omega) (fun c_10 => absurd c_10 (by omega)) (fun c_10 => ?_)
    refine lv_iload_n hx hb d_M_bit_13 rfl (lv_at hl 2 rfl) ?_
    refine lv_iconst (v := nI 0) hx hb d_M_bit_14 (by decide) ?_
    refine lv_ldc (v := nI 1000000000) hx hb hown (hts (.constant R_M 90 (nI 1000000000)) (List.mem_cons_of_mem _ mb_490)) d_M_bit_15 ?_
    refine vp_callSi (W.runS (As := [.int (y), .int (nI (0)), .int (nI (1000000000))]) (rest := []) ⟨hx, hb, hml, hown, hts⟩ (c_M_in l dC dI (x := y) (lo := nI 0) (hi := nI 1000000000)) (va_cwS 3 hts (gd_S mb_418 mb_419 mb_23 mb_420) rfl rfl rfl (by decide +kernel) ⟨Nat.le_of_ble_eq_true rfl, Nat.le_of_ble_eq_true rfl⟩) (pw_R_S pw_P0 (hK.sub [] rfl)) rfl rfl hl.1 rfl (lv_room (Nat.le_of_ble_eq_true rfl)) d_M_bit_17 ⟨Nat.le_of_ble_eq_true rfl, Nat.le_of_ble_eq_true rfl⟩) (fun r_17 hr_17 => ?_)
    rcases hr_17 with ⟨hre, hlo, hhi⟩ | ⟨hre, hnin⟩
    · subst hre
      obtain ⟨j, hj, hyj⟩ := pq_far hlo (pq_not_lt hhi)
      rw [hyj] at hl
      refine pq_if_eq (tgt := 40) (a := 1) hx hb d_M_bit_20 (by decide) (by omega) (fun c_20 => absurd c_20 (by omega)) (fun c_20 => ?_)
      refine lv_aload_n hx hb d_M_bit_23 rfl (lv_at hl 0 rfl) ?_
      refine lv_iload_n hx hb d_M_bit_24 rfl (lv_at hl 1 rfl) ?_
      refine lv_iload_n hx hb d_M_bit_25 rfl (lv_at hl 2 rfl) ?_
      refine vp_callSi (W.runV (As := [.int (nI (i1)), .int (nI (j))]) (rest := []) ⟨hx, hb, hml, hown, hts⟩ (c_M_has l dC dI hmd1 (t := j) (by omega)) (cwV 2 hts (gd_V mb_452 mb_454 mb_9 mb_23 mb_455) rfl rfl rfl (by decide +kernel) ⟨Nat.le_of_ble_eq_true rfl, Nat.le_of_ble_eq_true rfl⟩) (pw_R_V (va_recv hK hP (ci := ciM) (q0 := 0) rfl rfl) hP hK) rfl rfl hl.1 rfl (lv_room (Nat.le_of_ble_eq_true rfl)) d_M_bit_26 ⟨Nat.le_of_ble_eq_true rfl, Nat.le_of_ble_eq_true rfl⟩) (fun r_26 hr_26 => ?_)
      subst hr_26
      refine pq_if_eq (tgt := 36) (a := (((Wd i1).2.2 j).toNat)) hx hb d_M_bit_29 (by decide) (by have := pw_lt2 ((Wd i1).2.2 j); omega) (fun c_29 => ?_) (fun c_29 => ?_)
      · refine lv_iconst (v := nI 0) hx hb d_M_bit_36 (by decide) ?_
        refine lv_goto (tgt := 41) hx hb d_M_bit_37 (by decide) ?_
        exact W.iret (v := (nI (0))) hx hb hr (fun t_ ht_ hW_ => ⟨⟨_, (nI (0), n, mo, le, xh, yr, xb, yb, bs), rfl, ⟨Or.inl ⟨i1, hi1, hx1, Or.inl ⟨j, hj, hyj, by congr 1; have := pw_lt2 ((Wd i1).2.2 j); omega⟩⟩, rfl⟩, by rw [ht_]; exact hP, va_K.moved hW_.alike hK, hD⟩, hS.F ht_⟩) hS.2.2 d_M_bit_41
      · refine lv_iconst (v := nI 1) hx hb d_M_bit_32 (by decide) ?_
        refine lv_goto (tgt := 41) hx hb d_M_bit_33 (by decide) ?_
        exact W.iret (v := (nI (1))) hx hb hr (fun t_ ht_ hW_ => ⟨⟨_, (nI (0), n, mo, le, xh, yr, xb, yb, bs), rfl, ⟨Or.inl ⟨i1, hi1, hx1, Or.inl ⟨j, hj, hyj, by congr 1; have := pw_lt2 ((Wd i1).2.2 j); omega⟩⟩, rfl⟩, by rw [ht_]; exact hP, va_K.moved hW_.alike hK, hD⟩, hS.F ht_⟩) hS.2.2 d_M_bit_41
    · subst hre
      refine pq_if_eq (tgt := 40) (a := 0) hx hb d_M_bit_20 (by decide) (by omega) (fun c_20 => ?_) (fun c_20 => absurd c_20 (by omega))
      refine lv_iconst (v := (-1)) hx hb d_M_bit_40 (by decide) ?_
      exact W.iret (v := (-1)) hx hb hr (fun t_ ht_ hW_ => ⟨⟨_, (nI (0), n, mo, le, xh, yr, xb, yb, bs), rfl, ⟨Or.inl ⟨i1, hi1, hx1, Or.inr ⟨fun ⟨j, hj, e⟩ => hnin (by rw [e]; exact ⟨nI_pos (by omega), nI_nlt hj (by decide)⟩), rfl⟩⟩, rfl⟩, by rw [ht_]; exact hP, va_K.moved hW_.alike hK, hD⟩, hS.F ht_⟩) hS.2.2 d_M_bit_41
  · subst hre
    refine pq_if_eq (tgt := 40) (a := 0) hx hb d_M_bit_10 (by decide) (by omega) (fun c_10 => ?_) (fun c_10 => absurd c_10 (by omega))
    refine lv_iconst (v := (-1)) hx hb d_M_bit_40 (by decide) ?_
    exact W.iret (v := (-1)) hx hb hr (fun t_ ht_ hW_ => ⟨⟨_, (nI (0), n, mo, le, xh, yr, xb, yb, bs), rfl, ⟨Or.inr ⟨hno1, rfl⟩, rfl⟩, by rw [ht_]; exact hP, va_K.moved hW_.alike hK, hD⟩, hS.F ht_⟩) hS.2.2 d_M_bit_41
set_option maxHeartbeats 4000000 in
set_option maxRecDepth 100000 in
theorem c_M_ones (l : Launch) (dC : Nat → ClassId) (dI : Nat → Nat → Nat) {sz : Nat} {o a1 a2 a3 a4 a5 : Nat} {c1 c2 c3 c4 c5 : ClassId} {th mo le : Int32} {n : Nat} {xh yr : Nat → Int32} {xb yb : Nat → Int64} {bs : Nat → Int32} {Wd : Nat → pw_V} (hn : n ≤ 40) (hall : mdAll xh yr xb yb n Wd) {x y : Int32} : Met l y_M_ones ws_M_ones ({ frames := 3, cells := 0, slots := 0, locals := 68 } : Room) (md_Pre [.ref o, .int (x), .int (y)] dC dI sz (mdT c1 c2 c3 c4 c5) (md o a1 a2 a3 a4 a5 c1 c2 c3 c4 c5 th n mo le xh yr xb yb bs)) (va_Qi (fun r u => sp_1 n x (fun i r => sp_far y (fun j => nI (pw_c (Wd i).2.2 j)) r) (fun r => r = -1) r ∧ u = (nI 0, n, mo, le, xh, yr, xb, yb, bs)) (md_B dC dI (va_A (md o a1 a2 a3 a4 a5 c1 c2 c3 c4 c5 th n mo le xh yr xb yb bs) sz) o a1 a2 a3 a4 a5 c1 c2 c3 c4 c5) (va_A (md o a1 a2 a3 a4 a5 c1 c2 c3 c4 c5 th n mo le xh yr xb yb bs) sz)) 0 0 (va_A (md o a1 a2 a3 a4 a5 c1 c2 c3 c4 c5 th n mo le xh yr xb yb bs) sz) := by
  refine Met.ofW (cc := b_M_ones) (maxL := 3) (ret := (some .int)) (by decide) rfl ?_
  intro p e s m args below meth c s₁ B hml hv
  obtain ⟨rfl, hsz, hP, hK, hD0⟩ := hv
  have hx := B.exec
  have hb := B.bytes
  have hr := B.returns
  have hts := atoms_spec (ws := ws_M_ones) B.pre
  have hown : s.vm.findClass R_M = some m.cls := findClass_of_methodNamed B.named
  have hlocks := B.notSynchronized
  subst hsz
  have hD := hD0.self (sz := s.heap.size)
  generalize hAe : va_A (md o a1 a2 a3 a4 a5 c1 c2 c3 c4 c5 th n mo le xh yr xb yb bs) s.heap.size = A at hD ⊢
  have hA : ∀ q : Nat, s.heap.size ≤ q → A q := fun q h => by rw [← hAe]; exact Or.inr h
  have hS : va_S A s.heap s.heap [] := va_S.rf
  have hl := lv_entry ([.ref o, .int (x), .int (y)]) (n := 3) (Nat.le_of_ble_eq_true rfl)
  rw [lg_entry_eq]
  generalize (lg_sl ([.ref o, .int (x), .int (y)]) ++ List.replicate (3 - (lg_sl ([.ref o, .int (x), .int (y)])).length) Slot.unset).toArray = ls at hl ⊢
  have hl : lv_has ls 3 [(0, .ref o), (1, .int (x)), (2, .int (y))] := hl
  refine lv_aload_n hx hb d_M_ones_0 rfl (lv_at hl 0 rfl) ?_
  refine lv_iconst (v := nI 0) hx hb d_M_ones_1 (by decide) ?_
  refine va_put (D := (dC, dI)) (ci := ciM) (v := .int (nI (0))) (ty := .int) (C := R_M) (T := F_M) (N := 9) hx hb hts (fun w h => List.mem_cons_of_mem _ (in_M w h)) t_M t_M_ok n_M hown hK hP hD hS 0 rfl rfl 0 (by decide) (hts (.fieldLink R_M 27 "PeriodWordsModel" "thrown" "I") (List.mem_cons_of_mem _ mb_380)) (fun _ h9 => h9) rfl (by decide +kernel) rfl rfl (Nat.le_of_ble_eq_true rfl) d_M_ones_2 (fun H locs hP hD hS => ?_)
  have hP : va_P (dC, dI) vwCl [(o, .inr (ciM, [.int (nI (0)), .int (nI (n)), .ref a1, .ref a2, .ref a3, .ref a4, .ref a5, .int (mo), .int (le)])), (a1, .inl (c1, 40, .inl xh)), (a2, .inl (c2, 40, .inl yr)), (a3, .inl (c3, 40, .inr (.inl xb))), (a4, .inl (c4, 40, .inr (.inl yb))), (a5, .inl (c5, 7400, .inl bs))] H := hP
  have hD : va_D A [(o, .inr (ciM, [.int (nI (0)), .int (nI (n)), .ref a1, .ref a2, .ref a3, .ref a4, .ref a5, .int (mo), .int (le)])), (a1, .inl (c1, 40, .inl xh)), (a2, .inl (c2, 40, .inl yr)), (a3, .inl (c3, 40, .inr (.inl xb))), (a4, .inl (c4, 40, .inr (.inl yb))), (a5, .inl (c5, 7400, .inl bs))] := hD
  refine lv_aload_n hx hb d_M_ones_5 rfl (lv_at hl 0 rfl) ?_
  refine lv_iload_n hx hb d_M_ones_6 rfl (lv_at hl 1 rfl) ?_
  refine vp_callSi (W.runV (As := [.int (x)]) (rest := []) ⟨hx, hb, hml, hown, hts⟩ (c_M_isWord l dC dI hn (x := x)) (cwV 1 hts (gd_V mb_433 mb_435 mb_5 mb_23 mb_436) rfl rfl rfl (by decide +kernel) ⟨Nat.le_of_ble_eq_true rfl, Nat.le_of_ble_eq_true rfl⟩) (pw_R_V (va_recv hK hP (ci := ciM) (q0 := 0) rfl rfl) hP hK) rfl rfl hl.1 rfl (lv_room (Nat.le_of_ble_eq_true rfl)) d_M_ones_7 ⟨Nat.le_of_ble_eq_true rfl, Nat.le_of_ble_eq_true rfl⟩) (fun r_7 hr_7 => ?_)
  rcases hr_7 with ⟨hre, i1, hi1, hx1⟩ | ⟨hre, hno1⟩
  · subst hre
    rw [hx1] at hl
    have hmd1 := hall i1 hi1
    have hmd1_ := hmd1; obtain ⟨hj1, e11, e21, e31, e41, hok1⟩ := hmd1_; have hok1_ := hok1; obtain ⟨hh1, hp01, hp61, hE1⟩ := hok1_
    have ho1 := pw_o_le (Wd i1).2.2 (Wd i1).1 (Wd i1).2.1
    have hc1 := pw_c_le (Wd i1).2.2 (Wd i1).1
    have hb01 := pq_lt60 (pw_b_lt (Wd i1).2.2 0 (Wd i1).1) hh1
    have hb11 := pq_lt60 (pw_b_lt (Wd i1).2.2 (Wd i1).1 (Wd i1).2.1) hp61
    refine pq_if_eq (tgt := 32) (a := 1) hx hb d_M_ones_10 (by decide) (by omega) (fun c_10 => absurd c_10 (by omega)) (fun c_10 => ?_)
    refine lv_iload_n hx hb d_M_ones_13 rfl (lv_at hl 2 rfl) ?_
    refine lv_iconst (v := nI 0) hx hb d_M_ones_14 (by decide) ?_
    refine lv_ldc (v := nI 1000000000) hx hb hown (hts (.constant R_M 90 (nI 1000000000)) (List.mem_cons_of_mem _ mb_490)) d_M_ones_15 ?_
    refine vp_callSi (W.runS (As := [.int (y), .int (nI (0)), .int (nI (1000000000))]) (rest := []) ⟨hx, hb, hml, hown, hts⟩ (c_M_in l dC dI (x := y) (lo := nI 0) (hi := nI 1000000000)) (va_cwS 3 hts (gd_S mb_418 mb_419 mb_23 mb_420) rfl rfl rfl (by decide +kernel) ⟨Nat.le_of_ble_eq_true rfl, Nat.le_of_ble_eq_true rfl⟩) (pw_R_S pw_P0 (hK.sub [] rfl)) rfl rfl hl.1 rfl (lv_room (Nat.le_of_ble_eq_true rfl)) d_M_ones_17 ⟨Nat.le_of_ble_eq_true rfl, Nat.le_of_ble_eq_true rfl⟩) (fun r_17 hr_17 => ?_)
    rcases hr_17 with ⟨hre, hlo, hhi⟩ | ⟨hre, hnin⟩
    · subst hre
      obtain ⟨j, hj, hyj⟩ := pq_far hlo (pq_not_lt hhi)
      rw [hyj] at hl
      refine pq_if_eq (tgt := 32) (a := 1) hx hb d_M_ones_20 (by decide) (by omega) (fun c_20 => absurd c_20 (by omega)) (fun c_20 => ?_)
      refine lv_aload_n hx hb d_M_ones_23 rfl (lv_at hl 0 rfl) ?_
      refine lv_iload_n hx hb d_M_ones_24 rfl (lv_at hl 1 rfl) ?_
      refine lv_iload_n hx hb d_M_ones_25 rfl (lv_at hl 2 rfl) ?_
      refine vp_callSi (W.runV (As := [.int (nI (i1)), .int (nI (j))]) (rest := []) ⟨hx, hb, hml, hown, hts⟩ (c_M_onesAhead l dC dI hmd1 (t := j) (by omega)) (cwV 2 hts (gd_V mb_495 mb_497 mb_15 mb_23 mb_498) rfl rfl rfl (by decide +kernel) ⟨Nat.le_of_ble_eq_true rfl, Nat.le_of_ble_eq_true rfl⟩) (pw_R_V (va_recv hK hP (ci := ciM) (q0 := 0) rfl rfl) hP hK) rfl rfl hl.1 rfl (lv_room (Nat.le_of_ble_eq_true rfl)) d_M_ones_26 ⟨Nat.le_of_ble_eq_true rfl, Nat.le_of_ble_eq_true rfl⟩) (fun r_26 hr_26 => ?_)
      subst hr_26
      refine lv_goto (tgt := 33) hx hb d_M_ones_29 (by decide) ?_
      exact W.iret (v := (nI (pw_c (Wd i1).2.2 j))) hx hb hr (fun t_ ht_ hW_ => ⟨⟨_, (nI (0), n, mo, le, xh, yr, xb, yb, bs), rfl, ⟨Or.inl ⟨i1, hi1, hx1, Or.inl ⟨j, hj, hyj, rfl⟩⟩, rfl⟩, by rw [ht_]; exact hP, va_K.moved hW_.alike hK, hD⟩, hS.F ht_⟩) hS.2.2 d_M_ones_33
    · subst hre
      refine pq_if_eq (tgt := 32) (a := 0) hx hb d_M_ones_20 (by decide) (by omega) (fun c_20 => ?_) (fun c_20 => absurd c_20 (by omega))
      refine lv_iconst (v := (-1)) hx hb d_M_ones_32 (by decide) ?_
      exact W.iret (v := (-1)) hx hb hr (fun t_ ht_ hW_ => ⟨⟨_, (nI (0), n, mo, le, xh, yr, xb, yb, bs), rfl, ⟨Or.inl ⟨i1, hi1, hx1, Or.inr ⟨fun ⟨j, hj, e⟩ => hnin (by rw [e]; exact ⟨nI_pos (by omega), nI_nlt hj (by decide)⟩), rfl⟩⟩, rfl⟩, by rw [ht_]; exact hP, va_K.moved hW_.alike hK, hD⟩, hS.F ht_⟩) hS.2.2 d_M_ones_33
  · subst hre
    refine pq_if_eq (tgt := 32) (a := 0) hx hb d_M_ones_10 (by decide) (by omega) (fun c_10 => ?_) (fun c_10 => absurd c_10 (by omega))
    refine lv_iconst (v := (-1)) hx hb d_M_ones_32 (by decide) ?_
    exact W.iret (v := (-1)) hx hb hr (fun t_ ht_ hW_ => ⟨⟨_, (nI (0), n, mo, le, xh, yr, xb, yb, bs), rfl, ⟨Or.inr ⟨hno1, rfl⟩, rfl⟩, by rw [ht_]; exact hP, va_K.moved hW_.alike hK, hD⟩, hS.F ht_⟩) hS.2.2 d_M_ones_33
set_option maxHeartbeats 4000000 in
set_option maxRecDepth 100000 in
theorem c_M_total (l : Launch) (dC : Nat → ClassId) (dI : Nat → Nat → Nat) {sz : Nat} {o a1 a2 a3 a4 a5 : Nat} {c1 c2 c3 c4 c5 : ClassId} {th mo le : Int32} {n : Nat} {xh yr : Nat → Int32} {xb yb : Nat → Int64} {bs : Nat → Int32} : Met l y_M_total ws_M_total ({ frames := 0, cells := 0, slots := 0, locals := 0 } : Room) (md_Pre [.ref o] dC dI sz (mdT c1 c2 c3 c4 c5) (md o a1 a2 a3 a4 a5 c1 c2 c3 c4 c5 th n mo le xh yr xb yb bs)) (va_Qi (fun r u => r = nI n ∧ u = (nI 0, n, mo, le, xh, yr, xb, yb, bs)) (md_B dC dI (va_A (md o a1 a2 a3 a4 a5 c1 c2 c3 c4 c5 th n mo le xh yr xb yb bs) sz) o a1 a2 a3 a4 a5 c1 c2 c3 c4 c5) (va_A (md o a1 a2 a3 a4 a5 c1 c2 c3 c4 c5 th n mo le xh yr xb yb bs) sz)) 0 0 (va_A (md o a1 a2 a3 a4 a5 c1 c2 c3 c4 c5 th n mo le xh yr xb yb bs) sz) := by
  refine Met.ofW (cc := b_M_total) (maxL := 1) (ret := (some .int)) (by decide) rfl ?_
  intro p e s m args below meth c s₁ B hml hv
  obtain ⟨rfl, hsz, hP, hK, hD0⟩ := hv
  have hx := B.exec
  have hb := B.bytes
  have hr := B.returns
  have hts := atoms_spec (ws := ws_M_total) B.pre
  have hown : s.vm.findClass R_M = some m.cls := findClass_of_methodNamed B.named
  have hlocks := B.notSynchronized
  subst hsz
  have hD := hD0.self (sz := s.heap.size)
  generalize hAe : va_A (md o a1 a2 a3 a4 a5 c1 c2 c3 c4 c5 th n mo le xh yr xb yb bs) s.heap.size = A at hD ⊢
  have hA : ∀ q : Nat, s.heap.size ≤ q → A q := fun q h => by rw [← hAe]; exact Or.inr h
  have hS : va_S A s.heap s.heap [] := va_S.rf
  have hl := lv_entry ([.ref o]) (n := 1) (Nat.le_of_ble_eq_true rfl)
  rw [lg_entry_eq]
  generalize (lg_sl ([.ref o]) ++ List.replicate (1 - (lg_sl ([.ref o])).length) Slot.unset).toArray = ls at hl ⊢
  have hl : lv_has ls 1 [(0, .ref o)] := hl
  refine lv_aload_n hx hb d_M_total_0 rfl (lv_at hl 0 rfl) ?_
  refine lv_iconst (v := nI 0) hx hb d_M_total_1 (by decide) ?_
  refine va_put (D := (dC, dI)) (ci := ciM) (v := .int (nI (0))) (ty := .int) (C := R_M) (T := F_M) (N := 9) hx hb hts (fun w h => List.mem_cons_of_mem _ (in_M w h)) t_M t_M_ok n_M hown hK hP hD hS 0 rfl rfl 0 (by decide) (hts (.fieldLink R_M 27 "PeriodWordsModel" "thrown" "I") (List.mem_cons_of_mem _ mb_380)) (fun _ h9 => h9) rfl (by decide +kernel) rfl rfl (Nat.le_of_ble_eq_true rfl) d_M_total_2 (fun H locs hP hD hS => ?_)
  have hP : va_P (dC, dI) vwCl [(o, .inr (ciM, [.int (nI (0)), .int (nI (n)), .ref a1, .ref a2, .ref a3, .ref a4, .ref a5, .int (mo), .int (le)])), (a1, .inl (c1, 40, .inl xh)), (a2, .inl (c2, 40, .inl yr)), (a3, .inl (c3, 40, .inr (.inl xb))), (a4, .inl (c4, 40, .inr (.inl yb))), (a5, .inl (c5, 7400, .inl bs))] H := hP
  have hD : va_D A [(o, .inr (ciM, [.int (nI (0)), .int (nI (n)), .ref a1, .ref a2, .ref a3, .ref a4, .ref a5, .int (mo), .int (le)])), (a1, .inl (c1, 40, .inl xh)), (a2, .inl (c2, 40, .inl yr)), (a3, .inl (c3, 40, .inr (.inl xb))), (a4, .inl (c4, 40, .inr (.inl yb))), (a5, .inl (c5, 7400, .inl bs))] := hD
  refine lv_aload_n hx hb d_M_total_5 rfl (lv_at hl 0 rfl) ?_
  refine va_get (D := (dC, dI)) (ci := ciM) (v := .int (nI (n))) (C := R_M) (T := F_M) (N := 9) hx hb hts (fun w h => List.mem_cons_of_mem _ (in_M w h)) hown hK hP 0 rfl rfl 1 (by decide) (hts (.fieldLink R_M 31 "PeriodWordsModel" "words" "I") (List.mem_cons_of_mem _ mb_381)) (fun _ h9 => h9) rfl d_M_total_6 ?_
  exact W.iret (v := (nI (n))) hx hb hr (fun t_ ht_ hW_ => ⟨⟨_, (nI (0), n, mo, le, xh, yr, xb, yb, bs), rfl, ⟨rfl, rfl⟩, by rw [ht_]; exact hP, va_K.moved hW_.alike hK, hD⟩, hS.F ht_⟩) hS.2.2 d_M_total_9
set_option maxHeartbeats 4000000 in
set_option maxRecDepth 100000 in
theorem c_M_clear (l : Launch) (dC : Nat → ClassId) (dI : Nat → Nat → Nat) {sz : Nat} {o a1 a2 a3 a4 a5 : Nat} {c1 c2 c3 c4 c5 : ClassId} {th mo le : Int32} {n : Nat} {xh yr : Nat → Int32} {xb yb : Nat → Int64} {bs : Nat → Int32} : Met l y_M_clear ws_M_clear ({ frames := 0, cells := 0, slots := 0, locals := 0 } : Room) (md_Pre [.ref o] dC dI sz (mdT c1 c2 c3 c4 c5) (md o a1 a2 a3 a4 a5 c1 c2 c3 c4 c5 th n mo le xh yr xb yb bs)) (va_Qv (fun u => u = (nI 0, 0, mo, le, xh, yr, xb, yb, bs)) (md_B dC dI (va_A (md o a1 a2 a3 a4 a5 c1 c2 c3 c4 c5 th n mo le xh yr xb yb bs) sz) o a1 a2 a3 a4 a5 c1 c2 c3 c4 c5) (va_A (md o a1 a2 a3 a4 a5 c1 c2 c3 c4 c5 th n mo le xh yr xb yb bs) sz)) 0 0 (va_A (md o a1 a2 a3 a4 a5 c1 c2 c3 c4 c5 th n mo le xh yr xb yb bs) sz) := by
  refine Met.ofW (cc := b_M_clear) (maxL := 1) (ret := none) (by decide) rfl ?_
  intro p e s m args below meth c s₁ B hml hv
  obtain ⟨rfl, hsz, hP, hK, hD0⟩ := hv
  have hx := B.exec
  have hb := B.bytes
  have hr := B.returns
  have hts := atoms_spec (ws := ws_M_clear) B.pre
  have hown : s.vm.findClass R_M = some m.cls := findClass_of_methodNamed B.named
  have hlocks := B.notSynchronized
  subst hsz
  have hD := hD0.self (sz := s.heap.size)
  generalize hAe : va_A (md o a1 a2 a3 a4 a5 c1 c2 c3 c4 c5 th n mo le xh yr xb yb bs) s.heap.size = A at hD ⊢
  have hA : ∀ q : Nat, s.heap.size ≤ q → A q := fun q h => by rw [← hAe]; exact Or.inr h
  have hS : va_S A s.heap s.heap [] := va_S.rf
  have hl := lv_entry ([.ref o]) (n := 1) (Nat.le_of_ble_eq_true rfl)
  rw [lg_entry_eq]
  generalize (lg_sl ([.ref o]) ++ List.replicate (1 - (lg_sl ([.ref o])).length) Slot.unset).toArray = ls at hl ⊢
  have hl : lv_has ls 1 [(0, .ref o)] := hl
  refine lv_aload_n hx hb d_M_clear_0 rfl (lv_at hl 0 rfl) ?_
  refine lv_iconst (v := nI 0) hx hb d_M_clear_1 (by decide) ?_
  refine va_put (D := (dC, dI)) (ci := ciM) (v := .int (nI (0))) (ty := .int) (C := R_M) (T := F_M) (N := 9) hx hb hts (fun w h => List.mem_cons_of_mem _ (in_M w h)) t_M t_M_ok n_M hown hK hP hD hS 0 rfl rfl 0 (by decide) (hts (.fieldLink R_M 27 "PeriodWordsModel" "thrown" "I") (List.mem_cons_of_mem _ mb_380)) (fun _ h9 => h9) rfl (by decide +kernel) rfl rfl (Nat.le_of_ble_eq_true rfl) d_M_clear_2 (fun H locs hP hD hS => ?_)
  have hP : va_P (dC, dI) vwCl [(o, .inr (ciM, [.int (nI (0)), .int (nI (n)), .ref a1, .ref a2, .ref a3, .ref a4, .ref a5, .int (mo), .int (le)])), (a1, .inl (c1, 40, .inl xh)), (a2, .inl (c2, 40, .inl yr)), (a3, .inl (c3, 40, .inr (.inl xb))), (a4, .inl (c4, 40, .inr (.inl yb))), (a5, .inl (c5, 7400, .inl bs))] H := hP
  have hD : va_D A [(o, .inr (ciM, [.int (nI (0)), .int (nI (n)), .ref a1, .ref a2, .ref a3, .ref a4, .ref a5, .int (mo), .int (le)])), (a1, .inl (c1, 40, .inl xh)), (a2, .inl (c2, 40, .inl yr)), (a3, .inl (c3, 40, .inr (.inl xb))), (a4, .inl (c4, 40, .inr (.inl yb))), (a5, .inl (c5, 7400, .inl bs))] := hD
  refine lv_aload_n hx hb d_M_clear_5 rfl (lv_at hl 0 rfl) ?_
  refine lv_iconst (v := nI 0) hx hb d_M_clear_6 (by decide) ?_
  refine va_put (D := (dC, dI)) (ci := ciM) (v := .int (nI (0))) (ty := .int) (C := R_M) (T := F_M) (N := 9) hx hb hts (fun w h => List.mem_cons_of_mem _ (in_M w h)) t_M t_M_ok n_M hown hK hP hD hS 0 rfl rfl 1 (by decide) (hts (.fieldLink R_M 31 "PeriodWordsModel" "words" "I") (List.mem_cons_of_mem _ mb_381)) (fun _ h9 => h9) rfl (by decide +kernel) rfl rfl (Nat.le_of_ble_eq_true rfl) d_M_clear_7 (fun H locs hP hD hS => ?_)
  have hP : va_P (dC, dI) vwCl [(o, .inr (ciM, [.int (nI (0)), .int (nI (0)), .ref a1, .ref a2, .ref a3, .ref a4, .ref a5, .int (mo), .int (le)])), (a1, .inl (c1, 40, .inl xh)), (a2, .inl (c2, 40, .inl yr)), (a3, .inl (c3, 40, .inr (.inl xb))), (a4, .inl (c4, 40, .inr (.inl yb))), (a5, .inl (c5, 7400, .inl bs))] H := hP
  have hD : va_D A [(o, .inr (ciM, [.int (nI (0)), .int (nI (0)), .ref a1, .ref a2, .ref a3, .ref a4, .ref a5, .int (mo), .int (le)])), (a1, .inl (c1, 40, .inl xh)), (a2, .inl (c2, 40, .inl yr)), (a3, .inl (c3, 40, .inr (.inl xb))), (a4, .inl (c4, 40, .inr (.inl yb))), (a5, .inl (c5, 7400, .inl bs))] := hD
  exact W.vret hx hb hr (fun t_ ht_ hW_ => ⟨⟨(nI (0), 0, mo, le, xh, yr, xb, yb, bs), rfl, rfl, by rw [ht_]; exact hP, va_K.moved hW_.alike hK, hD⟩, hS.F ht_⟩) hS.2.2 d_M_clear_10
set_option maxHeartbeats 4000000 in
set_option maxRecDepth 100000 in
theorem c_M_raise (l : Launch) (dC : Nat → ClassId) (dI : Nat → Nat → Nat) {sz : Nat} {o a1 a2 a3 a4 a5 : Nat} {c1 c2 c3 c4 c5 : ClassId} {th mo le : Int32} {n : Nat} {xh yr : Nat → Int32} {xb yb : Nat → Int64} {bs : Nat → Int32} : Met l y_M_raise ws_M_raise ({ frames := 0, cells := 0, slots := 0, locals := 0 } : Room) (md_Pre [.ref o] dC dI sz (mdT c1 c2 c3 c4 c5) (md o a1 a2 a3 a4 a5 c1 c2 c3 c4 c5 th n mo le xh yr xb yb bs)) (va_Qi (fun r u => r = nI 0 ∧ u = (nI 1, n, mo, le, xh, yr, xb, yb, bs)) (md_B dC dI (va_A (md o a1 a2 a3 a4 a5 c1 c2 c3 c4 c5 th n mo le xh yr xb yb bs) sz) o a1 a2 a3 a4 a5 c1 c2 c3 c4 c5) (va_A (md o a1 a2 a3 a4 a5 c1 c2 c3 c4 c5 th n mo le xh yr xb yb bs) sz)) 0 0 (va_A (md o a1 a2 a3 a4 a5 c1 c2 c3 c4 c5 th n mo le xh yr xb yb bs) sz) := by
  refine Met.ofW (cc := b_M_raise) (maxL := 1) (ret := (some .int)) (by decide) rfl ?_
  intro p e s m args below meth c s₁ B hml hv
  obtain ⟨rfl, hsz, hP, hK, hD0⟩ := hv
  have hx := B.exec
  have hb := B.bytes
  have hr := B.returns
  have hts := atoms_spec (ws := ws_M_raise) B.pre
  have hown : s.vm.findClass R_M = some m.cls := findClass_of_methodNamed B.named
  have hlocks := B.notSynchronized
  subst hsz
  have hD := hD0.self (sz := s.heap.size)
  generalize hAe : va_A (md o a1 a2 a3 a4 a5 c1 c2 c3 c4 c5 th n mo le xh yr xb yb bs) s.heap.size = A at hD ⊢
  have hA : ∀ q : Nat, s.heap.size ≤ q → A q := fun q h => by rw [← hAe]; exact Or.inr h
  have hS : va_S A s.heap s.heap [] := va_S.rf
  have hl := lv_entry ([.ref o]) (n := 1) (Nat.le_of_ble_eq_true rfl)
  rw [lg_entry_eq]
  generalize (lg_sl ([.ref o]) ++ List.replicate (1 - (lg_sl ([.ref o])).length) Slot.unset).toArray = ls at hl ⊢
  have hl : lv_has ls 1 [(0, .ref o)] := hl
  refine lv_aload_n hx hb d_M_raise_0 rfl (lv_at hl 0 rfl) ?_
  refine lv_iconst (v := nI 1) hx hb d_M_raise_1 (by decide) ?_
  refine va_put (D := (dC, dI)) (ci := ciM) (v := .int (nI (1))) (ty := .int) (C := R_M) (T := F_M) (N := 9) hx hb hts (fun w h => List.mem_cons_of_mem _ (in_M w h)) t_M t_M_ok n_M hown hK hP hD hS 0 rfl rfl 0 (by decide) (hts (.fieldLink R_M 27 "PeriodWordsModel" "thrown" "I") (List.mem_cons_of_mem _ mb_380)) (fun _ h9 => h9) rfl (by decide +kernel) rfl rfl (Nat.le_of_ble_eq_true rfl) d_M_raise_2 (fun H locs hP hD hS => ?_)
  have hP : va_P (dC, dI) vwCl [(o, .inr (ciM, [.int (nI (1)), .int (nI (n)), .ref a1, .ref a2, .ref a3, .ref a4, .ref a5, .int (mo), .int (le)])), (a1, .inl (c1, 40, .inl xh)), (a2, .inl (c2, 40, .inl yr)), (a3, .inl (c3, 40, .inr (.inl xb))), (a4, .inl (c4, 40, .inr (.inl yb))), (a5, .inl (c5, 7400, .inl bs))] H := hP
  have hD : va_D A [(o, .inr (ciM, [.int (nI (1)), .int (nI (n)), .ref a1, .ref a2, .ref a3, .ref a4, .ref a5, .int (mo), .int (le)])), (a1, .inl (c1, 40, .inl xh)), (a2, .inl (c2, 40, .inl yr)), (a3, .inl (c3, 40, .inr (.inl xb))), (a4, .inl (c4, 40, .inr (.inl yb))), (a5, .inl (c5, 7400, .inl bs))] := hD
  refine lv_iconst (v := nI 0) hx hb d_M_raise_5 (by decide) ?_
  exact W.iret (v := (nI (0))) hx hb hr (fun t_ ht_ hW_ => ⟨⟨_, (nI (1), n, mo, le, xh, yr, xb, yb, bs), rfl, ⟨rfl, rfl⟩, by rw [ht_]; exact hP, va_K.moved hW_.alike hK, hD⟩, hS.F ht_⟩) hS.2.2 d_M_raise_6
set_option maxHeartbeats 4000000 in
set_option maxRecDepth 100000 in
theorem c_M_form (l : Launch) (dC : Nat → ClassId) (dI : Nat → Nat → Nat) {sz : Nat} {o a1 a2 a3 a4 a5 : Nat} {c1 c2 c3 c4 c5 : ClassId} {th mo le : Int32} {n : Nat} {xh yr : Nat → Int32} {xb yb : Nat → Int64} {bs : Nat → Int32} {Wd : Nat → pw_V} (hn : n ≤ 40) (hall : mdAll xh yr xb yb n Wd) {x y : Int32} : Met l y_M_form ws_M_form ({ frames := 2, cells := 0, slots := 0, locals := 45 } : Room) (md_Pre [.ref o, .int (x), .int (y)] dC dI sz (mdT c1 c2 c3 c4 c5) (md o a1 a2 a3 a4 a5 c1 c2 c3 c4 c5 th n mo le xh yr xb yb bs)) (va_Qi (fun r u => sp_1 n x (fun i r => sp_form (Wd i) y r) (fun r => r = -1) r ∧ u = (nI 0, n, mo, le, xh, yr, xb, yb, bs)) (md_B dC dI (va_A (md o a1 a2 a3 a4 a5 c1 c2 c3 c4 c5 th n mo le xh yr xb yb bs) sz) o a1 a2 a3 a4 a5 c1 c2 c3 c4 c5) (va_A (md o a1 a2 a3 a4 a5 c1 c2 c3 c4 c5 th n mo le xh yr xb yb bs) sz)) 0 0 (va_A (md o a1 a2 a3 a4 a5 c1 c2 c3 c4 c5 th n mo le xh yr xb yb bs) sz) := by
  refine Met.ofW (cc := b_M_form) (maxL := 5) (ret := (some .int)) (by decide) rfl ?_
  intro p e s m args below meth c s₁ B hml hv
  obtain ⟨rfl, hsz, hP, hK, hD0⟩ := hv
  have hx := B.exec
  have hb := B.bytes
  have hr := B.returns
  have hts := atoms_spec (ws := ws_M_form) B.pre
  have hown : s.vm.findClass R_M = some m.cls := findClass_of_methodNamed B.named
  have hlocks := B.notSynchronized
  subst hsz
  have hD := hD0.self (sz := s.heap.size)
  generalize hAe : va_A (md o a1 a2 a3 a4 a5 c1 c2 c3 c4 c5 th n mo le xh yr xb yb bs) s.heap.size = A at hD ⊢
  have hA : ∀ q : Nat, s.heap.size ≤ q → A q := fun q h => by rw [← hAe]; exact Or.inr h
  have hS : va_S A s.heap s.heap [] := va_S.rf
  have hl := lv_entry ([.ref o, .int (x), .int (y)]) (n := 5) (Nat.le_of_ble_eq_true rfl)
  rw [lg_entry_eq]
  generalize (lg_sl ([.ref o, .int (x), .int (y)]) ++ List.replicate (5 - (lg_sl ([.ref o, .int (x), .int (y)])).length) Slot.unset).toArray = ls at hl ⊢
  have hl : lv_has ls 5 [(0, .ref o), (1, .int (x)), (2, .int (y))] := hl
  refine lv_aload_n hx hb d_M_form_0 rfl (lv_at hl 0 rfl) ?_
  refine lv_iconst (v := nI 0) hx hb d_M_form_1 (by decide) ?_
  refine va_put (D := (dC, dI)) (ci := ciM) (v := .int (nI (0))) (ty := .int) (C := R_M) (T := F_M) (N := 9) hx hb hts (fun w h => List.mem_cons_of_mem _ (in_M w h)) t_M t_M_ok n_M hown hK hP hD hS 0 rfl rfl 0 (by decide) (hts (.fieldLink R_M 27 "PeriodWordsModel" "thrown" "I") (List.mem_cons_of_mem _ mb_380)) (fun _ h9 => h9) rfl (by decide +kernel) rfl rfl (Nat.le_of_ble_eq_true rfl) d_M_form_2 (fun H locs hP hD hS => ?_)
  have hP : va_P (dC, dI) vwCl [(o, .inr (ciM, [.int (nI (0)), .int (nI (n)), .ref a1, .ref a2, .ref a3, .ref a4, .ref a5, .int (mo), .int (le)])), (a1, .inl (c1, 40, .inl xh)), (a2, .inl (c2, 40, .inl yr)), (a3, .inl (c3, 40, .inr (.inl xb))), (a4, .inl (c4, 40, .inr (.inl yb))), (a5, .inl (c5, 7400, .inl bs))] H := hP
  have hD : va_D A [(o, .inr (ciM, [.int (nI (0)), .int (nI (n)), .ref a1, .ref a2, .ref a3, .ref a4, .ref a5, .int (mo), .int (le)])), (a1, .inl (c1, 40, .inl xh)), (a2, .inl (c2, 40, .inl yr)), (a3, .inl (c3, 40, .inr (.inl xb))), (a4, .inl (c4, 40, .inr (.inl yb))), (a5, .inl (c5, 7400, .inl bs))] := hD
  refine lv_aload_n hx hb d_M_form_5 rfl (lv_at hl 0 rfl) ?_
  refine lv_iload_n hx hb d_M_form_6 rfl (lv_at hl 1 rfl) ?_
  refine vp_callSi (W.runV (As := [.int (x)]) (rest := []) ⟨hx, hb, hml, hown, hts⟩ (c_M_isWord l dC dI hn (x := x)) (cwV 1 hts (gd_V mb_433 mb_435 mb_5 mb_23 mb_436) rfl rfl rfl (by decide +kernel) ⟨Nat.le_of_ble_eq_true rfl, Nat.le_of_ble_eq_true rfl⟩) (pw_R_V (va_recv hK hP (ci := ciM) (q0 := 0) rfl rfl) hP hK) rfl rfl hl.1 rfl (lv_room (Nat.le_of_ble_eq_true rfl)) d_M_form_7 ⟨Nat.le_of_ble_eq_true rfl, Nat.le_of_ble_eq_true rfl⟩) (fun r_7 hr_7 => ?_)
  rcases hr_7 with ⟨hre, i1, hi1, hx1⟩ | ⟨hre, hno1⟩
  · subst hre
    rw [hx1] at hl
    have hmd1 := hall i1 hi1
    have hmd1_ := hmd1; obtain ⟨hj1, e11, e21, e31, e41, hok1⟩ := hmd1_; have hok1_ := hok1; obtain ⟨hh1, hp01, hp61, hE1⟩ := hok1_
    have ho1 := pw_o_le (Wd i1).2.2 (Wd i1).1 (Wd i1).2.1
    have hc1 := pw_c_le (Wd i1).2.2 (Wd i1).1
    have hb01 := pq_lt60 (pw_b_lt (Wd i1).2.2 0 (Wd i1).1) hh1
    have hb11 := pq_lt60 (pw_b_lt (Wd i1).2.2 (Wd i1).1 (Wd i1).2.1) hp61
    refine pq_if_ne (tgt := 15) (a := 1) hx hb d_M_form_10 (by decide) (by omega) (fun c_10 => ?_) (fun c_10 => absurd c_10 (by omega))
    refine lv_aload_n hx hb d_M_form_15 rfl (lv_at hl 0 rfl) ?_
    refine lv_iload_n hx hb d_M_form_16 rfl (lv_at hl 1 rfl) ?_
    refine vp_callSi (W.runV (As := [.int (nI (i1))]) (rest := []) ⟨hx, hb, hml, hown, hts⟩ (c_M_inRing l dC dI hmd1) (cwV 1 hts (gd_V mb_437 mb_439 mb_6 mb_23 mb_440) rfl rfl rfl (by decide +kernel) ⟨Nat.le_of_ble_eq_true rfl, Nat.le_of_ble_eq_true rfl⟩) (pw_R_V (va_recv hK hP (ci := ciM) (q0 := 0) rfl rfl) hP hK) rfl rfl hl.1 rfl (lv_room (Nat.le_of_ble_eq_true rfl)) d_M_form_17 ⟨Nat.le_of_ble_eq_true rfl, Nat.le_of_ble_eq_true rfl⟩) (fun r_17 hr_17 => ?_)
    subst hr_17
    refine lv_istore_n (lv' := [(3, .int (nI (pw_o (Wd i1).2.2 (Wd i1).1 (Wd i1).2.1))), (0, .ref o), (1, .int (nI (i1))), (2, .int (y))]) hx hb d_M_form_20 rfl hl (by decide) rfl (fun ls hl => ?_)
    refine lv_iload_n hx hb d_M_form_21 rfl (lv_at hl 0 rfl) ?_
    refine lv_aload_n hx hb d_M_form_22 rfl (lv_at hl 1 rfl) ?_
    refine va_get (D := (dC, dI)) (ci := ciM) (v := .ref a2) (C := R_M) (T := F_M) (N := 9) hx hb hts (fun w h => List.mem_cons_of_mem _ (in_M w h)) hown hK hP 0 rfl rfl 3 (by decide) (hts (.fieldLink R_M 13 "PeriodWordsModel" "ring" "[I") (List.mem_cons_of_mem _ mb_383)) (fun _ h9 => h9) rfl d_M_form_23 ?_
    refine lv_iload_n hx hb d_M_form_26 rfl (lv_at hl 2 rfl) ?_
    refine va_iald hx hb hK hP 2 1 rfl rfl (vp_in_nI (n := i1) (by omega) (by omega)) d_M_form_27 ?_
    refine pq_top (y := .int (yr i1)) (by rw [pq_cl (by omega)]) ?_
    refine pq_top (y := .int (nI ((Wd i1).2.1))) (by rw [e21]) ?_
    refine vp_callSi (W.runS (As := [.int (nI (pw_o (Wd i1).2.2 (Wd i1).1 (Wd i1).2.1)), .int (nI ((Wd i1).2.1))]) (rest := []) ⟨hx, hb, hml, hown, hts⟩ (c_M_divisor l dC dI (x := pw_o (Wd i1).2.2 (Wd i1).1 (Wd i1).2.1) (y := (Wd i1).2.1) (by omega) (by omega)) (va_cwS 2 hts (gd_S mb_483 mb_484 mb_23 mb_485) rfl rfl rfl (by decide +kernel) ⟨Nat.le_of_ble_eq_true rfl, Nat.le_of_ble_eq_true rfl⟩) (pw_R_S pw_P0 (hK.sub [] rfl)) rfl rfl hl.1 rfl (lv_room (Nat.le_of_ble_eq_true rfl)) d_M_form_28 ⟨Nat.le_of_ble_eq_true rfl, Nat.le_of_ble_eq_true rfl⟩) (fun r_28 hr_28 => ?_)
    subst hr_28
    have hg0 := Nat.gcd_pos_of_pos_right (pw_o (Wd i1).2.2 (Wd i1).1 (Wd i1).2.1) hp01
    have hg1 := Nat.gcd_le_right (pw_o (Wd i1).2.2 (Wd i1).1 (Wd i1).2.1) hp01
    refine lv_istore (lv' := [(4, .int (nI (Nat.gcd (pw_o (Wd i1).2.2 (Wd i1).1 (Wd i1).2.1) (Wd i1).2.1))), (3, .int (nI (pw_o (Wd i1).2.2 (Wd i1).1 (Wd i1).2.1))), (0, .ref o), (1, .int (nI (i1))), (2, .int (y))]) hx hb d_M_form_31 hl (by decide) rfl (fun ls hl => ?_)
    refine lv_iload_n hx hb d_M_form_33 rfl (lv_at hl 4 rfl) ?_
    rcases pq_sw5 y with hy_ | hy_ | hy_ | hy_ | hy_ | ⟨hout, n0, n1, n2, n3, n4⟩
    · rw [hy_] at hl
      refine pq_top (y := .int (nI 0)) (by rw [hy_]) ?_
      refine lv_tableIn (tgt := 68) hx hb d_M_form_34 (by decide) (by decide) rfl (by decide) ?_
      refine lv_aload_n hx hb d_M_form_68 rfl (lv_at hl 2 rfl) ?_
      refine va_get (D := (dC, dI)) (ci := ciM) (v := .ref a1) (C := R_M) (T := F_M) (N := 9) hx hb hts (fun w h => List.mem_cons_of_mem _ (in_M w h)) hown hK hP 0 rfl rfl 2 (by decide) (hts (.fieldLink R_M 7 "PeriodWordsModel" "head" "[I") (List.mem_cons_of_mem _ mb_382)) (fun _ h9 => h9) rfl d_M_form_69 ?_
      refine lv_iload_n hx hb d_M_form_72 rfl (lv_at hl 3 rfl) ?_
      refine va_iald hx hb hK hP 1 0 rfl rfl (vp_in_nI (n := i1) (by omega) (by omega)) d_M_form_73 ?_
      refine pq_top (y := .int (xh i1)) (by rw [pq_cl (by omega)]) ?_
      refine pq_top (y := .int (nI ((Wd i1).1))) (by rw [e11]) ?_
      exact W.iret (v := (nI ((Wd i1).1))) hx hb hr (fun t_ ht_ hW_ => ⟨⟨_, (nI (0), n, mo, le, xh, yr, xb, yb, bs), rfl, ⟨Or.inl ⟨i1, hi1, hx1, by rw [hy_]; rfl⟩, rfl⟩, by rw [ht_]; exact hP, va_K.moved hW_.alike hK, hD⟩, hS.F ht_⟩) hS.2.2 d_M_form_74
    · rw [hy_] at hl
      refine pq_top (y := .int (nI 1)) (by rw [hy_]) ?_
      refine lv_tableIn (tgt := 75) hx hb d_M_form_34 (by decide) (by decide) rfl (by decide) ?_
      refine lv_aload_n hx hb d_M_form_75 rfl (lv_at hl 2 rfl) ?_
      refine va_get (D := (dC, dI)) (ci := ciM) (v := .ref a2) (C := R_M) (T := F_M) (N := 9) hx hb hts (fun w h => List.mem_cons_of_mem _ (in_M w h)) hown hK hP 0 rfl rfl 3 (by decide) (hts (.fieldLink R_M 13 "PeriodWordsModel" "ring" "[I") (List.mem_cons_of_mem _ mb_383)) (fun _ h9 => h9) rfl d_M_form_76 ?_
      refine lv_iload_n hx hb d_M_form_79 rfl (lv_at hl 3 rfl) ?_
      refine va_iald hx hb hK hP 2 1 rfl rfl (vp_in_nI (n := i1) (by omega) (by omega)) d_M_form_80 ?_
      refine pq_top (y := .int (yr i1)) (by rw [pq_cl (by omega)]) ?_
      refine pq_top (y := .int (nI ((Wd i1).2.1))) (by rw [e21]) ?_
      exact W.iret (v := (nI ((Wd i1).2.1))) hx hb hr (fun t_ ht_ hW_ => ⟨⟨_, (nI (0), n, mo, le, xh, yr, xb, yb, bs), rfl, ⟨Or.inl ⟨i1, hi1, hx1, by rw [hy_]; rfl⟩, rfl⟩, by rw [ht_]; exact hP, va_K.moved hW_.alike hK, hD⟩, hS.F ht_⟩) hS.2.2 d_M_form_81
    · rw [hy_] at hl
      refine pq_top (y := .int (nI 2)) (by rw [hy_]) ?_
      refine lv_tableIn (tgt := 82) hx hb d_M_form_34 (by decide) (by decide) rfl (by decide) ?_
      refine lv_iload_n hx hb d_M_form_82 rfl (lv_at hl 1 rfl) ?_
      refine lv_iload hx hb d_M_form_83 (lv_at hl 0 rfl) ?_
      refine pq_idiv (a := (pw_o (Wd i1).2.2 (Wd i1).1 (Wd i1).2.1)) (b := (Nat.gcd (pw_o (Wd i1).2.2 (Wd i1).1 (Wd i1).2.1) (Wd i1).2.1)) hx hb d_M_form_85 (by omega) (by omega) (by omega) ?_
      exact W.iret (v := (nI ((pw_o (Wd i1).2.2 (Wd i1).1 (Wd i1).2.1) / (Nat.gcd (pw_o (Wd i1).2.2 (Wd i1).1 (Wd i1).2.1) (Wd i1).2.1)))) hx hb hr (fun t_ ht_ hW_ => ⟨⟨_, (nI (0), n, mo, le, xh, yr, xb, yb, bs), rfl, ⟨Or.inl ⟨i1, hi1, hx1, by rw [hy_]; rfl⟩, rfl⟩, by rw [ht_]; exact hP, va_K.moved hW_.alike hK, hD⟩, hS.F ht_⟩) hS.2.2 d_M_form_86
    · rw [hy_] at hl
      refine pq_top (y := .int (nI 3)) (by rw [hy_]) ?_
      refine lv_tableIn (tgt := 87) hx hb d_M_form_34 (by decide) (by decide) rfl (by decide) ?_
      refine lv_aload_n hx hb d_M_form_87 rfl (lv_at hl 2 rfl) ?_
      refine va_get (D := (dC, dI)) (ci := ciM) (v := .ref a2) (C := R_M) (T := F_M) (N := 9) hx hb hts (fun w h => List.mem_cons_of_mem _ (in_M w h)) hown hK hP 0 rfl rfl 3 (by decide) (hts (.fieldLink R_M 13 "PeriodWordsModel" "ring" "[I") (List.mem_cons_of_mem _ mb_383)) (fun _ h9 => h9) rfl d_M_form_88 ?_
      refine lv_iload_n hx hb d_M_form_91 rfl (lv_at hl 3 rfl) ?_
      refine va_iald hx hb hK hP 2 1 rfl rfl (vp_in_nI (n := i1) (by omega) (by omega)) d_M_form_92 ?_
      refine pq_top (y := .int (yr i1)) (by rw [pq_cl (by omega)]) ?_
      refine pq_top (y := .int (nI ((Wd i1).2.1))) (by rw [e21]) ?_
      refine lv_iload hx hb d_M_form_93 (lv_at hl 0 rfl) ?_
      refine pq_idiv (a := ((Wd i1).2.1)) (b := (Nat.gcd (pw_o (Wd i1).2.2 (Wd i1).1 (Wd i1).2.1) (Wd i1).2.1)) hx hb d_M_form_95 (by omega) (by omega) (by omega) ?_
      exact W.iret (v := (nI (((Wd i1).2.1) / (Nat.gcd (pw_o (Wd i1).2.2 (Wd i1).1 (Wd i1).2.1) (Wd i1).2.1)))) hx hb hr (fun t_ ht_ hW_ => ⟨⟨_, (nI (0), n, mo, le, xh, yr, xb, yb, bs), rfl, ⟨Or.inl ⟨i1, hi1, hx1, by rw [hy_]; rfl⟩, rfl⟩, by rw [ht_]; exact hP, va_K.moved hW_.alike hK, hD⟩, hS.F ht_⟩) hS.2.2 d_M_form_96
    · rw [hy_] at hl
      refine pq_top (y := .int (nI 4)) (by rw [hy_]) ?_
      refine lv_tableIn (tgt := 97) hx hb d_M_form_34 (by decide) (by decide) rfl (by decide) ?_
      refine lv_aload_n hx hb d_M_form_97 rfl (lv_at hl 2 rfl) ?_
      refine va_get (D := (dC, dI)) (ci := ciM) (v := .ref a3) (C := R_M) (T := F_M) (N := 9) hx hb hts (fun w h => List.mem_cons_of_mem _ (in_M w h)) hown hK hP 0 rfl rfl 4 (by decide) (hts (.fieldLink R_M 16 "PeriodWordsModel" "headBits" "[J") (List.mem_cons_of_mem _ mb_384)) (fun _ h9 => h9) rfl d_M_form_98 ?_
      refine lv_iload_n hx hb d_M_form_101 rfl (lv_at hl 3 rfl) ?_
      refine va_lald hx hb hK hP 3 2 rfl rfl (vp_in_nI (n := i1) (by omega) (by omega)) d_M_form_102 ?_
      refine pq_top (y := .long (xb i1)) (by rw [pq_cl (by omega)]) ?_
      refine pq_top (y := .long (lN (pw_b (Wd i1).2.2 0 (Wd i1).1))) (by rw [e31]) ?_
      refine lv_aload_n hx hb d_M_form_103 rfl (lv_at hl 2 rfl) ?_
      refine va_get (D := (dC, dI)) (ci := ciM) (v := .ref a1) (C := R_M) (T := F_M) (N := 9) hx hb hts (fun w h => List.mem_cons_of_mem _ (in_M w h)) hown hK hP 0 rfl rfl 2 (by decide) (hts (.fieldLink R_M 7 "PeriodWordsModel" "head" "[I") (List.mem_cons_of_mem _ mb_382)) (fun _ h9 => h9) rfl d_M_form_104 ?_
      refine lv_iload_n hx hb d_M_form_107 rfl (lv_at hl 3 rfl) ?_
      refine va_iald hx hb hK hP 1 0 rfl rfl (vp_in_nI (n := i1) (by omega) (by omega)) d_M_form_108 ?_
      refine pq_top (y := .int (xh i1)) (by rw [pq_cl (by omega)]) ?_
      refine pq_top (y := .int (nI ((Wd i1).1))) (by rw [e11]) ?_
      refine vp_callSi (W.runS (As := [.long (lN (pw_b (Wd i1).2.2 0 (Wd i1).1)), .int (nI ((Wd i1).1))]) (rest := []) ⟨hx, hb, hml, hown, hts⟩ (c_M_onesOf l dC dI (x := pw_b (Wd i1).2.2 0 (Wd i1).1) (k := (Wd i1).1) hb01 (by omega)) (va_cwS 2 hts (gd_S mb_441 mb_442 mb_23 mb_443) rfl rfl rfl (by decide +kernel) ⟨Nat.le_of_ble_eq_true rfl, Nat.le_of_ble_eq_true rfl⟩) (pw_R_S pw_P0 (hK.sub [] rfl)) rfl rfl hl.1 rfl (lv_room (Nat.le_of_ble_eq_true rfl)) d_M_form_109 ⟨Nat.le_of_ble_eq_true rfl, Nat.le_of_ble_eq_true rfl⟩) (fun r_109 hr_109 => ?_)
      subst hr_109
      refine pq_top (y := .int (nI (pw_c (Wd i1).2.2 (Wd i1).1))) (by rw [pw_p_c _ _ _ (Nat.le_refl _)]) ?_
      exact W.iret (v := (nI (pw_c (Wd i1).2.2 (Wd i1).1))) hx hb hr (fun t_ ht_ hW_ => ⟨⟨_, (nI (0), n, mo, le, xh, yr, xb, yb, bs), rfl, ⟨Or.inl ⟨i1, hi1, hx1, by rw [hy_]; rfl⟩, rfl⟩, by rw [ht_]; exact hP, va_K.moved hW_.alike hK, hD⟩, hS.F ht_⟩) hS.2.2 d_M_form_112
    · refine lv_tableOut (tgt := 113) hx hb d_M_form_34 hout (by decide) ?_
      refine lv_iconst (v := (-1)) hx hb d_M_form_113 (by decide) ?_
      exact W.iret (v := (-1)) hx hb hr (fun t_ ht_ hW_ => ⟨⟨_, (nI (0), n, mo, le, xh, yr, xb, yb, bs), rfl, ⟨Or.inl ⟨i1, hi1, hx1, sp_form_no n0 n1 n2 n3 n4⟩, rfl⟩, by rw [ht_]; exact hP, va_K.moved hW_.alike hK, hD⟩, hS.F ht_⟩) hS.2.2 d_M_form_114
  · subst hre
    refine pq_if_ne (tgt := 15) (a := 0) hx hb d_M_form_10 (by decide) (by omega) (fun c_10 => absurd c_10 (by omega)) (fun c_10 => ?_)
    refine lv_iconst (v := (-1)) hx hb d_M_form_13 (by decide) ?_
    exact W.iret (v := (-1)) hx hb hr (fun t_ ht_ hW_ => ⟨⟨_, (nI (0), n, mo, le, xh, yr, xb, yb, bs), rfl, ⟨Or.inr ⟨hno1, rfl⟩, rfl⟩, by rw [ht_]; exact hP, va_K.moved hW_.alike hK, hD⟩, hS.F ht_⟩) hS.2.2 d_M_form_14
set_option maxHeartbeats 4000000 in
set_option maxRecDepth 100000 in
theorem c_M_same (l : Launch) (dC : Nat → ClassId) (dI : Nat → Nat → Nat) {sz : Nat} {o a1 a2 a3 a4 a5 : Nat} {c1 c2 c3 c4 c5 : ClassId} {th mo le : Int32} {n : Nat} {xh yr : Nat → Int32} {xb yb : Nat → Int64} {bs : Nat → Int32} {Wd : Nat → pw_V} (hn : n ≤ 40) (hall : mdAll xh yr xb yb n Wd) {x : Int32} : Met l y_M_same ws_M_same ({ frames := 2, cells := 0, slots := 0, locals := 43 } : Room) (md_Pre [.ref o, .int (x)] dC dI sz (mdT c1 c2 c3 c4 c5) (md o a1 a2 a3 a4 a5 c1 c2 c3 c4 c5 th n mo le xh yr xb yb bs)) (va_Qi (fun r u => sp_1 n x (fun i r => sp_same Wd i r) (fun r => r = -1) r ∧ u = (nI 0, n, mo, le, xh, yr, xb, yb, bs)) (md_B dC dI (va_A (md o a1 a2 a3 a4 a5 c1 c2 c3 c4 c5 th n mo le xh yr xb yb bs) sz) o a1 a2 a3 a4 a5 c1 c2 c3 c4 c5) (va_A (md o a1 a2 a3 a4 a5 c1 c2 c3 c4 c5 th n mo le xh yr xb yb bs) sz)) 0 0 (va_A (md o a1 a2 a3 a4 a5 c1 c2 c3 c4 c5 th n mo le xh yr xb yb bs) sz) := by
  refine Met.ofW (cc := b_M_same) (maxL := 3) (ret := (some .int)) (by decide) rfl ?_
  intro p e s m args below meth c s₁ B hml hv
  obtain ⟨rfl, hsz, hP, hK, hD0⟩ := hv
  have hx := B.exec
  have hb := B.bytes
  have hr := B.returns
  have hts := atoms_spec (ws := ws_M_same) B.pre
  have hown : s.vm.findClass R_M = some m.cls := findClass_of_methodNamed B.named
  have hlocks := B.notSynchronized
  subst hsz
  have hD := hD0.self (sz := s.heap.size)
  generalize hAe : va_A (md o a1 a2 a3 a4 a5 c1 c2 c3 c4 c5 th n mo le xh yr xb yb bs) s.heap.size = A at hD ⊢
  have hA : ∀ q : Nat, s.heap.size ≤ q → A q := fun q h => by rw [← hAe]; exact Or.inr h
  have hS : va_S A s.heap s.heap [] := va_S.rf
  have hl := lv_entry ([.ref o, .int (x)]) (n := 3) (Nat.le_of_ble_eq_true rfl)
  rw [lg_entry_eq]
  generalize (lg_sl ([.ref o, .int (x)]) ++ List.replicate (3 - (lg_sl ([.ref o, .int (x)])).length) Slot.unset).toArray = ls at hl ⊢
  have hl : lv_has ls 3 [(0, .ref o), (1, .int (x))] := hl
  refine lv_aload_n hx hb d_M_same_0 rfl (lv_at hl 0 rfl) ?_
  refine lv_iconst (v := nI 0) hx hb d_M_same_1 (by decide) ?_
  refine va_put (D := (dC, dI)) (ci := ciM) (v := .int (nI (0))) (ty := .int) (C := R_M) (T := F_M) (N := 9) hx hb hts (fun w h => List.mem_cons_of_mem _ (in_M w h)) t_M t_M_ok n_M hown hK hP hD hS 0 rfl rfl 0 (by decide) (hts (.fieldLink R_M 27 "PeriodWordsModel" "thrown" "I") (List.mem_cons_of_mem _ mb_380)) (fun _ h9 => h9) rfl (by decide +kernel) rfl rfl (Nat.le_of_ble_eq_true rfl) d_M_same_2 (fun H locs hP hD hS => ?_)
  have hP : va_P (dC, dI) vwCl [(o, .inr (ciM, [.int (nI (0)), .int (nI (n)), .ref a1, .ref a2, .ref a3, .ref a4, .ref a5, .int (mo), .int (le)])), (a1, .inl (c1, 40, .inl xh)), (a2, .inl (c2, 40, .inl yr)), (a3, .inl (c3, 40, .inr (.inl xb))), (a4, .inl (c4, 40, .inr (.inl yb))), (a5, .inl (c5, 7400, .inl bs))] H := hP
  have hD : va_D A [(o, .inr (ciM, [.int (nI (0)), .int (nI (n)), .ref a1, .ref a2, .ref a3, .ref a4, .ref a5, .int (mo), .int (le)])), (a1, .inl (c1, 40, .inl xh)), (a2, .inl (c2, 40, .inl yr)), (a3, .inl (c3, 40, .inr (.inl xb))), (a4, .inl (c4, 40, .inr (.inl yb))), (a5, .inl (c5, 7400, .inl bs))] := hD
  refine lv_aload_n hx hb d_M_same_5 rfl (lv_at hl 0 rfl) ?_
  refine lv_iload_n hx hb d_M_same_6 rfl (lv_at hl 1 rfl) ?_
  refine vp_callSi (W.runV (As := [.int (x)]) (rest := []) ⟨hx, hb, hml, hown, hts⟩ (c_M_isWord l dC dI hn (x := x)) (cwV 1 hts (gd_V mb_433 mb_435 mb_5 mb_23 mb_436) rfl rfl rfl (by decide +kernel) ⟨Nat.le_of_ble_eq_true rfl, Nat.le_of_ble_eq_true rfl⟩) (pw_R_V (va_recv hK hP (ci := ciM) (q0 := 0) rfl rfl) hP hK) rfl rfl hl.1 rfl (lv_room (Nat.le_of_ble_eq_true rfl)) d_M_same_7 ⟨Nat.le_of_ble_eq_true rfl, Nat.le_of_ble_eq_true rfl⟩) (fun r_7 hr_7 => ?_)
  rcases hr_7 with ⟨hre, i1, hi1, hx1⟩ | ⟨hre, hno1⟩
  · subst hre
    rw [hx1] at hl
    have hmd1 := hall i1 hi1
    have hmd1_ := hmd1; obtain ⟨hj1, e11, e21, e31, e41, hok1⟩ := hmd1_; have hok1_ := hok1; obtain ⟨hh1, hp01, hp61, hE1⟩ := hok1_
    have ho1 := pw_o_le (Wd i1).2.2 (Wd i1).1 (Wd i1).2.1
    have hc1 := pw_c_le (Wd i1).2.2 (Wd i1).1
    have hb01 := pq_lt60 (pw_b_lt (Wd i1).2.2 0 (Wd i1).1) hh1
    have hb11 := pq_lt60 (pw_b_lt (Wd i1).2.2 (Wd i1).1 (Wd i1).2.1) hp61
    refine pq_if_ne (tgt := 15) (a := 1) hx hb d_M_same_10 (by decide) (by omega) (fun c_10 => ?_) (fun c_10 => absurd c_10 (by omega))
    refine lv_iconst (v := nI 0) hx hb d_M_same_15 (by decide) ?_
    refine lv_istore_n (lv' := [(2, .int (nI (0))), (0, .ref o), (1, .int (nI (i1)))]) hx hb d_M_same_16 rfl hl (by decide) rfl (fun ls hl => ?_)
    have B_17 : ∀ (k_ : Nat) (k : Nat) (H : Heap) (locs : List Loc) (ls : Array Slot), (i1 + 1 - k) < k_ → (k ≤ i1) → (∀ j, j < k → ¬ sp_q (Wd j) (Wd i1)) → (va_P (dC, dI) vwCl [(o, .inr (ciM, [.int (nI (0)), .int (nI (n)), .ref a1, .ref a2, .ref a3, .ref a4, .ref a5, .int (mo), .int (le)])), (a1, .inl (c1, 40, .inl xh)), (a2, .inl (c2, 40, .inl yr)), (a3, .inl (c3, 40, .inr (.inl xb))), (a4, .inl (c4, 40, .inr (.inl yb))), (a5, .inl (c5, 7400, .inl bs))] H) → (va_D A [(o, .inr (ciM, [.int (nI (0)), .int (nI (n)), .ref a1, .ref a2, .ref a3, .ref a4, .ref a5, .int (mo), .int (le)])), (a1, .inl (c1, 40, .inl xh)), (a2, .inl (c2, 40, .inl yr)), (a3, .inl (c3, 40, .inr (.inl xb))), (a4, .inl (c4, 40, .inr (.inl yb))), (a5, .inl (c5, 7400, .inl bs))]) → (va_S A s.heap H locs) → lv_has ls 3 [(0, .ref o), (1, .int (nI (i1))), (2, .int (nI (k)))] → W p l e (headSpec ws_M_same ({ frames := 2, cells := 0, slots := 0, locals := 43 } : Room)).room s m ([.ref o, .int (x)]).toArray below meth c H locs 0 0 (MQ below (va_Qi (fun r u => sp_1 n x (fun i r => sp_same Wd i r) (fun r => r = -1) r ∧ u = (nI 0, n, mo, le, xh, yr, xb, yb, bs)) (md_B dC dI A o a1 a2 a3 a4 a5 c1 c2 c3 c4 c5) A) ([.ref o, .int (x)]).toArray s 0 0 A) (F0 m 17 ls []) := by
      intro k_
      induction k_ with
      | zero => intro k H locs ls h_; omega
      | succ k_ ih_17 =>
        intro k H locs ls hm_ hk hne hP hD hS hl
        refine lv_aload_n hx hb d_M_same_17 rfl (lv_at hl 0 rfl) ?_
        have hmdk := hall k (by omega)
        obtain ⟨hjk, e1k, e2k, e3k, e4k, hokk⟩ := hmdk; obtain ⟨hhk, hp0k, hp6k, hEk⟩ := hokk
        have hb0k := pq_lt60 (pw_b_lt (Wd k).2.2 0 (Wd k).1) hhk
        have hb1k := pq_lt60 (pw_b_lt (Wd k).2.2 (Wd k).1 (Wd k).2.1) hp6k
        refine va_get (D := (dC, dI)) (ci := ciM) (v := .ref a1) (C := R_M) (T := F_M) (N := 9) hx hb hts (fun w h => List.mem_cons_of_mem _ (in_M w h)) hown hK hP 0 rfl rfl 2 (by decide) (hts (.fieldLink R_M 7 "PeriodWordsModel" "head" "[I") (List.mem_cons_of_mem _ mb_382)) (fun _ h9 => h9) rfl d_M_same_18 ?_
        refine lv_iload_n hx hb d_M_same_21 rfl (lv_at hl 2 rfl) ?_
        refine va_iald hx hb hK hP 1 0 rfl rfl (vp_in_nI (n := k) (by omega) (by omega)) d_M_same_22 ?_
        refine pq_top (y := .int (xh k)) (by rw [pq_cl (by omega)]) ?_
        refine pq_top (y := .int (nI ((Wd k).1))) (by rw [e1k]) ?_
        refine lv_aload_n hx hb d_M_same_23 rfl (lv_at hl 0 rfl) ?_
        refine va_get (D := (dC, dI)) (ci := ciM) (v := .ref a1) (C := R_M) (T := F_M) (N := 9) hx hb hts (fun w h => List.mem_cons_of_mem _ (in_M w h)) hown hK hP 0 rfl rfl 2 (by decide) (hts (.fieldLink R_M 7 "PeriodWordsModel" "head" "[I") (List.mem_cons_of_mem _ mb_382)) (fun _ h9 => h9) rfl d_M_same_24 ?_
        refine lv_iload_n hx hb d_M_same_27 rfl (lv_at hl 1 rfl) ?_
        refine va_iald hx hb hK hP 1 0 rfl rfl (vp_in_nI (n := i1) (by omega) (by omega)) d_M_same_28 ?_
        refine pq_top (y := .int (xh i1)) (by rw [pq_cl (by omega)]) ?_
        refine pq_top (y := .int (nI ((Wd i1).1))) (by rw [e11]) ?_
        refine pq_icmp_ne (tgt := 79) (a := ((Wd k).1)) (b := ((Wd i1).1)) hx hb d_M_same_29 (by decide) (by omega) (by omega) (fun c_29 => ?_) (fun c_29 => ?_)
        · have hnq : ¬ sp_q (Wd k) (Wd i1) := by
            rintro ⟨z1, z2, z3, z4⟩
            first | exact c_29 z1 | exact c_44 z3 | exact c_60n z2 | exact c_76n z4
          have hki : k + 1 ≤ i1 := by
            rcases Nat.lt_or_ge k i1 with z | z
            · exact z
            · exfalso; apply hnq; rw [show k = i1 by omega]; exact ⟨rfl, rfl, rfl, rfl⟩
          refine lv_iinc (v := nI (k + 1)) (lv' := [(2, .int (nI (k + 1))), (0, .ref o), (1, .int (nI (i1)))]) hx hb d_M_same_79 hl (k := 2) rfl (pq_inc _) (by decide) rfl (fun ls hl => ?_)
          refine lv_goto (tgt := 17) hx hb d_M_same_82 (by decide) ?_
          exact ih_17 (k + 1) _ _ ls (by omega) hki (lt_s hne hnq) hP hD hS (lv_sub hl [1, 2, 0] rfl)
        · refine lv_aload_n hx hb d_M_same_32 rfl (lv_at hl 0 rfl) ?_
          refine va_get (D := (dC, dI)) (ci := ciM) (v := .ref a2) (C := R_M) (T := F_M) (N := 9) hx hb hts (fun w h => List.mem_cons_of_mem _ (in_M w h)) hown hK hP 0 rfl rfl 3 (by decide) (hts (.fieldLink R_M 13 "PeriodWordsModel" "ring" "[I") (List.mem_cons_of_mem _ mb_383)) (fun _ h9 => h9) rfl d_M_same_33 ?_
          refine lv_iload_n hx hb d_M_same_36 rfl (lv_at hl 2 rfl) ?_
          refine va_iald hx hb hK hP 2 1 rfl rfl (vp_in_nI (n := k) (by omega) (by omega)) d_M_same_37 ?_
          refine pq_top (y := .int (yr k)) (by rw [pq_cl (by omega)]) ?_
          refine pq_top (y := .int (nI ((Wd k).2.1))) (by rw [e2k]) ?_
          refine lv_aload_n hx hb d_M_same_38 rfl (lv_at hl 0 rfl) ?_
          refine va_get (D := (dC, dI)) (ci := ciM) (v := .ref a2) (C := R_M) (T := F_M) (N := 9) hx hb hts (fun w h => List.mem_cons_of_mem _ (in_M w h)) hown hK hP 0 rfl rfl 3 (by decide) (hts (.fieldLink R_M 13 "PeriodWordsModel" "ring" "[I") (List.mem_cons_of_mem _ mb_383)) (fun _ h9 => h9) rfl d_M_same_39 ?_
          refine lv_iload_n hx hb d_M_same_42 rfl (lv_at hl 1 rfl) ?_
          refine va_iald hx hb hK hP 2 1 rfl rfl (vp_in_nI (n := i1) (by omega) (by omega)) d_M_same_43 ?_
          refine pq_top (y := .int (yr i1)) (by rw [pq_cl (by omega)]) ?_
          refine pq_top (y := .int (nI ((Wd i1).2.1))) (by rw [e21]) ?_
          refine pq_icmp_ne (tgt := 79) (a := ((Wd k).2.1)) (b := ((Wd i1).2.1)) hx hb d_M_same_44 (by decide) (by omega) (by omega) (fun c_44 => ?_) (fun c_44 => ?_)
          · have hnq : ¬ sp_q (Wd k) (Wd i1) := by
              rintro ⟨z1, z2, z3, z4⟩
              first | exact c_29 z1 | exact c_44 z3 | exact c_60n z2 | exact c_76n z4
            have hki : k + 1 ≤ i1 := by
              rcases Nat.lt_or_ge k i1 with z | z
              · exact z
              · exfalso; apply hnq; rw [show k = i1 by omega]; exact ⟨rfl, rfl, rfl, rfl⟩
            refine lv_iinc (v := nI (k + 1)) (lv' := [(2, .int (nI (k + 1))), (0, .ref o), (1, .int (nI (i1)))]) hx hb d_M_same_79 hl (k := 2) rfl (pq_inc _) (by decide) rfl (fun ls hl => ?_)
            refine lv_goto (tgt := 17) hx hb d_M_same_82 (by decide) ?_
            exact ih_17 (k + 1) _ _ ls (by omega) hki (lt_s hne hnq) hP hD hS (lv_sub hl [1, 2, 0] rfl)
          · refine lv_aload_n hx hb d_M_same_47 rfl (lv_at hl 0 rfl) ?_
            refine va_get (D := (dC, dI)) (ci := ciM) (v := .ref a3) (C := R_M) (T := F_M) (N := 9) hx hb hts (fun w h => List.mem_cons_of_mem _ (in_M w h)) hown hK hP 0 rfl rfl 4 (by decide) (hts (.fieldLink R_M 16 "PeriodWordsModel" "headBits" "[J") (List.mem_cons_of_mem _ mb_384)) (fun _ h9 => h9) rfl d_M_same_48 ?_
            refine lv_iload_n hx hb d_M_same_51 rfl (lv_at hl 2 rfl) ?_
            refine va_lald hx hb hK hP 3 2 rfl rfl (vp_in_nI (n := k) (by omega) (by omega)) d_M_same_52 ?_
            refine pq_top (y := .long (xb k)) (by rw [pq_cl (by omega)]) ?_
            refine pq_top (y := .long (lN (pw_b (Wd k).2.2 0 (Wd k).1))) (by rw [e3k]) ?_
            refine lv_aload_n hx hb d_M_same_53 rfl (lv_at hl 0 rfl) ?_
            refine va_get (D := (dC, dI)) (ci := ciM) (v := .ref a3) (C := R_M) (T := F_M) (N := 9) hx hb hts (fun w h => List.mem_cons_of_mem _ (in_M w h)) hown hK hP 0 rfl rfl 4 (by decide) (hts (.fieldLink R_M 16 "PeriodWordsModel" "headBits" "[J") (List.mem_cons_of_mem _ mb_384)) (fun _ h9 => h9) rfl d_M_same_54 ?_
            refine lv_iload_n hx hb d_M_same_57 rfl (lv_at hl 1 rfl) ?_
            refine va_lald hx hb hK hP 3 2 rfl rfl (vp_in_nI (n := i1) (by omega) (by omega)) d_M_same_58 ?_
            refine pq_top (y := .long (xb i1)) (by rw [pq_cl (by omega)]) ?_
            refine pq_top (y := .long (lN (pw_b (Wd i1).2.2 0 (Wd i1).1))) (by rw [e31]) ?_
            refine W.lcmp hx hb d_M_same_59 ?_
            refine lv_topi (fun x_1 ex_1 => ?_)
            refine lv_if_ne (tgt := 79) hx hb d_M_same_60 (by decide) (fun c_60 => ?_) (fun c_60 => ?_)
            · have c_60n : pw_b (Wd k).2.2 0 (Wd k).1 ≠ pw_b (Wd i1).2.2 0 (Wd i1).1 := fun z_ => c_60 (by rw [ex_1]; exact (pq_cmpN (by omega) (by omega)).mpr z_)
              have hnq : ¬ sp_q (Wd k) (Wd i1) := by
                rintro ⟨z1, z2, z3, z4⟩
                first | exact c_29 z1 | exact c_44 z3 | exact c_60n z2 | exact c_76n z4
              have hki : k + 1 ≤ i1 := by
                rcases Nat.lt_or_ge k i1 with z | z
                · exact z
                · exfalso; apply hnq; rw [show k = i1 by omega]; exact ⟨rfl, rfl, rfl, rfl⟩
              refine lv_iinc (v := nI (k + 1)) (lv' := [(2, .int (nI (k + 1))), (0, .ref o), (1, .int (nI (i1)))]) hx hb d_M_same_79 hl (k := 2) rfl (pq_inc _) (by decide) rfl (fun ls hl => ?_)
              refine lv_goto (tgt := 17) hx hb d_M_same_82 (by decide) ?_
              exact ih_17 (k + 1) _ _ ls (by omega) hki (lt_s hne hnq) hP hD hS (lv_sub hl [1, 2, 0] rfl)
            · have c_60n : pw_b (Wd k).2.2 0 (Wd k).1 = pw_b (Wd i1).2.2 0 (Wd i1).1 := (pq_cmpN (by omega) (by omega)).mp (by rw [← ex_1]; exact c_60)
              refine lv_aload_n hx hb d_M_same_63 rfl (lv_at hl 0 rfl) ?_
              refine va_get (D := (dC, dI)) (ci := ciM) (v := .ref a4) (C := R_M) (T := F_M) (N := 9) hx hb hts (fun w h => List.mem_cons_of_mem _ (in_M w h)) hown hK hP 0 rfl rfl 5 (by decide) (hts (.fieldLink R_M 20 "PeriodWordsModel" "ringBits" "[J") (List.mem_cons_of_mem _ mb_385)) (fun _ h9 => h9) rfl d_M_same_64 ?_
              refine lv_iload_n hx hb d_M_same_67 rfl (lv_at hl 2 rfl) ?_
              refine va_lald hx hb hK hP 4 3 rfl rfl (vp_in_nI (n := k) (by omega) (by omega)) d_M_same_68 ?_
              refine pq_top (y := .long (yb k)) (by rw [pq_cl (by omega)]) ?_
              refine pq_top (y := .long (lN (pw_b (Wd k).2.2 (Wd k).1 (Wd k).2.1))) (by rw [e4k]) ?_
              refine lv_aload_n hx hb d_M_same_69 rfl (lv_at hl 0 rfl) ?_
              refine va_get (D := (dC, dI)) (ci := ciM) (v := .ref a4) (C := R_M) (T := F_M) (N := 9) hx hb hts (fun w h => List.mem_cons_of_mem _ (in_M w h)) hown hK hP 0 rfl rfl 5 (by decide) (hts (.fieldLink R_M 20 "PeriodWordsModel" "ringBits" "[J") (List.mem_cons_of_mem _ mb_385)) (fun _ h9 => h9) rfl d_M_same_70 ?_
              refine lv_iload_n hx hb d_M_same_73 rfl (lv_at hl 1 rfl) ?_
              refine va_lald hx hb hK hP 4 3 rfl rfl (vp_in_nI (n := i1) (by omega) (by omega)) d_M_same_74 ?_
              refine pq_top (y := .long (yb i1)) (by rw [pq_cl (by omega)]) ?_
              refine pq_top (y := .long (lN (pw_b (Wd i1).2.2 (Wd i1).1 (Wd i1).2.1))) (by rw [e41]) ?_
              refine W.lcmp hx hb d_M_same_75 ?_
              refine lv_topi (fun x_2 ex_2 => ?_)
              refine lv_if_eq (tgt := 85) hx hb d_M_same_76 (by decide) (fun c_76 => ?_) (fun c_76 => ?_)
              · have c_76n : pw_b (Wd k).2.2 (Wd k).1 (Wd k).2.1 = pw_b (Wd i1).2.2 (Wd i1).1 (Wd i1).2.1 := (pq_cmpN (by omega) (by omega)).mp (by rw [← ex_2]; exact c_76)
                refine lv_iload_n hx hb d_M_same_85 rfl (lv_at hl 2 rfl) ?_
                exact W.iret (v := (nI (k))) hx hb hr (fun t_ ht_ hW_ => ⟨⟨_, (nI (0), n, mo, le, xh, yr, xb, yb, bs), rfl, ⟨Or.inl ⟨i1, hi1, hx1, k, hk, rfl, ⟨c_29, c_60n, c_44, c_76n⟩, hne⟩, rfl⟩, by rw [ht_]; exact hP, va_K.moved hW_.alike hK, hD⟩, hS.F ht_⟩) hS.2.2 d_M_same_86
              · have c_76n : pw_b (Wd k).2.2 (Wd k).1 (Wd k).2.1 ≠ pw_b (Wd i1).2.2 (Wd i1).1 (Wd i1).2.1 := fun z_ => c_76 (by rw [ex_2]; exact (pq_cmpN (by omega) (by omega)).mpr z_)
                have hnq : ¬ sp_q (Wd k) (Wd i1) := by
                  rintro ⟨z1, z2, z3, z4⟩
                  first | exact c_29 z1 | exact c_44 z3 | exact c_60n z2 | exact c_76n z4
                have hki : k + 1 ≤ i1 := by
                  rcases Nat.lt_or_ge k i1 with z | z
                  · exact z
                  · exfalso; apply hnq; rw [show k = i1 by omega]; exact ⟨rfl, rfl, rfl, rfl⟩
                refine lv_iinc (v := nI (k + 1)) (lv' := [(2, .int (nI (k + 1))), (0, .ref o), (1, .int (nI (i1)))]) hx hb d_M_same_79 hl (k := 2) rfl (pq_inc _) (by decide) rfl (fun ls hl => ?_)
                refine lv_goto (tgt := 17) hx hb d_M_same_82 (by decide) ?_
                exact ih_17 (k + 1) _ _ ls (by omega) hki (lt_s hne hnq) hP hD hS (lv_sub hl [1, 2, 0] rfl)
    exact B_17 _ (0) _ _ ls (Nat.lt_succ_self _) (by omega) (fun j hj => absurd hj (Nat.not_lt_zero j)) hP hD hS (lv_sub hl [1, 2, 0] rfl)
  · subst hre
    refine pq_if_ne (tgt := 15) (a := 0) hx hb d_M_same_10 (by decide) (by omega) (fun c_10 => absurd c_10 (by omega)) (fun c_10 => ?_)
    refine lv_iconst (v := (-1)) hx hb d_M_same_13 (by decide) ?_
    exact W.iret (v := (-1)) hx hb hr (fun t_ ht_ hW_ => ⟨⟨_, (nI (0), n, mo, le, xh, yr, xb, yb, bs), rfl, ⟨Or.inr ⟨hno1, rfl⟩, rfl⟩, by rw [ht_]; exact hP, va_K.moved hW_.alike hK, hD⟩, hS.F ht_⟩) hS.2.2 d_M_same_14
end
