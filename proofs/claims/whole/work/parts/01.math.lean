/-! endless words of bits: how many 1s stand ahead of a place, words that come back, their shortest form -/
def pw_c (f : Nat → Bool) : Nat → Nat
  | 0 => 0
  | n + 1 => pw_c f n + (f n).toNat
theorem pw_tn (b : Bool) : b.toNat = 0 ∧ b = false ∨ b.toNat = 1 ∧ b = true := by cases b <;> simp
theorem pw_c_s (f : Nat → Bool) (n : Nat) : pw_c f (n + 1) = pw_c f n + (f n).toNat := rfl
theorem pw_c_le (f : Nat → Bool) (n : Nat) : pw_c f n ≤ n := by
  induction n with
  | zero => exact Nat.le_refl 0
  | succ n ih => rw [pw_c_s]; rcases pw_tn (f n) with h | h <;> omega
theorem pw_c_congr {f g : Nat → Bool} {n : Nat} (h : ∀ i, i < n → f i = g i) : pw_c f n = pw_c g n := by
  induction n with
  | zero => rfl
  | succ n ih => rw [pw_c_s, pw_c_s, ih (fun i hi => h i (by omega)), h n (by omega)]
theorem pw_c_add (f : Nat → Bool) (a b : Nat) : pw_c f (a + b) = pw_c f a + pw_c (fun i => f (a + i)) b := by
  induction b with
  | zero => rfl
  | succ b ih => rw [← Nat.add_assoc, pw_c_s, pw_c_s, ih, Nat.add_assoc]
theorem pw_c_mono {f : Nat → Bool} {a b : Nat} (h : a ≤ b) : pw_c f a ≤ pw_c f b := by
  obtain ⟨k, rfl⟩ : ∃ k, b = a + k := ⟨b - a, by omega⟩
  rw [pw_c_add]; omega
theorem pw_c_lt {f : Nat → Bool} {a b : Nat} (h : a < b) (hf : f a = true) : pw_c f a < pw_c f b := by
  have := pw_c_mono (f := f) (show a + 1 ≤ b from h)
  rw [pw_c_s, hf] at this
  have e : (true).toNat = 1 := rfl
  omega
/-- a place for each number of 1s -/
theorem pw_c_at {f : Nat → Bool} {n j : Nat} (h : j < pw_c f n) : ∃ i, i < n ∧ f i = true ∧ pw_c f i = j := by
  induction n with
  | zero => exact absurd h (Nat.not_lt_zero _)
  | succ n ih =>
    rcases Nat.lt_or_ge j (pw_c f n) with q | q
    · obtain ⟨i, a, b⟩ := ih q
      exact ⟨i, by omega, b⟩
    · rw [pw_c_s] at h
      rcases pw_tn (f n) with z | z
      · omega
      · exact ⟨n, by omega, z.2, by omega⟩
theorem pw_c_0 {f : Nat → Bool} {n : Nat} (h : ∀ i, i < n → f i = false) : pw_c f n = 0 := by
  induction n with
  | zero => rfl
  | succ n ih => rw [pw_c_s, ih (fun i hi => h i (by omega)), h n (by omega)]; rfl
/-- TICK t is the one of the n-th 1 -/
def pw_N (f : Nat → Bool) (n t : Nat) : Prop := f t = true ∧ pw_c f t + 1 = n
theorem pw_N_u {f : Nat → Bool} {n t u : Nat} (h : pw_N f n t) (k : pw_N f n u) : t = u := by
  rcases Nat.lt_trichotomy t u with q | q | q
  · have := pw_c_lt q h.1; have := h.2; have := k.2; omega
  · exact q
  · have := pw_c_lt q k.1; have := h.2; have := k.2; omega
theorem pw_N_lt {f : Nat → Bool} {n m t u : Nat} (h : pw_N f n t) (k : pw_N f m u) (hn : n < m) : t < u := by
  rcases Nat.lt_or_ge t u with q | q
  · exact q
  · have := pw_c_mono (f := f) q; have := h.2; have := k.2; omega
theorem pw_N_of {f : Nat → Bool} {n T : Nat} (h0 : 0 < n) (h : n ≤ pw_c f T) : ∃ t, t < T ∧ pw_N f n t := by
  obtain ⟨i, a, b, c⟩ := pw_c_at (f := f) (n := T) (j := n - 1) (by omega)
  exact ⟨i, a, b, by omega⟩
theorem pw_N_c {f : Nat → Bool} {n t : Nat} (h : pw_N f n t) : pw_c f (t + 1) = n := by
  have := h.2
  rw [pw_c_s, h.1]
  exact this
theorem pw_N_pos {f : Nat → Bool} {n t : Nat} (h : pw_N f n t) : 0 < n := by have := h.2; omega
/-- from h on f comes back after p -/
def pw_E (f : Nat → Bool) (h p : Nat) : Prop := ∀ t, h ≤ t → f (t + p) = f t
theorem pw_E_mul {f : Nat → Bool} {h p : Nat} (E : pw_E f h p) (k : Nat) : pw_E f h (k * p) := by
  induction k with
  | zero => intro t _; rw [Nat.zero_mul]; rfl
  | succ k ih =>
    intro t ht
    rw [Nat.succ_mul, ← Nat.add_assoc, E (t + k * p) (by omega), ih t ht]
theorem pw_E_dvd {f : Nat → Bool} {h p q : Nat} (E : pw_E f h p) (hd : p ∣ q) : pw_E f h q := by
  obtain ⟨k, rfl⟩ := hd
  rw [Nat.mul_comm]
  exact pw_E_mul E k
theorem pw_E_up {f : Nat → Bool} {h h' p : Nat} (E : pw_E f h p) (hh : h ≤ h') : pw_E f h' p := fun t ht => E t (by omega)
theorem pw_E_back {f : Nat → Bool} {F R h p : Nat} (hR : 0 < R) (E : pw_E f F R) (E2 : pw_E f h p) : pw_E f F p := by
  intro t ht
  have a := pw_E_mul E h t ht
  have b := pw_E_mul E h (t + p) (by omega)
  have z : h ≤ h * R := Nat.le_mul_of_pos_right h hR
  have d := E2 (t + h * R) (by omega)
  rw [← a, ← b, ← d]
  congr 1
  omega
theorem pw_E_mod {f : Nat → Bool} {F R p : Nat} (E : pw_E f F R) (E2 : pw_E f F p) : pw_E f F (R % p) := by
  intro t ht
  have a := pw_E_mul E2 (R / p) (t + R % p) (by omega)
  have b := E t ht
  rw [← a, ← b]
  congr 1
  have := Nat.mod_add_div R p
  rw [Nat.mul_comm] at this
  omega
/-- the FORM: the shortest RING, and with it the shortest HEAD -/
def pw_Can (f : Nat → Bool) (h p : Nat) : Prop := 0 < p ∧ pw_E f h p ∧ (∀ h' p', 0 < p' → pw_E f h' p' → p ≤ p') ∧ (h = 0 ∨ f (h - 1) ≠ f (h - 1 + p))
theorem pw_Can_le {f : Nat → Bool} {h p h' : Nat} (C : h = 0 ∨ f (h - 1) ≠ f (h - 1 + p)) (E : pw_E f h' p) : h ≤ h' := by
  rcases C with C | C
  · omega
  · rcases Nat.lt_or_ge h' h with q | q
    · exact absurd (E (h - 1) (by omega)).symm C
    · exact q
theorem pw_Can_u {f : Nat → Bool} {h p h' p' : Nat} (C : pw_Can f h p) (C' : pw_Can f h' p') : h = h' ∧ p = p' := by
  obtain ⟨a1, a2, a3, a4⟩ := C
  obtain ⟨b1, b2, b3, b4⟩ := C'
  have e : p = p' := Nat.le_antisymm (a3 h' p' b1 b2) (b3 h p a1 a2)
  subst e
  exact ⟨Nat.le_antisymm (pw_Can_le a4 b2) (pw_Can_le b4 a2), rfl⟩
/-- the least one of the lengths that come back from F on is the shortest of all -/
theorem pw_least {f : Nat → Bool} {F R p : Nat} (hR : 0 < R) (E : pw_E f F R) (hl : ∀ q, 0 < q → q < p → ¬ pw_E f F q) : ∀ h' p', 0 < p' → pw_E f h' p' → p ≤ p' := by
  intro h' p' h0 E'
  rcases Nat.lt_or_ge p' p with q | q
  · exact absurd (pw_E_back hR E E') (hl p' h0 q)
  · exact q
theorem pw_Can_of {f : Nat → Bool} {F R p h : Nat} (hR : 0 < R) (E : pw_E f F R) (hp : 0 < p) (hl : ∀ q, 0 < q → q < p → ¬ pw_E f F q) (Eh : pw_E f h p) (hh : h = 0 ∨ f (h - 1) ≠ f (h - 1 + p)) : pw_Can f h p :=
  ⟨hp, Eh, pw_least hR E hl, hh⟩
/-- the search in one round: p divides the round, and within the round each bit is the one p further on -/
def pw_B (f : Nat → Bool) (F R p : Nat) : Prop := ∀ k, k + p < R → f (F + k) = f (F + k + p)
theorem pw_B_of {f : Nat → Bool} {F R p : Nat} (E : pw_E f F p) : pw_B f F R p := fun k _ => (E (F + k) (by omega)).symm
theorem pw_B_st {f : Nat → Bool} {F R p : Nat} (B : pw_B f F R p) (j m : Nat) (h : j + m * p < R) : f (F + (j + m * p)) = f (F + j) := by
  induction m with
  | zero => rw [Nat.zero_mul]; rfl
  | succ m ih =>
    rw [Nat.succ_mul] at h
    have a := B (j + m * p) (by omega)
    rw [← ih (by omega), a]
    congr 1
    rw [Nat.succ_mul]
    omega
theorem pw_B_E {f : Nat → Bool} {F R p : Nat} (hp : 0 < p) (hR : 0 < R) (hd : R % p = 0) (E : pw_E f F R) (B : pw_B f F R p) : pw_E f F p := by
  obtain ⟨m, hm⟩ : ∃ m, R = m * p := ⟨R / p, by have := Nat.mod_add_div R p; rw [Nat.mul_comm] at this; omega⟩
  have hpR : p ≤ R := by
    cases m with
    | zero => rw [Nat.zero_mul] at hm; omega
    | succ m => rw [hm, Nat.succ_mul]; omega
  have base : ∀ j, j < R → f (F + j + p) = f (F + j) := by
    intro j hj
    rcases Nat.lt_or_ge (j + p) R with q | q
    · exact (B j q).symm
    · have a := E (F + (j + p - R)) (by omega)
      have b : f (F + (j + p - R) + R) = f (F + j + p) := by congr 1; omega
      rw [← b, a]
      cases m with
      | zero => rw [Nat.zero_mul] at hm; omega
      | succ m =>
        rw [Nat.succ_mul] at hm
        have d := pw_B_st B (j + p - R) m (by omega)
        rw [← d]
        congr 1
        omega
  intro t ht
  have hk := Nat.mod_add_div (t - F) R
  have hlt := Nat.mod_lt (t - F) hR
  have e1 := pw_E_mul E ((t - F) / R) (F + (t - F) % R) (by omega)
  have e2 := pw_E_mul E ((t - F) / R) (F + (t - F) % R + p) (by omega)
  rw [Nat.mul_comm] at hk
  have t1 : F + (t - F) % R + (t - F) / R * R = t := by omega
  have t2 : F + (t - F) % R + p + (t - F) / R * R = t + p := by omega
  rw [t1] at e1
  rw [t2] at e2
  rw [e1, e2]
  exact base _ hlt
/-- the least p of such a search is the shortest RING -/
theorem pw_B_least {f : Nat → Bool} {F R p : Nat} (hR : 0 < R) (E : pw_E f F R) (hp : 0 < p) (hd : R % p = 0) (B : pw_B f F R p) (hl : ∀ q, 0 < q → q < p → ¬ (R % q = 0 ∧ pw_B f F R q)) : pw_E f F p ∧ ∀ q, 0 < q → q < p → ¬ pw_E f F q := by
  refine ⟨pw_B_E hp hR hd E B, ?_⟩
  intro q h0 hq Eq
  -- the least length of all divides the round
  obtain ⟨k, ⟨k0, kE⟩, kl⟩ := pk_least (fun k => 0 < k ∧ pw_E f F k) ⟨q, h0, Eq⟩
  have kq : k ≤ q := by
    rcases Nat.lt_or_ge q k with z | z
    · exact absurd ⟨h0, Eq⟩ (kl q z)
    · exact z
  have km : R % k = 0 := by
    rcases Nat.eq_zero_or_pos (R % k) with z | z
    · exact z
    · exact absurd ⟨z, pw_E_mod E kE⟩ (kl _ (Nat.mod_lt _ k0))
  exact hl k k0 (by omega) ⟨km, pw_B_of kE⟩
theorem pw_E_ex {f : Nat → Bool} {F R : Nat} (hR : 0 < R) (E : pw_E f F R) : ∃ h p, pw_Can f h p ∧ h ≤ F ∧ p ≤ R := by
  obtain ⟨p, ⟨p0, pE⟩, pl⟩ := pk_least (fun k => 0 < k ∧ pw_E f F k) ⟨R, hR, E⟩
  obtain ⟨h, hE, hl⟩ := pk_least (fun k => pw_E f k p) ⟨F, pE⟩
  have hF : h ≤ F := by
    rcases Nat.lt_or_ge F h with z | z
    · exact absurd pE (hl F z)
    · exact z
  have pR : p ≤ R := by
    rcases Nat.lt_or_ge R p with z | z
    · exact absurd ⟨hR, E⟩ (pl R z)
    · exact z
  refine ⟨h, p, pw_Can_of hR E p0 (fun q a b c => pl q b ⟨a, c⟩) hE ?_, hF, pR⟩
  rcases Nat.eq_zero_or_pos h with z | z
  · exact Or.inl z
  · right
    intro e
    refine hl (h - 1) (by omega) ?_
    intro t ht
    rcases Nat.lt_or_ge t h with y | y
    · have : t = h - 1 := by omega
      subst this
      exact e.symm
    · exact hE t y
/-! bits into a number -/
def pw_b (f : Nat → Bool) (s : Nat) : Nat → Nat
  | 0 => 0
  | n + 1 => pw_b f s n + (f (s + n)).toNat * 2 ^ n
theorem pw_b_s (f : Nat → Bool) (s n : Nat) : pw_b f s (n + 1) = pw_b f s n + (f (s + n)).toNat * 2 ^ n := rfl
theorem pw_b_lt (f : Nat → Bool) (s n : Nat) : pw_b f s n < 2 ^ n := by
  induction n with
  | zero => exact Nat.one_pos
  | succ n ih =>
    rw [pw_b_s, Nat.pow_succ]
    rcases pw_tn (f (s + n)) with z | z <;> rw [z.1] <;> omega
theorem pw_b_t (f : Nat → Bool) (s n : Nat) : ∀ i, i < n → (pw_b f s n).testBit i = f (s + i) := by
  induction n with
  | zero => intro i h; omega
  | succ n ih =>
    intro i h
    have hl := pw_b_lt f s n
    rw [pw_b_s, Nat.add_comm, Nat.mul_comm, Nat.testBit_two_pow_mul_add _ hl]
    rcases Nat.lt_or_ge i n with q | q
    · rw [if_pos q, ih i q]
    · have : i = n := by omega
      subst this
      rw [if_neg (by omega), Nat.sub_self]
      rcases pw_tn (f (s + i)) with z | z <;> rw [z.1, z.2] <;> rfl
theorem pw_b_big (f : Nat → Bool) (s n i : Nat) (h : n ≤ i) : (pw_b f s n).testBit i = false :=
  Nat.testBit_lt_two_pow (Nat.lt_of_lt_of_le (pw_b_lt f s n) (Nat.pow_le_pow_right (by decide) h))
theorem pw_b_inj {f g : Nat → Bool} {s u n : Nat} (h : ∀ i, i < n → f (s + i) = g (u + i)) : pw_b f s n = pw_b g u n := by
  induction n with
  | zero => rfl
  | succ n ih => rw [pw_b_s, pw_b_s, ih (fun i hi => h i (by omega)), h n (by omega)]
/-- a number's 1s below k -/
def pw_p (x k : Nat) : Nat := pw_c (fun i => x.testBit i) k
theorem pw_p_b (f : Nat → Bool) (s n k : Nat) (h : k ≤ n) : pw_p (pw_b f s n) k = pw_c (fun i => f (s + i)) k := pw_c_congr (fun i hi => pw_b_t f s n i (by omega))
