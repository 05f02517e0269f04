section
/-! endless words of bits: how many 1s stand ahead of a place, words that come back, their shortest form -/
def pw_c (f : Nat → Bool) : Nat → Nat
  | 0 => 0
  | n + 1 => pw_c f n + (f n).toNat
theorem pw_tn (b : Bool) : b.toNat = 0 ∧ b = false ∨ b.toNat = 1 ∧ b = true := by cases b <;> simp
theorem pw_c_s (f : Nat → Bool) (n : Nat) : pw_c f (n + 1) = pw_c f n + (f n).toNat := rfl
theorem pw_c_le (f : Nat → Bool) (n : Nat) : pw_c f n ≤ n := by
  induction n with
  | zero => exact Nat.le_refl 0
  | succ n ih => rw [pw_c_s]; rcases pw_tn (f n) with h | h <;> omega
theorem pw_c_congr {f g : Nat → Bool} {n : Nat} (h : ∀ i, i < n → f i = g i) : pw_c f n = pw_c g n := by
  induction n with
  | zero => rfl
  | succ n ih => rw [pw_c_s, pw_c_s, ih (fun i hi => h i (by omega)), h n (by omega)]
theorem pw_c_add (f : Nat → Bool) (a b : Nat) : pw_c f (a + b) = pw_c f a + pw_c (fun i => f (a + i)) b := by
  induction b with
  | zero => rfl
  | succ b ih => rw [← Nat.add_assoc, pw_c_s, pw_c_s, ih, Nat.add_assoc]
theorem pw_c_mono {f : Nat → Bool} {a b : Nat} (h : a ≤ b) : pw_c f a ≤ pw_c f b := by
  obtain ⟨k, rfl⟩ : ∃ k, b = a + k := ⟨b - a, by omega⟩
  rw [pw_c_add]; omega
theorem pw_c_lt {f : Nat → Bool} {a b : Nat} (h : a < b) (hf : f a = true) : pw_c f a < pw_c f b := by
  have := pw_c_mono (f := f) (show a + 1 ≤ b from h)
  rw [pw_c_s, hf] at this
  have e : (true).toNat = 1 := rfl
  omega
/-- a place for each number of 1s -/
theorem pw_c_at {f : Nat → Bool} {n j : Nat} (h : j < pw_c f n) : ∃ i, i < n ∧ f i = true ∧ pw_c f i = j := by
  induction n with
  | zero => exact absurd h (Nat.not_lt_zero _)
  | succ n ih =>
    rcases Nat.lt_or_ge j (pw_c f n) with q | q
    · obtain ⟨i, a, b⟩ := ih q
      exact ⟨i, by omega, b⟩
    · rw [pw_c_s] at h
      rcases pw_tn (f n) with z | z
      · omega
      · exact ⟨n, by omega, z.2, by omega⟩
theorem pw_c_0 {f : Nat → Bool} {n : Nat} (h : ∀ i, i < n → f i = false) : pw_c f n = 0 := by
  induction n with
  | zero => rfl
  | succ n ih => rw [pw_c_s, ih (fun i hi => h i (by omega)), h n (by omega)]; rfl
/-- TICK t is the one of the n-th 1 -/
def pw_N (f : Nat → Bool) (n t : Nat) : Prop := f t = true ∧ pw_c f t + 1 = n
theorem pw_N_u {f : Nat → Bool} {n t u : Nat} (h : pw_N f n t) (k : pw_N f n u) : t = u := by
  rcases Nat.lt_trichotomy t u with q | q | q
  · have := pw_c_lt q h.1; have := h.2; have := k.2; omega
  · exact q
  · have := pw_c_lt q k.1; have := h.2; have := k.2; omega
theorem pw_N_lt {f : Nat → Bool} {n m t u : Nat} (h : pw_N f n t) (k : pw_N f m u) (hn : n < m) : t < u := by
  rcases Nat.lt_or_ge t u with q | q
  · exact q
  · have := pw_c_mono (f := f) q; have := h.2; have := k.2; omega
theorem pw_N_of {f : Nat → Bool} {n T : Nat} (h0 : 0 < n) (h : n ≤ pw_c f T) : ∃ t, t < T ∧ pw_N f n t := by
  obtain ⟨i, a, b, c⟩ := pw_c_at (f := f) (n := T) (j := n - 1) (by omega)
  exact ⟨i, a, b, by omega⟩
theorem pw_N_c {f : Nat → Bool} {n t : Nat} (h : pw_N f n t) : pw_c f (t + 1) = n := by
  have := h.2
  rw [pw_c_s, h.1]
  exact this
theorem pw_N_pos {f : Nat → Bool} {n t : Nat} (h : pw_N f n t) : 0 < n := by have := h.2; omega
/-- from h on f comes back after p -/
def pw_E (f : Nat → Bool) (h p : Nat) : Prop := ∀ t, h ≤ t → f (t + p) = f t
theorem pw_E_mul {f : Nat → Bool} {h p : Nat} (E : pw_E f h p) (k : Nat) : pw_E f h (k * p) := by
  induction k with
  | zero => intro t _; rw [Nat.zero_mul]; rfl
  | succ k ih =>
    intro t ht
    rw [Nat.succ_mul, ← Nat.add_assoc, E (t + k * p) (by omega), ih t ht]
theorem pw_E_dvd {f : Nat → Bool} {h p q : Nat} (E : pw_E f h p) (hd : p ∣ q) : pw_E f h q := by
  obtain ⟨k, rfl⟩ := hd
  rw [Nat.mul_comm]
  exact pw_E_mul E k
theorem pw_E_up {f : Nat → Bool} {h h' p : Nat} (E : pw_E f h p) (hh : h ≤ h') : pw_E f h' p := fun t ht => E t (by omega)
theorem pw_E_back {f : Nat → Bool} {F R h p : Nat} (hR : 0 < R) (E : pw_E f F R) (E2 : pw_E f h p) : pw_E f F p := by
  intro t ht
  have a := pw_E_mul E h t ht
  have b := pw_E_mul E h (t + p) (by omega)
  have z : h ≤ h * R := Nat.le_mul_of_pos_right h hR
  have d := E2 (t + h * R) (by omega)
  rw [← a, ← b, ← d]
  congr 1
  omega
theorem pw_E_mod {f : Nat → Bool} {F R p : Nat} (E : pw_E f F R) (E2 : pw_E f F p) : pw_E f F (R % p) := by
  intro t ht
  have a := pw_E_mul E2 (R / p) (t + R % p) (by omega)
  have b := E t ht
  rw [← a, ← b]
  congr 1
  have := Nat.mod_add_div R p
  rw [Nat.mul_comm] at this
  omega
/-- the FORM: the shortest RING, and with it the shortest HEAD -/
def pw_Can (f : Nat → Bool) (h p : Nat) : Prop := 0 < p ∧ pw_E f h p ∧ (∀ h' p', 0 < p' → pw_E f h' p' → p ≤ p') ∧ (h = 0 ∨ f (h - 1) ≠ f (h - 1 + p))
theorem pw_Can_le {f : Nat → Bool} {h p h' : Nat} (C : h = 0 ∨ f (h - 1) ≠ f (h - 1 + p)) (E : pw_E f h' p) : h ≤ h' := by
  rcases C with C | C
  · omega
  · rcases Nat.lt_or_ge h' h with q | q
    · exact absurd (E (h - 1) (by omega)).symm C
    · exact q
theorem pw_Can_u {f : Nat → Bool} {h p h' p' : Nat} (C : pw_Can f h p) (C' : pw_Can f h' p') : h = h' ∧ p = p' := by
  obtain ⟨a1, a2, a3, a4⟩ := C
  obtain ⟨b1, b2, b3, b4⟩ := C'
  have e : p = p' := Nat.le_antisymm (a3 h' p' b1 b2) (b3 h p a1 a2)
  subst e
  exact ⟨Nat.le_antisymm (pw_Can_le a4 b2) (pw_Can_le b4 a2), rfl⟩
/-- the least one of the lengths that come back from F on is the shortest of all -/
theorem pw_least {f : Nat → Bool} {F R p : Nat} (hR : 0 < R) (E : pw_E f F R) (hl : ∀ q, 0 < q → q < p → ¬ pw_E f F q) : ∀ h' p', 0 < p' → pw_E f h' p' → p ≤ p' := by
  intro h' p' h0 E'
  rcases Nat.lt_or_ge p' p with q | q
  · exact absurd (pw_E_back hR E E') (hl p' h0 q)
  · exact q
theorem pw_Can_of {f : Nat → Bool} {F R p h : Nat} (hR : 0 < R) (E : pw_E f F R) (hp : 0 < p) (hl : ∀ q, 0 < q → q < p → ¬ pw_E f F q) (Eh : pw_E f h p) (hh : h = 0 ∨ f (h - 1) ≠ f (h - 1 + p)) : pw_Can f h p :=
  ⟨hp, Eh, pw_least hR E hl, hh⟩
/-- the search in one round: p divides the round, and within the round each bit is the one p further on -/
def pw_B (f : Nat → Bool) (F R p : Nat) : Prop := ∀ k, k + p < R → f (F + k) = f (F + k + p)
theorem pw_B_of {f : Nat → Bool} {F R p : Nat} (E : pw_E f F p) : pw_B f F R p := fun k _ => (E (F + k) (by omega)).symm
theorem pw_B_st {f : Nat → Bool} {F R p : Nat} (B : pw_B f F R p) (j m : Nat) (h : j + m * p < R) : f (F + (j + m * p)) = f (F + j) := by
  induction m with
  | zero => rw [Nat.zero_mul]; rfl
  | succ m ih =>
    rw [Nat.succ_mul] at h
    have a := B (j + m * p) (by omega)
    rw [← ih (by omega), a]
    congr 1
    rw [Nat.succ_mul]
    omega
theorem pw_B_E {f : Nat → Bool} {F R p : Nat} (hp : 0 < p) (hR : 0 < R) (hd : R % p = 0) (E : pw_E f F R) (B : pw_B f F R p) : pw_E f F p := by
  obtain ⟨m, hm⟩ : ∃ m, R = m * p := ⟨R / p, by have := Nat.mod_add_div R p; rw [Nat.mul_comm] at this; omega⟩
  have hpR : p ≤ R := by
    cases m with
    | zero => rw [Nat.zero_mul] at hm; omega
    | succ m => rw [hm, Nat.succ_mul]; omega
  have base : ∀ j, j < R → f (F + j + p) = f (F + j) := by
    intro j hj
    rcases Nat.lt_or_ge (j + p) R with q | q
    · exact (B j q).symm
    · have a := E (F + (j + p - R)) (by omega)
      have b : f (F + (j + p - R) + R) = f (F + j + p) := by congr 1; omega
      rw [← b, a]
      cases m with
      | zero => rw [Nat.zero_mul] at hm; omega
      | succ m =>
        rw [Nat.succ_mul] at hm
        have d := pw_B_st B (j + p - R) m (by omega)
        rw [← d]
        congr 1
        omega
  intro t ht
  have hk := Nat.mod_add_div (t - F) R
  have hlt := Nat.mod_lt (t - F) hR
  have e1 := pw_E_mul E ((t - F) / R) (F + (t - F) % R) (by omega)
  have e2 := pw_E_mul E ((t - F) / R) (F + (t - F) % R + p) (by omega)
  rw [Nat.mul_comm] at hk
  have t1 : F + (t - F) % R + (t - F) / R * R = t := by omega
  have t2 : F + (t - F) % R + p + (t - F) / R * R = t + p := by omega
  rw [t1] at e1
  rw [t2] at e2
  rw [e1, e2]
  exact base _ hlt
/-- the least p of such a search is the shortest RING -/
theorem pw_B_least {f : Nat → Bool} {F R p : Nat} (hR : 0 < R) (E : pw_E f F R) (hp : 0 < p) (hd : R % p = 0) (B : pw_B f F R p) (hl : ∀ q, 0 < q → q < p → ¬ (R % q = 0 ∧ pw_B f F R q)) : pw_E f F p ∧ ∀ q, 0 < q → q < p → ¬ pw_E f F q := by
  refine ⟨pw_B_E hp hR hd E B, ?_⟩
  intro q h0 hq Eq
  -- the least length of all divides the round
  obtain ⟨k, ⟨k0, kE⟩, kl⟩ := pk_least (fun k => 0 < k ∧ pw_E f F k) ⟨q, h0, Eq⟩
  have kq : k ≤ q := by
    rcases Nat.lt_or_ge q k with z | z
    · exact absurd ⟨h0, Eq⟩ (kl q z)
    · exact z
  have km : R % k = 0 := by
    rcases Nat.eq_zero_or_pos (R % k) with z | z
    · exact z
    · exact absurd ⟨z, pw_E_mod E kE⟩ (kl _ (Nat.mod_lt _ k0))
  exact hl k k0 (by omega) ⟨km, pw_B_of kE⟩
theorem pw_E_ex {f : Nat → Bool} {F R : Nat} (hR : 0 < R) (E : pw_E f F R) : ∃ h p, pw_Can f h p ∧ h ≤ F ∧ p ≤ R := by
  obtain ⟨p, ⟨p0, pE⟩, pl⟩ := pk_least (fun k => 0 < k ∧ pw_E f F k) ⟨R, hR, E⟩
  obtain ⟨h, hE, hl⟩ := pk_least (fun k => pw_E f k p) ⟨F, pE⟩
  have hF : h ≤ F := by
    rcases Nat.lt_or_ge F h with z | z
    · exact absurd pE (hl F z)
    · exact z
  have pR : p ≤ R := by
    rcases Nat.lt_or_ge R p with z | z
    · exact absurd ⟨hR, E⟩ (pl R z)
    · exact z
  refine ⟨h, p, pw_Can_of hR E p0 (fun q a b c => pl q b ⟨a, c⟩) hE ?_, hF, pR⟩
  rcases Nat.eq_zero_or_pos h with z | z
  · exact Or.inl z
  · right
    intro e
    refine hl (h - 1) (by omega) ?_
    intro t ht
    rcases Nat.lt_or_ge t h with y | y
    · have : t = h - 1 := by omega
      subst this
      exact e.symm
    · exact hE t y
/-! bits into a number -/
def pw_b (f : Nat → Bool) (s : Nat) : Nat → Nat
  | 0 => 0
  | n + 1 => pw_b f s n + (f (s + n)).toNat * 2 ^ n
theorem pw_b_s (f : Nat → Bool) (s n : Nat) : pw_b f s (n + 1) = pw_b f s n + (f (s + n)).toNat * 2 ^ n := rfl
theorem pw_b_lt (f : Nat → Bool) (s n : Nat) : pw_b f s n < 2 ^ n := by
  induction n with
  | zero => exact Nat.one_pos
  | succ n ih =>
    rw [pw_b_s, Nat.pow_succ]
    rcases pw_tn (f (s + n)) with z | z <;> rw [z.1] <;> omega
theorem pw_b_t (f : Nat → Bool) (s n : Nat) : ∀ i, i < n → (pw_b f s n).testBit i = f (s + i) := by
  induction n with
  | zero => intro i h; omega
  | succ n ih =>
    intro i h
    have hl := pw_b_lt f s n
    rw [pw_b_s, Nat.add_comm, Nat.mul_comm, Nat.testBit_two_pow_mul_add _ hl]
    rcases Nat.lt_or_ge i n with q | q
    · rw [if_pos q, ih i q]
    · have : i = n := by omega
      subst this
      rw [if_neg (by omega), Nat.sub_self]
      rcases pw_tn (f (s + i)) with z | z <;> rw [z.1, z.2] <;> rfl
theorem pw_b_big (f : Nat → Bool) (s n i : Nat) (h : n ≤ i) : (pw_b f s n).testBit i = false :=
  Nat.testBit_lt_two_pow (Nat.lt_of_lt_of_le (pw_b_lt f s n) (Nat.pow_le_pow_right (by decide) h))
theorem pw_b_inj {f g : Nat → Bool} {s u n : Nat} (h : ∀ i, i < n → f (s + i) = g (u + i)) : pw_b f s n = pw_b g u n := by
  induction n with
  | zero => rfl
  | succ n ih => rw [pw_b_s, pw_b_s, ih (fun i hi => h i (by omega)), h n (by omega)]
/-- a number's 1s below k -/
def pw_p (x k : Nat) : Nat := pw_c (fun i => x.testBit i) k
theorem pw_p_b (f : Nat → Bool) (s n k : Nat) (h : k ≤ n) : pw_p (pw_b f s n) k = pw_c (fun i => f (s + i)) k := pw_c_congr (fun i hi => pw_b_t f s n i (by omega))
end
section
/-! the 1s of a word that comes back -/
def pw_o (f : Nat → Bool) (h p : Nat) : Nat := pw_c (fun i => f (h + i)) p
theorem pw_o_le (f : Nat → Bool) (h p : Nat) : pw_o f h p ≤ p := pw_c_le _ _
theorem pw_ring {f : Nat → Bool} {h p : Nat} (E : pw_E f h p) (k j : Nat) : pw_c f (h + (k * p + j)) = pw_c f h + (k * pw_o f h p + pw_c (fun i => f (h + i)) j) := by
  rw [pw_c_add]
  congr 1
  induction k with
  | zero => rw [Nat.zero_mul, Nat.zero_add, Nat.zero_mul, Nat.zero_add]
  | succ k ih =>
    have e : (k + 1) * p + j = p + (k * p + j) := by rw [Nat.succ_mul]; omega
    rw [e, pw_c_add]
    have c : pw_c (fun i => (fun i => f (h + i)) (p + i)) (k * p + j) = pw_c (fun i => f (h + i)) (k * p + j) := by
      refine pw_c_congr (fun i _ => ?_)
      have a := E (h + i) (by omega)
      show f (h + (p + i)) = f (h + i)
      rw [← a]
      congr 1
      omega
    rw [c, ih, Nat.succ_mul]
    show pw_o f h p + _ = _
    omega
theorem pw_c_per {f : Nat → Bool} {h p : Nat} (E : pw_E f h p) (hp : 0 < p) (k : Nat) {t : Nat} (ht : h ≤ t) : pw_c f (t + k * p) = pw_c f t + k * pw_o f h p := by
  have e := Nat.mod_add_div (t - h) p
  rw [Nat.mul_comm] at e
  have a := pw_ring E ((t - h) / p) ((t - h) % p)
  have b := pw_ring E ((t - h) / p + k) ((t - h) % p)
  have e1 : h + ((t - h) / p * p + (t - h) % p) = t := by omega
  have e2 : h + (((t - h) / p + k) * p + (t - h) % p) = t + k * p := by rw [Nat.add_mul]; omega
  rw [e1] at a
  rw [e2, Nat.add_mul] at b
  omega
theorem pw_c_far {f : Nat → Bool} {h p : Nat} (E : pw_E f h p) {t : Nat} (ht : h ≤ t) : pw_c f t = pw_c f h + ((t - h) / p * pw_o f h p + pw_c (fun i => f (h + i)) ((t - h) % p)) := by
  have e := Nat.mod_add_div (t - h) p
  rw [Nat.mul_comm] at e
  have a := pw_ring E ((t - h) / p) ((t - h) % p)
  have e1 : h + ((t - h) / p * p + (t - h) % p) = t := by omega
  rw [e1] at a
  exact a
theorem pw_N_per {f : Nat → Bool} {h p : Nat} (E : pw_E f h p) (hp : 0 < p) (k : Nat) {n t : Nat} (ht : h ≤ t) (N : pw_N f n t) : pw_N f (n + k * pw_o f h p) (t + k * p) := by
  refine ⟨by rw [pw_E_mul E k t ht]; exact N.1, ?_⟩
  rw [pw_c_per E hp k ht]
  have := N.2
  omega
theorem pw_N_far {f : Nat → Bool} {h n t : Nat} (N : pw_N f n t) (hn : pw_c f h < n) : h ≤ t := by
  rcases Nat.lt_or_ge t h with q | q
  · have := pw_c_mono (f := f) (show t + 1 ≤ h from q)
    have := pw_N_c N
    omega
  · exact q
theorem pw_o_0 {f : Nat → Bool} {h p : Nat} (E : pw_E f h p) (hp : 0 < p) (ho : pw_o f h p = 0) {t : Nat} (ht : h ≤ t) : f t = false := by
  have a := pw_c_per E hp 1 ht
  rw [ho] at a
  rcases pw_tn (f t) with z | z
  · exact z.2
  · have := pw_c_lt (show t < t + 1 * p by omega) z.2
    omega
theorem pw_o_0c {f : Nat → Bool} {h p : Nat} (E : pw_E f h p) (hp : 0 < p) (ho : pw_o f h p = 0) (t : Nat) : pw_c f t ≤ pw_c f h := by
  rcases Nat.lt_or_ge t h with q | q
  · exact pw_c_mono (by omega)
  · obtain ⟨k, rfl⟩ : ∃ k, t = h + k := ⟨t - h, by omega⟩
    rw [pw_c_add, pw_c_0 (f := fun i => f (h + i)) (fun i _ => pw_o_0 E hp ho (by omega))]
    omega
/-- is there an n-th 1? -/
theorem pw_has {f : Nat → Bool} {h p n : Nat} (E : pw_E f h p) (hp : 0 < p) (hn : 0 < n) : (∃ t, pw_N f n t) ↔ 0 < pw_o f h p ∨ n ≤ pw_c f h := by
  constructor
  · rintro ⟨t, N⟩
    rcases Nat.eq_zero_or_pos (pw_o f h p) with z | z
    · right
      have := pw_o_0c E hp z (t + 1)
      rw [pw_N_c N] at this
      exact this
    · exact Or.inl z
  · rintro (z | z)
    · have a := pw_c_per E hp n (Nat.le_refl h)
      have : n ≤ n * pw_o f h p := Nat.le_mul_of_pos_right n z
      obtain ⟨t, -, N⟩ := pw_N_of (f := f) hn (T := h + n * p) (by omega)
      exact ⟨t, N⟩
    · obtain ⟨t, -, N⟩ := pw_N_of hn z
      exact ⟨t, N⟩
/-- the n-th 1 behind the HEAD, by the place of the one in the RING -/
theorem pw_N_ring {f : Nat → Bool} {h p : Nat} (E : pw_E f h p) (hp : 0 < p) (k : Nat) {j pl : Nat} (hf : f (h + pl) = true) (hc : pw_c (fun i => f (h + i)) pl = j) : pw_N f (pw_c f h + (k * pw_o f h p + j) + 1) (h + (k * p + pl)) := by
  refine ⟨?_, ?_⟩
  · have a := pw_E_mul E k (h + pl) (by omega)
    rw [show h + (k * p + pl) = h + pl + k * p by omega, a]
    exact hf
  · rw [pw_ring E k pl, hc]
noncomputable def pw_tk (f : Nat → Bool) (n : Nat) : Nat := @dite _ (∃ t, pw_N f n t) (Classical.propDecidable _) (fun h => Classical.choose h) (fun _ => 0)
theorem pw_tk_of {f : Nat → Bool} {n t : Nat} (N : pw_N f n t) : pw_tk f n = t := by
  have h : ∃ t, pw_N f n t := ⟨t, N⟩
  unfold pw_tk
  rw [dif_pos h]
  exact pw_N_u (Classical.choose_spec h) N
theorem pw_tk_N {f : Nat → Bool} {n : Nat} (h : ∃ t, pw_N f n t) : pw_N f n (pw_tk f n) := by
  obtain ⟨t, N⟩ := h
  rw [pw_tk_of N]
  exact N
/-! the words that are made -/
def pw_and (f g : Nat → Bool) : Nat → Bool := fun t => f t && g t
def pw_or (f g : Nat → Bool) : Nat → Bool := fun t => f t || g t
def pw_xor (f g : Nat → Bool) : Nat → Bool := fun t => f t ^^ g t
def pw_not (f : Nat → Bool) : Nat → Bool := fun t => !f t
def pw_on (f g : Nat → Bool) : Nat → Bool := fun t => f t && g (pw_c f t)
noncomputable def pw_by (f g : Nat → Bool) : Nat → Bool := fun n => f (pw_tk g (n + 1))
def pw_late (f : Nat → Bool) (d : Nat) : Nat → Bool := fun t => if t < d then false else f (t - d)
def pw_half (f : Nat → Bool) : Nat → Bool := fun t => f t && decide (pw_c f t % 2 = 0)
noncomputable def pw_mk (how : Nat) (f g : Nat → Bool) (d : Nat) : Nat → Bool :=
  if how = 0 then pw_and f g else if how = 1 then pw_or f g else if how = 2 then pw_xor f g else if how = 3 then pw_not f else if how = 4 then pw_on f g else if how = 5 then pw_by f g else if how = 6 then pw_late f d else pw_half f
theorem pw_E_and {f g : Nat → Bool} {F R : Nat} (a : pw_E f F R) (b : pw_E g F R) : pw_E (pw_and f g) F R := fun t ht => by show (f (t + R) && g (t + R)) = _; rw [a t ht, b t ht]; rfl
theorem pw_E_or {f g : Nat → Bool} {F R : Nat} (a : pw_E f F R) (b : pw_E g F R) : pw_E (pw_or f g) F R := fun t ht => by show (f (t + R) || g (t + R)) = _; rw [a t ht, b t ht]; rfl
theorem pw_E_xor {f g : Nat → Bool} {F R : Nat} (a : pw_E f F R) (b : pw_E g F R) : pw_E (pw_xor f g) F R := fun t ht => by show (f (t + R) ^^ g (t + R)) = _; rw [a t ht, b t ht]; rfl
theorem pw_E_not {f : Nat → Bool} {F R : Nat} (a : pw_E f F R) : pw_E (pw_not f) F R := fun t ht => by show (!f (t + R)) = _; rw [a t ht]; rfl
theorem pw_E_late {f : Nat → Bool} {h p : Nat} (a : pw_E f h p) (d : Nat) : pw_E (pw_late f d) (h + d) p := fun t ht => by
  unfold pw_late
  rw [if_neg (by omega), if_neg (by omega), show t + p - d = t - d + p by omega, a (t - d) (by omega)]
theorem pw_E_half {f : Nat → Bool} {h p : Nat} (a : pw_E f h p) (hp : 0 < p) (k : Nat) (hk : k * pw_o f h p % 2 = 0) : pw_E (pw_half f) h (k * p) := fun t ht => by
  unfold pw_half
  rw [pw_E_mul a k t ht, pw_c_per a hp k ht, show (pw_c f t + k * pw_o f h p) % 2 = pw_c f t % 2 by omega]
theorem pw_E_on0 {f : Nat → Bool} {h p : Nat} (a : pw_E f h p) (hp : 0 < p) (ho : pw_o f h p = 0) (g : Nat → Bool) (R : Nat) : pw_E (pw_on f g) h R := fun t ht => by
  unfold pw_on
  rw [pw_o_0 a hp ho ht, pw_o_0 a hp ho (show h ≤ t + R by omega)]
  rfl
theorem pw_E_on {f g : Nat → Bool} {h p hb pb F : Nat} (a : pw_E f h p) (hp : 0 < p) (b : pw_E g hb pb) (hF : h ≤ F) (hc : hb ≤ pw_c f F) (k : Nat) (hd : pb ∣ k * pw_o f h p) : pw_E (pw_on f g) F (k * p) := fun t ht => by
  unfold pw_on
  rw [pw_E_mul a k t (by omega), pw_c_per a hp k (by omega), pw_E_dvd b hd (pw_c f t) (Nat.le_trans hc (pw_c_mono ht))]
theorem pw_E_by {f g : Nat → Bool} {ha pa hb pb M : Nat} (a : pw_E f ha pa) (b : pw_E g hb pb) (hpb : 0 < pb) (ho : 0 < pw_o g hb pb) (h1 : ha ≤ M) (h2 : hb ≤ M) (k : Nat) (hd : pa ∣ k * pb) : pw_E (pw_by f g) (pw_c g M) (k * pw_o g hb pb) := fun n hn => by
  obtain ⟨t, N⟩ := (pw_has b hpb (show 0 < n + 1 by omega)).mpr (Or.inl ho)
  have hM : M ≤ t := pw_N_far N (by omega)
  have N2 := pw_N_per b hpb k (show hb ≤ t by omega) N
  unfold pw_by
  rw [pw_tk_of N, show n + k * pw_o g hb pb + 1 = n + 1 + k * pw_o g hb pb by omega, pw_tk_of N2, pw_E_dvd a hd t (by omega)]
/-! what is kept between two words; how long one waits -/
def pw_ks (f g : Nat → Bool) : Nat → Nat
  | 0 => 0
  | n + 1 => max (pw_ks f g n) (pw_c f (n + 1) - pw_c g (n + 1))
theorem pw_ks_s (f g : Nat → Bool) (n : Nat) : pw_ks f g (n + 1) = max (pw_ks f g n) (pw_c f (n + 1) - pw_c g (n + 1)) := rfl
theorem pw_ks_ge (f g : Nat → Bool) {n N : Nat} (h : n ≤ N) : pw_c f n - pw_c g n ≤ pw_ks f g N := by
  induction N with
  | zero => have : n = 0 := by omega
            subst this; exact Nat.le_refl 0
  | succ N ih =>
    rw [pw_ks_s]
    rcases Nat.lt_or_ge n (N + 1) with q | q
    · have := ih (by omega); omega
    · have : n = N + 1 := by omega
      subst this; omega
theorem pw_ks_le {f g : Nat → Bool} {N x : Nat} (h : ∀ n, n ≤ N → pw_c f n - pw_c g n ≤ x) : pw_ks f g N ≤ x := by
  induction N with
  | zero => exact Nat.zero_le x
  | succ N ih =>
    rw [pw_ks_s]
    have := ih (fun n hn => h n (by omega))
    have := h (N + 1) (Nat.le_refl _)
    omega
theorem pw_ks_mono (f g : Nat → Bool) {N N' : Nat} (h : N ≤ N') : pw_ks f g N ≤ pw_ks f g N' := pw_ks_le (fun n hn => pw_ks_ge f g (by omega))
theorem pw_ks_st {f g : Nat → Bool} {ha pa hb pb M L N : Nat} (a : pw_E f ha pa) (b : pw_E g hb pb) (hpa : 0 < pa) (hpb : 0 < pb) (h1 : ha ≤ M) (h2 : hb ≤ M) (hL : 0 < L) (d1 : pa ∣ L) (d2 : pb ∣ L) (hr : pw_o f ha pa * pb = pw_o g hb pb * pa) (hN : M + L ≤ N) : pw_ks f g N = pw_ks f g (M + L) := by
  obtain ⟨x, hx⟩ := d1
  obtain ⟨y, hy⟩ := d2
  rw [Nat.mul_comm] at hx hy
  have hxy : x * pw_o f ha pa = y * pw_o g hb pb := by
    apply Nat.eq_of_mul_eq_mul_right hpb
    calc x * pw_o f ha pa * pb = x * (pw_o g hb pb * pa) := by rw [Nat.mul_assoc, hr]
      _ = x * pa * pw_o g hb pb := by rw [Nat.mul_comm (pw_o g hb pb) pa, Nat.mul_assoc]
      _ = y * pw_o g hb pb * pb := by rw [← hx, hy, Nat.mul_assoc, Nat.mul_assoc, Nat.mul_comm pb]
  have step : ∀ t, M ≤ t → pw_c f (t + L) - pw_c g (t + L) = pw_c f t - pw_c g t := by
    intro t ht
    have e1 := pw_c_per a hpa x (show ha ≤ t by omega)
    have e2 := pw_c_per b hpb y (show hb ≤ t by omega)
    rw [← hx] at e1
    rw [← hy] at e2
    omega
  have all : ∀ n t, t ≤ n → pw_c f t - pw_c g t ≤ pw_ks f g (M + L) := by
    intro n
    induction n with
    | zero => intro t ht; exact pw_ks_ge f g (by omega)
    | succ n ih =>
      intro t ht
      rcases Nat.lt_or_ge (M + L) t with q | q
      · have e := step (t - L) (by omega)
        rw [show t - L + L = t by omega] at e
        rw [e]
        exact ih (t - L) (by omega)
      · exact pw_ks_ge f g q
  exact Nat.le_antisymm (pw_ks_le (fun n _ => all n n (Nat.le_refl n))) (pw_ks_mono f g hN)
noncomputable def pw_md (f g : Nat → Bool) : Nat → Nat
  | 0 => 0
  | n + 1 => max (pw_md f g n) (pw_tk f (n + 1) - pw_tk g (n + 1))
theorem pw_md_s (f g : Nat → Bool) (n : Nat) : pw_md f g (n + 1) = max (pw_md f g n) (pw_tk f (n + 1) - pw_tk g (n + 1)) := rfl
theorem pw_md_ge (f g : Nat → Bool) {n N : Nat} (h0 : 0 < n) (h : n ≤ N) : pw_tk f n - pw_tk g n ≤ pw_md f g N := by
  induction N with
  | zero => omega
  | succ N ih =>
    rw [pw_md_s]
    rcases Nat.lt_or_ge n (N + 1) with q | q
    · have := ih (by omega); omega
    · have : n = N + 1 := by omega
      subst this; omega
theorem pw_md_le {f g : Nat → Bool} {N x : Nat} (h : ∀ n, 0 < n → n ≤ N → pw_tk f n - pw_tk g n ≤ x) : pw_md f g N ≤ x := by
  induction N with
  | zero => exact Nat.zero_le x
  | succ N ih =>
    rw [pw_md_s]
    have := ih (fun n h0 hn => h n h0 (by omega))
    have := h (N + 1) (by omega) (Nat.le_refl _)
    omega
theorem pw_md_mono (f g : Nat → Bool) {N N' : Nat} (h : N ≤ N') : pw_md f g N ≤ pw_md f g N' := pw_md_le (fun n h0 hn => pw_md_ge f g h0 (by omega))
theorem pw_tk_per {f : Nat → Bool} {h p n : Nat} (E : pw_E f h p) (hp : 0 < p) (ho : 0 < pw_o f h p) (hn : pw_c f h < n) (k : Nat) : pw_tk f (n + k * pw_o f h p) = pw_tk f n + k * p := by
  obtain ⟨t, N⟩ := (pw_has E hp (show 0 < n by omega)).mpr (Or.inl ho)
  rw [pw_tk_of N, pw_tk_of (pw_N_per E hp k (pw_N_far N hn) N)]
theorem pw_md_st {f g : Nat → Bool} {ha pa hb pb M L N : Nat} (a : pw_E f ha pa) (b : pw_E g hb pb) (hpa : 0 < pa) (hpb : 0 < pb) (hoa : 0 < pw_o f ha pa) (hob : 0 < pw_o g hb pb) (h1 : pw_c f ha ≤ M) (h2 : pw_c g hb ≤ M) (hL : 0 < L) (d1 : pw_o f ha pa ∣ L) (d2 : pw_o g hb pb ∣ L) (hr : pw_o g hb pb * pa ≤ pw_o f ha pa * pb) (hN : M + L ≤ N) : pw_md f g N = pw_md f g (M + L) := by
  obtain ⟨x, hx⟩ := d1
  obtain ⟨y, hy⟩ := d2
  rw [Nat.mul_comm] at hx hy
  have hxy : x * pa ≤ y * pb := by
    apply Nat.le_of_mul_le_mul_right _ hob
    calc x * pa * pw_o g hb pb = x * (pw_o g hb pb * pa) := by rw [Nat.mul_assoc, Nat.mul_comm pa]
      _ ≤ x * (pw_o f ha pa * pb) := Nat.mul_le_mul_left x hr
      _ = y * pb * pw_o g hb pb := by rw [← Nat.mul_assoc, ← hx, hy, Nat.mul_assoc, Nat.mul_assoc, Nat.mul_comm pb]
  have step : ∀ n, M < n → pw_tk f (n + L) - pw_tk g (n + L) ≤ pw_tk f n - pw_tk g n := by
    intro n hn
    have e1 := pw_tk_per a hpa hoa (show pw_c f ha < n by omega) x
    have e2 := pw_tk_per b hpb hob (show pw_c g hb < n by omega) y
    rw [← hx] at e1
    rw [← hy] at e2
    omega
  have all : ∀ n t, 0 < t → t ≤ n → pw_tk f t - pw_tk g t ≤ pw_md f g (M + L) := by
    intro n
    induction n with
    | zero => intro t h0 ht; omega
    | succ n ih =>
      intro t h0 ht
      rcases Nat.lt_or_ge (M + L) t with q | q
      · have e := step (t - L) (by omega)
        rw [show t - L + L = t by omega] at e
        exact Nat.le_trans e (ih (t - L) (by omega) (by omega))
      · exact pw_md_ge f g h0 q
  exact Nat.le_antisymm (pw_md_le (fun n h0 _ => all n n h0 (Nat.le_refl n))) (pw_md_mono f g hN)
/-- a is AHEAD of b, by the numbers of 1s -/
def pw_ah (f g : Nat → Bool) : Prop := ∀ t, pw_c g t ≤ pw_c f t
theorem pw_ah_iff (f g : Nat → Bool) : pw_ah f g ↔ ∀ n t, pw_N g n t → ∃ u, pw_N f n u ∧ u ≤ t := by
  constructor
  · intro h n t N
    have e := pw_N_c N
    have := h (t + 1)
    obtain ⟨u, hu, K⟩ := pw_N_of (f := f) (T := t + 1) (pw_N_pos N) (by omega)
    exact ⟨u, K, by omega⟩
  · intro h t
    rcases Nat.lt_or_ge (pw_c f t) (pw_c g t) with q | q
    · obtain ⟨t0, h0, N⟩ := pw_N_of (f := g) (n := pw_c f t + 1) (T := t) (by omega) q
      obtain ⟨u, K, hu⟩ := h _ _ N
      have := pw_c_mono (f := f) (show u + 1 ≤ t by omega)
      have := pw_N_c K
      omega
    · exact q
/-- one round behind both HEADS tells all -/
theorem pw_ah_round {f g : Nat → Bool} {ha pa hb pb M : Nat} (a : pw_E f ha pa) (b : pw_E g hb pb) (hpa : 0 < pa) (hpb : 0 < pb) (h1 : ha ≤ M) (h2 : hb ≤ M) : pw_ah f g ↔ pw_o g hb pb * pa ≤ pw_o f ha pa * pb ∧ ∀ t, t ≤ M + pa * pb → pw_c g t ≤ pw_c f t := by
  have ea : ∀ k t, M ≤ t → pw_c f (t + k * (pa * pb)) = pw_c f t + k * (pw_o f ha pa * pb) := by
    intro k t ht
    have := pw_c_per a hpa (k * pb) (show ha ≤ t by omega)
    rw [show k * (pa * pb) = k * pb * pa by rw [Nat.mul_assoc, Nat.mul_comm pa], this, Nat.mul_assoc, Nat.mul_comm pb]
  have eb : ∀ k t, M ≤ t → pw_c g (t + k * (pa * pb)) = pw_c g t + k * (pw_o g hb pb * pa) := by
    intro k t ht
    have := pw_c_per b hpb (k * pa) (show hb ≤ t by omega)
    rw [show k * (pa * pb) = k * pa * pb by rw [Nat.mul_assoc], this, Nat.mul_assoc, Nat.mul_comm pa]
  constructor
  · intro h
    refine ⟨?_, fun t _ => h t⟩
    rcases Nat.lt_or_ge (pw_o f ha pa * pb) (pw_o g hb pb * pa) with q | q
    · exfalso
      have k := h (M + (pw_c f M + 1) * (pa * pb))
      rw [ea _ M (Nat.le_refl M), eb _ M (Nat.le_refl M)] at k
      have z : (pw_c f M + 1) * (pw_o f ha pa * pb + 1) ≤ (pw_c f M + 1) * (pw_o g hb pb * pa) := Nat.mul_le_mul_left _ q
      rw [Nat.mul_add] at z
      omega
    · exact q
  · rintro ⟨hr, hs⟩
    have hL : 0 < pa * pb := Nat.mul_pos hpa hpb
    have all : ∀ n t, t ≤ n → pw_c g t ≤ pw_c f t := by
      intro n
      induction n with
      | zero => intro t ht; exact hs t (by omega)
      | succ n ih =>
        intro t ht
        rcases Nat.lt_or_ge (M + pa * pb) t with q | q
        · have e1 := ea 1 (t - pa * pb) (by omega)
          have e2 := eb 1 (t - pa * pb) (by omega)
          rw [Nat.one_mul, show t - pa * pb + pa * pb = t by omega] at e1 e2
          have := ih (t - pa * pb) (by omega)
          omega
        · exact hs t q
    exact fun t => all t t (Nat.le_refl t)
end
section
/-! the 1s of a long, eight bits at a time -/
theorem pw_p_le (x k : Nat) : pw_p x k ≤ k := pw_c_le _ _
theorem pw_p_byte (x k : Nat) : pw_p x (8 + k) = pw_p (x % 256) 8 + pw_p (x / 256) k := by
  unfold pw_p
  rw [pw_c_add]
  congr 1
  · refine pw_c_congr (fun i hi => ?_)
    rw [show (256 : Nat) = 2 ^ 8 from rfl, Nat.testBit_mod_two_pow]
    simp [hi]
  · refine pw_c_congr (fun i _ => ?_)
    rw [show (256 : Nat) = 2 ^ 8 from rfl, Nat.testBit_div_two_pow, Nat.add_comm]
theorem pw_split (a b c d : Nat) (hb : b < 256) (hd : d < 256) : (a * 256 + b) &&& (c * 256 + d) = (a &&& c) * 256 + (b &&& d) := by
  have hbd : b &&& d < 2 ^ 8 := Nat.and_lt_two_pow b (show d < 2 ^ 8 from hd)
  apply Nat.eq_of_testBit_eq
  intro i
  rw [Nat.testBit_and, Nat.mul_comm a, Nat.mul_comm c, Nat.mul_comm (a &&& c), show (256 : Nat) = 2 ^ 8 from rfl, Nat.testBit_two_pow_mul_add _ (show b < 2 ^ 8 from hb), Nat.testBit_two_pow_mul_add _ (show d < 2 ^ 8 from hd), Nat.testBit_two_pow_mul_add _ hbd]
  rcases Nat.lt_or_ge i 8 with q | q
  · rw [if_pos q, if_pos q, if_pos q, Nat.testBit_and]
  · rw [if_neg (by omega), if_neg (by omega), if_neg (by omega), Nat.testBit_and]
def pw_m5 : Nat → Nat
  | 0 => 0
  | n + 1 => pw_m5 n * 256 + 85
def pw_m3 : Nat → Nat
  | 0 => 0
  | n + 1 => pw_m3 n * 256 + 51
def pw_mf : Nat → Nat
  | 0 => 0
  | n + 1 => pw_mf n * 256 + 15
def pw_y (n x : Nat) : Nat := x - ((x / 2) &&& pw_m5 n)
def pw_z (n y : Nat) : Nat := (y &&& pw_m3 n) + ((y / 4) &&& pw_m3 n)
def pw_wf (n z : Nat) : Nat := (z + z / 16) &&& pw_mf n
def pw_q (n x : Nat) : Nat := pw_wf n (pw_z n (pw_y n x))
theorem pw_k1 : ∀ u, u < 2 → ∀ b, b < 256 → (u * 128 + b / 2) &&& 85 = (b / 2) &&& 85 := by decide +kernel
theorem pw_k2 : ∀ u, u < 4 → ∀ b, b < 256 → (u * 64 + b / 4) &&& 51 = (b / 4) &&& 51 := by decide +kernel
def pw_y8 (b : Nat) : Nat := b - ((b / 2) &&& 85)
def pw_z8 (c : Nat) : Nat := (c &&& 51) + ((c / 4) &&& 51)
theorem pw_k3 : ∀ b, b < 256 → ((b / 2) &&& 85) ≤ b ∧ pw_y8 b < 256 ∧ pw_z8 (pw_y8 b) ≤ 68 ∧ pw_z8 (pw_y8 b) % 16 ≤ 4 ∧ pw_z8 (pw_y8 b) / 16 ≤ 4 := by decide +kernel
theorem pw_k4 : ∀ u, u < 5 → ∀ b, b < 256 → (pw_z8 (pw_y8 b) + (u * 16 + pw_z8 (pw_y8 b) / 16)) &&& 15 = pw_p b 8 := by decide +kernel
theorem pw_y_s (n x b : Nat) (hb : b < 256) : pw_y (n + 1) (x * 256 + b) = pw_y n x * 256 + pw_y8 b := by
  have e : (x * 256 + b) / 2 = (x / 2) * 256 + ((x % 2) * 128 + b / 2) := by omega
  have hle : ((x / 2) &&& pw_m5 n) ≤ x := Nat.le_trans Nat.and_le_left (Nat.div_le_self _ _)
  have h3 := (pw_k3 b hb).1
  unfold pw_y
  show x * 256 + b - ((x * 256 + b) / 2 &&& (pw_m5 n * 256 + 85)) = _
  rw [e, pw_split _ _ _ _ (by omega) (by omega), pw_k1 (x % 2) (by omega) b hb]
  unfold pw_y8
  generalize (x / 2) &&& pw_m5 n = A at *
  generalize (b / 2) &&& 85 = B at *
  omega
theorem pw_z_s (n y c : Nat) (hc : c < 256) : pw_z (n + 1) (y * 256 + c) = pw_z n y * 256 + pw_z8 c := by
  have e : (y * 256 + c) / 4 = (y / 4) * 256 + ((y % 4) * 64 + c / 4) := by omega
  unfold pw_z
  show ((y * 256 + c) &&& (pw_m3 n * 256 + 51)) + ((y * 256 + c) / 4 &&& (pw_m3 n * 256 + 51)) = _
  rw [e, pw_split _ _ _ _ hc (by omega), pw_split _ _ _ _ (by omega) (by omega), pw_k2 (y % 4) (by omega) c hc]
  unfold pw_z8
  generalize y &&& pw_m3 n = A
  generalize (y / 4) &&& pw_m3 n = B
  generalize c &&& 51 = C
  generalize (c / 4) &&& 51 = D
  omega
theorem pw_q_s (n x b : Nat) (hb : b < 256) (hz : pw_z n (pw_y n x) % 16 ≤ 4) : pw_q (n + 1) (x * 256 + b) = pw_q n x * 256 + pw_p b 8 := by
  obtain ⟨-, h2, h3, h4, h5⟩ := pw_k3 b hb
  have h6 := pw_k4 (pw_z n (pw_y n x) % 16) (by omega) b hb
  unfold pw_q
  rw [pw_y_s n x b hb, pw_z_s n _ _ h2]
  unfold pw_wf
  generalize pw_z n (pw_y n x) = z at *
  generalize pw_z8 (pw_y8 b) = d at *
  have e : z * 256 + d + (z * 256 + d) / 16 = (z + z / 16) * 256 + (d + (z % 16 * 16 + d / 16)) := by omega
  show z * 256 + d + (z * 256 + d) / 16 &&& (pw_mf n * 256 + 15) = _
  rw [e, pw_split _ _ _ _ (by omega) (by omega), h6]
theorem pw_zl (n x : Nat) (h : n = 0 → x = 0) : pw_z n (pw_y n x) % 16 ≤ 4 := by
  cases n with
  | zero =>
    rw [h rfl]
    decide
  | succ n =>
    have e : x = x / 256 * 256 + x % 256 := by omega
    have hb : x % 256 < 256 := Nat.mod_lt _ (by decide)
    obtain ⟨-, h2, h3, h4, h5⟩ := pw_k3 (x % 256) hb
    rw [e, pw_y_s n _ _ hb, pw_z_s n _ _ h2]
    omega
theorem pw_q8 {x : Nat} (hx : x < 18446744073709551616) : ∃ p0 p1 p2 p3 p4 p5 p6 p7 : Nat, p0 ≤ 8 ∧ p1 ≤ 8 ∧ p2 ≤ 8 ∧ p3 ≤ 8 ∧ p4 ≤ 8 ∧ p5 ≤ 8 ∧ p6 ≤ 8 ∧ p7 ≤ 8 ∧ pw_p x 64 = p0 + (p1 + (p2 + (p3 + (p4 + (p5 + (p6 + p7)))))) ∧
    pw_q 8 x = (((((((p7 * 256 + p6) * 256 + p5) * 256 + p4) * 256 + p3) * 256 + p2) * 256 + p1) * 256 + p0) := by
  have stp : ∀ n x, (n = 0 → x / 256 = 0) → pw_q (n + 1) x = pw_q n (x / 256) * 256 + pw_p (x % 256) 8 := by
    intro n x h
    have e : x = x / 256 * 256 + x % 256 := by omega
    have s := pw_q_s n (x / 256) (x % 256) (Nat.mod_lt _ (by decide)) (pw_zl n _ h)
    rw [← e] at s
    exact s
  have b : ∀ n k x, k = 8 + n → pw_p x k = pw_p (x % 256) 8 + pw_p (x / 256) n := by
    intro n k x h
    rw [h]
    exact pw_p_byte x n
  refine ⟨pw_p (x % 256) 8, pw_p (x / 256 % 256) 8, pw_p (x / 256 / 256 % 256) 8, pw_p (x / 256 / 256 / 256 % 256) 8, pw_p (x / 256 / 256 / 256 / 256 % 256) 8, pw_p (x / 256 / 256 / 256 / 256 / 256 % 256) 8, pw_p (x / 256 / 256 / 256 / 256 / 256 / 256 % 256) 8, pw_p (x / 256 / 256 / 256 / 256 / 256 / 256 / 256 % 256) 8, pw_p_le _ _, pw_p_le _ _, pw_p_le _ _, pw_p_le _ _, pw_p_le _ _, pw_p_le _ _, pw_p_le _ _, pw_p_le _ _, ?_, ?_⟩
  · rw [b 56 64 x rfl, b 48 56 _ rfl, b 40 48 _ rfl, b 32 40 _ rfl, b 24 32 _ rfl, b 16 24 _ rfl, b 8 16 _ rfl, b 0 8 (x / 256 / 256 / 256 / 256 / 256 / 256 / 256) rfl]
    have z : ∀ y, pw_p y 0 = 0 := fun _ => rfl
    rw [z]
    omega
  · have e0 : x / 256 / 256 / 256 / 256 / 256 / 256 / 256 / 256 = 0 := by omega
    have z : pw_q 0 0 = 0 := by decide
    rw [stp 7 x (by omega), stp 6 _ (by omega), stp 5 _ (by omega), stp 4 _ (by omega), stp 3 _ (by omega), stp 2 _ (by omega), stp 1 _ (by omega), stp 0 _ (fun _ => e0), e0, z]
    omega
theorem pw_pop {x w : Nat} (hx : x < 18446744073709551616) (hw : w = pw_q 8 x) : w < 1152921504606846976 ∧ (w + w / 256 + (w + w / 256) / 65536 + (w + w / 256 + (w + w / 256) / 65536) / 4294967296) % 128 = pw_p x 64 := by
  obtain ⟨p0, p1, p2, p3, p4, p5, p6, p7, h0, h1, h2, h3, h4, h5, h6, h7, hp, hq⟩ := pw_q8 hx
  rw [hq] at hw
  rw [hp]
  have e1 : w / 256 = ((((((p7 * 256 + p6) * 256 + p5) * 256 + p4) * 256 + p3) * 256 + p2) * 256 + p1) := by omega
  refine ⟨by omega, ?_⟩
  rw [e1]
  obtain ⟨v, hv⟩ : ∃ v, v = w + ((((((p7 * 256 + p6) * 256 + p5) * 256 + p4) * 256 + p3) * 256 + p2) * 256 + p1) := ⟨_, rfl⟩
  rw [← hv]
  have e2 : v / 65536 = (((((p7 * 256 + (p6 + p7)) * 256 + (p5 + p6)) * 256 + (p4 + p5)) * 256 + (p3 + p4)) * 256 + (p2 + p3)) := by omega
  rw [e2]
  obtain ⟨u, hu⟩ : ∃ u, u = v + (((((p7 * 256 + (p6 + p7)) * 256 + (p5 + p6)) * 256 + (p4 + p5)) * 256 + (p3 + p4)) * 256 + (p2 + p3)) := ⟨_, rfl⟩
  rw [← hu]
  have e3 : u / 4294967296 = (((p7 * 256 + (p6 + p7)) * 256 + (p5 + p6 + p7)) * 256 + (p4 + p5 + p6 + p7)) := by omega
  rw [e3]
  omega
end
