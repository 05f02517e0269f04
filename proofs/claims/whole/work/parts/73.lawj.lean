/-! both sides told by the same words: they answer alike, and stay so -/
def jn (n : Nat) (Wd : Nat → pw_V) (u' : md_S) : Prop := n = u'.2.1 ∧ n ≤ 40 ∧ mdAll u'.2.2.2.2.1 u'.2.2.2.2.2.1 u'.2.2.2.2.2.2.1 u'.2.2.2.2.2.2.2.1 n Wd
theorem md_at_eq {xh yr xh' yr' : Nat → Int32} {xb yb xb' yb' : Nat → Int64} {i h p : Nat} {f : Nat → Bool} (e : xh' i = xh i ∧ yr' i = yr i ∧ xb' i = xb i ∧ yb' i = yb i) (m : md_at xh yr xb yb i h p f) : md_at xh' yr' xb' yb' i h p f := by
  obtain ⟨m1, m2, m3, m4, m5, m6⟩ := m
  obtain ⟨e1, e2, e3, e4⟩ := e
  exact ⟨m1, e1.trans m2, e2.trans m3, e3.trans m4, e4.trans m5, m6⟩
theorem j_set {F : Nat → Bool} {n : Nat} {Wd : Nat → pw_V} {xh yr : Nat → Int32} {xb yb : Nat → Int64} {r r' : Int32} {u : cs_S} {u' : md_S} (hn : n < 40) (h : cs_set F n Wd r u) (h' : md_set F n xh yr xb yb r' u') (hm : mdAll xh yr xb yb n Wd) : r = r' ∧ jn u.1 u.2.2 u' := by
  obtain ⟨a, p, C, h⟩ := h
  obtain ⟨a', p', C', h'⟩ := h'
  obtain ⟨ea, ep⟩ := pw_Can_u C C'
  subst ea
  subst ep
  rcases h with ⟨h1, h2, h3, h4, h5, h6⟩ | ⟨h1, h3, h4, h6⟩
  · rcases h' with ⟨k1, k2, k3, k4, k5, k6⟩ | ⟨k1, k3, k4, k6⟩
    · refine ⟨by rw [h3, k3], by rw [h4, k4], by omega, ?_⟩
      intro i hi
      rcases Nat.lt_or_ge i n with z | z
      · rw [h6 i z]
        exact md_at_eq (k6 i z) (hm i z)
      · have e : i = n := by omega
        subst e
        rw [h5]
        exact k5
    · exact absurd ⟨h1, h2⟩ k1
  · rcases h' with ⟨k1, k2, k3, k4, k5, k6⟩ | ⟨k1, k3, k4, k6⟩
    · exact absurd ⟨k1, k2⟩ h1
    · refine ⟨by rw [h3, k3], by rw [h4, k4], by omega, ?_⟩
      intro i hi
      rw [h4] at hi
      rw [h6 i hi]
      exact md_at_eq (k6 i hi) (hm i hi)
theorem j_same {n : Nat} {Wd : Nat → pw_V} {xh yr : Nat → Int32} {xb yb : Nat → Int64} {th mo le : Int32} {bs : Nat → Int32} {W' : Nat → pw_V} {n' : Nat} (hn : n ≤ 40) (e : n' = n) (eW : ∀ i, i < n → W' i = Wd i) (hm : mdAll xh yr xb yb n Wd) : jn n' W' (th, n, mo, le, xh, yr, xb, yb, bs) := by
  subst e
  refine ⟨rfl, hn, ?_⟩
  intro i hi
  rw [eW i hi]
  exact hm i hi
theorem nI_in40 {n i j : Nat} (hn : n ≤ 40) (hi : i < n) (hj : j < n) (e : nI i = nI j) : i = j := (nI_eq (show i < 2 ^ 31 by omega) (show j < 2 ^ 31 by omega)).mp e
theorem j_word {n : Nat} {Wd : Nat → pw_V} {xh yr : Nat → Int32} {xb yb : Nat → Int64} {mo le : Int32} {bs : Nat → Int32} {x y z v r r' : Int32} {u : cs_S} {u' : md_S} (hn : n ≤ 40) (hm : mdAll xh yr xb yb n Wd)
    (h : (∃ h p, sp_wdv n x z h p ∧ cs_set (wf h y p v) n Wd r u) ∨ ((¬ ∃ h p, sp_wdv n x z h p) ∧ r = -1 ∧ u.1 = n ∧ ∀ i, i < n → u.2.2 i = Wd i))
    (h' : (∃ h p, sp_wdv n x z h p ∧ md_set (wf h y p v) n xh yr xb yb r' u' ∧ u'.1 = nI 0) ∨ ((¬ ∃ h p, sp_wdv n x z h p) ∧ r' = -1 ∧ u' = (nI 0, n, mo, le, xh, yr, xb, yb, bs))) : r = r' ∧ jn u.1 u.2.2 u' := by
  rcases h with ⟨a, p, w, h⟩ | ⟨w, h1, h2, h3⟩
  · rcases h' with ⟨a', p', w', h', -⟩ | ⟨w', -⟩
    · have ea : a = a' := (nI_eq (show a < 2 ^ 31 by have := w.2.1; omega) (show a' < 2 ^ 31 by have := w'.2.1; omega)).mp (w.2.2.2.2.1.symm.trans w'.2.2.2.2.1)
      have ep : p = p' := (nI_eq (show p < 2 ^ 31 by have := w.2.2.2.1; omega) (show p' < 2 ^ 31 by have := w'.2.2.2.1; omega)).mp (w.2.2.2.2.2.symm.trans w'.2.2.2.2.2)
      subst ea
      subst ep
      exact j_set w.1 h h' hm
    · exact absurd ⟨a, p, w⟩ w'
  · rcases h' with ⟨a', p', w', -⟩ | ⟨-, h1', h2'⟩
    · exact absurd ⟨a', p', w'⟩ w
    · subst h2'
      exact ⟨by rw [h1, h1'], j_same hn h2 h3 hm⟩
theorem sp_mkv_u {n k i j d k' i' j' d' : Nat} {x y z : Int32} (h : sp_mkv n x y z k i j d) (h' : sp_mkv n x y z k' i' j' d') : k = k' ∧ i = i' ∧ j = j' ∧ d = d' := by
  obtain ⟨a1, a2, a3, a4, a5, a6, a7, a8, a9⟩ := h
  obtain ⟨b1, b2, b3, b4, b5, b6, b7, b8, b9⟩ := h'
  have ek : k = k' := (nI_eq (show k < 2 ^ 31 by omega) (show k' < 2 ^ 31 by omega)).mp (a3.symm.trans b3)
  have ei : i = i' := (nI_eq (show i < 2 ^ 31 by omega) (show i' < 2 ^ 31 by omega)).mp (a5.symm.trans b5)
  subst ek
  subst ei
  refine ⟨rfl, rfl, ?_, ?_⟩
  · rcases Classical.em (sp_two k) with t | t
    · have p := a6 t
      have q := b6 t
      exact (nI_eq (show j < 2 ^ 31 by omega) (show j' < 2 ^ 31 by omega)).mp (p.2.symm.trans q.2)
    · rw [a8 t, b8 t]
  · rcases Classical.em (k = 6) with t | t
    · have p := a7 t
      have q := b7 t
      exact (nI_eq (show d < 2 ^ 31 by omega) (show d' < 2 ^ 31 by omega)).mp (p.2.symm.trans q.2)
    · rw [a9 t, b9 t]
def jt (k : Int32) (g : Nat → Int64) (r' th' : Int32) : Prop := (k = nI 0 ∧ th' = nI 0 ∧ g 0 = r'.toInt64) ∨ (k = nI 1 ∧ th' = nI 1)
theorem j_make {n : Nat} {Wd : Nat → pw_V} {wa : Nat → Option Nat} {xh yr : Nat → Int32} {xb yb : Nat → Int64} {mo le : Int32} {bs : Nat → Int32} {x y z k r' : Int32} {u : cs_S × (Nat → Int64)} {u' : md_S} (hn : n ≤ 40) (hm : mdAll xh yr xb yb n Wd)
    (h : (k = nI 0 ∧ ∃ r, mk_post n Wd x y z r u.1 ∧ u.2 0 = r.toInt64) ∨ (k = nI 1 ∧ mk_px n Wd x y z ∧ u.1 = (n, wa, Wd)))
    (h' : (∃ k i j d, sp_mkv n x y z k i j d ∧ (k = 5 → 0 < pw_o (Wd j).2.2 (Wd j).1 (Wd j).2.1) ∧ md_set (pw_mk k (Wd i).2.2 (Wd j).2.2 d) n xh yr xb yb r' u' ∧ u'.1 = nI 0) ∨ (∃ i j d, sp_mkv n x y z 5 i j d ∧ pw_o (Wd j).2.2 (Wd j).1 (Wd j).2.1 = 0 ∧ u' = (nI 1, n, mo, le, xh, yr, xb, yb, bs)) ∨ ((¬ ∃ k i j d, sp_mkv n x y z k i j d) ∧ r' = -1 ∧ u' = (nI 0, n, mo, le, xh, yr, xb, yb, bs))) : jn u.1.1 u.1.2.2 u' ∧ jt k u.2 r' u'.1 := by
  rcases h with ⟨ek, r, hp, hg⟩ | ⟨ek, ⟨i, j, d, w, ho⟩, eu⟩
  · rcases hp with ⟨k1, i, j, d, w, ho, hs⟩ | ⟨w, h1, h2, h3⟩
    · rcases h' with ⟨k2, i2, j2, d2, w2, ho2, hs2, e2⟩ | ⟨i2, j2, d2, w2, ho2, -⟩ | ⟨w2, -⟩
      · obtain ⟨rfl, rfl, rfl, rfl⟩ := sp_mkv_u w w2
        obtain ⟨er, hj⟩ := j_set w.1 hs hs2 hm
        exact ⟨hj, Or.inl ⟨ek, e2, by rw [hg, er]⟩⟩
      · obtain ⟨e5, rfl, rfl, rfl⟩ := sp_mkv_u w w2
        have := ho e5
        omega
      · exact absurd ⟨k1, i, j, d, w⟩ w2
    · rcases h' with ⟨k2, i2, j2, d2, w2, -⟩ | ⟨i2, j2, d2, w2, -⟩ | ⟨w2, e1, e2⟩
      · exact absurd ⟨k2, i2, j2, d2, w2⟩ w
      · exact absurd ⟨5, i2, j2, d2, w2⟩ w
      · subst e2
        exact ⟨j_same hn h2 h3 hm, Or.inl ⟨ek, rfl, by rw [hg, h1, e1]⟩⟩
  · rcases h' with ⟨k2, i2, j2, d2, w2, ho2, -⟩ | ⟨i2, j2, d2, w2, ho2, e2⟩ | ⟨w2, -⟩
    · obtain ⟨e5, rfl, rfl, rfl⟩ := sp_mkv_u w w2
      have := ho2 e5.symm
      omega
    · subst e2
      rw [eu]
      exact ⟨j_same hn rfl (fun _ _ => rfl) hm, Or.inr ⟨ek, rfl⟩⟩
    · exact absurd ⟨5, i, j, d, w⟩ w2
theorem j_at {n : Nat} {Wd : Nat → pw_V} {wa : Nat → Option Nat} {xh yr : Nat → Int32} {xb yb : Nat → Int64} {mo le : Int32} {bs : Nat → Int32} {x y k r' : Int32} {u : cs_S × (Nat → Int64)} {u' : md_S} (hn : n ≤ 40) (hm : mdAll xh yr xb yb n Wd)
    (h : u.1 = (n, wa, Wd) ∧ ((k = nI 0 ∧ ∃ r : Int32, (∃ i j, sp_atv n Wd x y i j ∧ r = nI (pw_tk (Wd i).2.2 j)) ∧ u.2 0 = r.toInt64) ∨ (k = nI 1 ∧ ¬ ∃ i j, sp_atv n Wd x y i j)))
    (h' : ((∃ i j, sp_atv n Wd x y i j ∧ r' = nI (pw_tk (Wd i).2.2 j)) ∧ u' = (nI 0, n, mo, le, xh, yr, xb, yb, bs)) ∨ ((¬ ∃ i j, sp_atv n Wd x y i j) ∧ u' = (nI 1, n, mo, le, xh, yr, xb, yb, bs))) : jn u.1.1 u.1.2.2 u' ∧ jt k u.2 r' u'.1 := by
  obtain ⟨eu, h⟩ := h
  rw [eu]
  rcases h with ⟨ek, r, ⟨i, j, w, er⟩, hg⟩ | ⟨ek, w⟩
  · rcases h' with ⟨⟨i2, j2, w2, er2⟩, e2⟩ | ⟨w2, -⟩
    · subst e2
      have ei := nI_in40 hn w.1 w2.1 (w.2.1.symm.trans w2.2.1)
      have ej : j = j2 := (nI_eq (show j < 2 ^ 31 by have := w.2.2.2.1; omega) (show j2 < 2 ^ 31 by have := w2.2.2.2.1; omega)).mp (w.2.2.2.2.1.symm.trans w2.2.2.2.2.1)
      subst ei
      subst ej
      exact ⟨j_same hn rfl (fun _ _ => rfl) hm, Or.inl ⟨ek, rfl, by rw [hg, er, er2]⟩⟩
    · exact absurd ⟨i, j, w⟩ w2
  · rcases h' with ⟨⟨i2, j2, w2, -⟩, -⟩ | ⟨-, e2⟩
    · exact absurd ⟨i2, j2, w2⟩ w
    · subst e2
      exact ⟨j_same hn rfl (fun _ _ => rfl) hm, Or.inr ⟨ek, rfl⟩⟩
theorem sp_bt_u {v w : pw_V} {k : Int32} {a b : Option Int32} (h : sp_bt v w k a) (h' : sp_bt v w k b) : a = b := by
  rcases h with ⟨e, d, hd, h⟩ | ⟨e, h⟩ | ⟨e, h⟩
  · rcases h' with ⟨-, d', hd', h'⟩ | ⟨e', -⟩ | ⟨e', -⟩
    · have := pw_wt_u hd hd'
      subst this
      rcases h with ⟨p, q⟩ | ⟨p, q⟩
      · rcases h' with ⟨p', q'⟩ | ⟨p', q'⟩
        · rw [q, q']
        · exact absurd p p'
      · rcases h' with ⟨p', q'⟩ | ⟨p', q'⟩
        · exact absurd p' p
        · rw [q, q']
    · exact absurd (e.symm.trans e') (by decide)
    · exact absurd (e.symm.trans e') (by decide)
  · rcases h' with ⟨e', -⟩ | ⟨-, h'⟩ | ⟨e', -⟩
    · exact absurd (e.symm.trans e') (by decide)
    · rcases h with ⟨p, q⟩ | ⟨p, q⟩
      · rcases h' with ⟨p', q'⟩ | ⟨p', q'⟩
        · rw [q, q']
        · exact absurd p p'
      · rcases h' with ⟨p', q'⟩ | ⟨p', q'⟩
        · exact absurd p' p
        · rw [q, q']
    · exact absurd (e.symm.trans e') (by decide)
  · rcases h' with ⟨e', -⟩ | ⟨e', -⟩ | ⟨-, h'⟩
    · exact absurd (e.symm.trans e') (by decide)
    · exact absurd (e.symm.trans e') (by decide)
    · rcases h with ⟨p, q⟩ | ⟨p, q⟩
      · rcases h' with ⟨p', q'⟩ | ⟨p', q'⟩
        · rw [q, q']
        · exact absurd p p'
      · rcases h' with ⟨p', q'⟩ | ⟨p', q'⟩
        · exact absurd p' p
        · rw [q, q']
theorem sp_b_u {n : Nat} {W : Nat → pw_V} {x y z : Int32} {a b : Option Int32} (hn : n ≤ 40) (h : sp_b n W x y z a) (h' : sp_b n W x y z b) : a = b := by
  rcases h with ⟨i, j, h1, h2, h3, h4, h5, h6⟩ | ⟨h1, h2⟩
  · rcases h' with ⟨i', j', k1, k2, k3, k4, k5, k6⟩ | ⟨k1, k2⟩
    · have ei := nI_in40 hn h1 k1 (h2.symm.trans k2)
      have ej := nI_in40 hn h3 k3 (h4.symm.trans k4)
      subst ei
      subst ej
      exact sp_bt_u h6 k6
    · exact absurd ⟨i, j, h1, h2, h3, h4, h5⟩ k1
  · rcases h' with ⟨i', j', k1, k2, k3, k4, k5, k6⟩ | ⟨k1, k2⟩
    · exact absurd ⟨i', j', k1, k2, k3, k4, k5⟩ h1
    · rw [h2, k2]
theorem j_between {n : Nat} {Wd : Nat → pw_V} {wa : Nat → Option Nat} {xh yr : Nat → Int32} {xb yb : Nat → Int64} {bs : Nat → Int32} {x y z k r' : Int32} {u : cs_S × (Nat → Int64)} {u' : md_S} (hn : n ≤ 40) (hm : mdAll xh yr xb yb n Wd)
    (h : u.1 = (n, wa, Wd) ∧ ((k = nI 0 ∧ ∃ r : Int32, sp_b n Wd x y z (some r) ∧ u.2 0 = r.toInt64) ∨ (k = nI 1 ∧ sp_b n Wd x y z none)))
    (h' : ∃ th9 mo9 le9, u' = (th9, n, mo9, le9, xh, yr, xb, yb, bs) ∧ ((th9 = nI 0 ∧ sp_b n Wd x y z (some r')) ∨ (th9 = nI 1 ∧ sp_b n Wd x y z none))) : jn u.1.1 u.1.2.2 u' ∧ jt k u.2 r' u'.1 := by
  obtain ⟨eu, h⟩ := h
  obtain ⟨t9, m9, l9, e2, h'⟩ := h'
  subst e2
  rw [eu]
  refine ⟨j_same hn rfl (fun _ _ => rfl) hm, ?_⟩
  rcases h with ⟨ek, r, w, hg⟩ | ⟨ek, w⟩
  · rcases h' with ⟨e9, w'⟩ | ⟨e9, w'⟩
    · have := Option.some.inj (sp_b_u hn w w')
      exact Or.inl ⟨ek, e9, by rw [hg, this]⟩
    · exact absurd (sp_b_u hn w w') (by simp)
  · rcases h' with ⟨e9, w'⟩ | ⟨e9, w'⟩
    · exact absurd (sp_b_u hn w w') (by simp)
    · exact Or.inr ⟨ek, e9⟩
theorem sp_far_u {y : Int32} {val : Nat → Int32} {r r' : Int32} (h : sp_far y val r) (h' : sp_far y val r') : r = r' := by
  rcases h with ⟨j, hj, e, hr⟩ | ⟨h, hr⟩
  · rcases h' with ⟨j', hj', e', hr'⟩ | ⟨h', hr'⟩
    · have : j = j' := (nI_eq (show j < 2 ^ 31 by omega) (show j' < 2 ^ 31 by omega)).mp (e.symm.trans e')
      subst this
      rw [hr, hr']
    · exact absurd ⟨j, hj, e⟩ h'
  · rcases h' with ⟨j', hj', e', hr'⟩ | ⟨h', hr'⟩
    · exact absurd ⟨j', hj', e'⟩ h
    · rw [hr, hr']
theorem sp_same_u {W : Nat → pw_V} {i : Nat} {r r' : Int32} (h : sp_same W i r) (h' : sp_same W i r') : r = r' := by
  obtain ⟨k, h1, h2, h3, h4⟩ := h
  obtain ⟨k', g1, g2, g3, g4⟩ := h'
  have : k = k' := by
    rcases Nat.lt_trichotomy k k' with z | z | z
    · exact absurd h3 (g4 k z)
    · exact z
    · exact absurd g3 (h4 k' z)
  rw [h2, g2, this]
theorem sp_ahead_u {v w : pw_V} {r r' : Int32} (h : sp_ahead v w r) (h' : sp_ahead v w r') : r = r' := by
  rcases h with ⟨a, b⟩ | ⟨a, b⟩
  · rcases h' with ⟨c, d⟩ | ⟨c, d⟩
    · rw [a, c]
    · exact absurd b d
  · rcases h' with ⟨c, d⟩ | ⟨c, d⟩
    · exact absurd d b
    · rw [a, c]
theorem pq_eqs {r r' : Int32} {a : Int32} (h : r = a) (h' : r' = a) : r = r' := h.trans h'.symm
theorem j_loop {i L : Nat} (hi : i ≤ 2560) (hL : L ≤ 2560) : ¬ (nI L - nI 5 < nI i) ↔ i + 5 ≤ L := by
  rw [Int32.lt_iff_toInt_lt, pk_sub_toInt (by omega) (by decide), nI_toInt (by omega)]
  omega
/-- a static call of a method with a table, its words among ours -/
theorem gd_SW {c0 : Cond} {own : String} {idx : Nat} {y : MethodName} {bytes : ByteArray} {maxL : Nat} {ret : Option FieldType} {hh : List (Nat × Nat × Nat × Nat)} (h1 : Cond.methodLink own idx y ∈ TB) (h2 : Cond.static y ∈ TB) (h3 : Cond.initialized y.cls ∈ TB) (h4 : Cond.codeWith y bytes maxL ret hh ∈ TB) : GoodIn (c0 :: TB) (va_wsS own idx y (Cond.codeWith y bytes maxL ret hh :: TB)) := by
  intro w hw
  have hm : w ∈ TB := by
    unfold va_wsS at hw
    rcases List.mem_append.mp hw with q | q
    · simp only [List.mem_cons, List.not_mem_nil, or_false] at q
      rcases q with rfl | rfl | rfl <;> assumption
    · rcases List.mem_cons.mp q with rfl | q
      · exact h4
      · exact q
  exact ⟨List.mem_cons_of_mem _ hm, gd_w hm⟩
theorem sw16 (x : Int32) : (∃ k, k < 11 ∧ x &&& nI 15 = nI k) ∨ ((x &&& nI 15).toInt < 0 ∨ 10 < (x &&& nI 15).toInt) := by
  rcases pk_ix (x &&& nI 15) (n := 11) (by decide) with h | h | h
  · right; left
    rw [Int32.lt_iff_toInt_lt] at h
    exact h
  · right; right
    rw [Int32.le_iff_toInt_le, nI_toInt (by decide)] at h
    omega
  · exact Or.inl h
