theorem tx_Pk {dC : Nat → ClassId} {dI : Nat → Nat → Nat} {ws : va_W} {H H1 : Heap} (hP : va_P (dC, dI) vwCl ws H) (hk : ∀ q : Nat, q < H.size → H1[q]? = H[q]?) : va_P (dC, dI) vwCl ws H1 := fun k x hx => va_at.kept (hP k x hx) (hk x.1 (va_at.lt (hP k x hx)))
theorem cs_Az {zz o q n sz : Nat} {cW : ClassId} {wa : Nat → Option Nat} {A : Nat → Prop} (hAe : va_A (pwc o q n cW wa) sz = A) (h1 : zz ≤ o) (h2 : zz ≤ q) (h3 : zz ≤ sz) : ∀ x, A x → zz ≤ x := by
  intro x hx
  rw [← hAe] at hx
  rcases hx with ⟨k, e, h⟩ | h
  · match k, h with
    | 0, h => simp at h; omega
    | 1, h => simp at h; omega
    | k + 2, h => simp at h
  · omega
/-- a word of the class stays where only the class's own two cells, or new ones, are written -/
theorem cs_wk {dC : Nat → ClassId} {dI : Nat → Nat → Nat} {z0 o q n a q1 h pp : Nat} {cW cA : ClassId} {wa : Nat → Option Nat} {A : Nat → Prop} {H : Heap} {locs : List Loc} {s : State} {f : Nat → Bool} {pl : Nat → Int32} (hAe : va_A (pwc o q n cW wa) s.heap.size = A) (hoz : o < z0) (hqz : q < z0) (hS : va_S A s.heap H locs) (ha : z0 ≤ a) (hq : z0 ≤ q1) (hP : va_P (dC, dI) vwCl (wd a q1 cA h pp f pl) s.heap) : va_P (dC, dI) vwCl (wd a q1 cA h pp f pl) H := by
  intro k x hx
  have hat := hP k x hx
  have hlt := va_at.lt hat
  have hz : z0 ≤ x.1 := by
    match k, hx with
    | 0, hx => cases hx; exact ha
    | 1, hx => cases hx; exact hq
    | k + 2, hx => simp at hx
  refine va_at.kept hat (hS.2.1 x.1 hlt ?_)
  rw [← hAe]
  rintro (⟨k, e, h⟩ | h)
  · match k, h with
    | 0, h => simp at h; omega
    | 1, h => simp at h; omega
    | k + 2, h => simp at h
  · omega
theorem sp_mk_u {n K k i j d : Nat} {y z : Int32} (hK : K < 8) (h : sp_mkv n (nI K) y z k i j d) : k = K := ((nI_eq (show K < 2 ^ 31 by omega) (show k < 2 ^ 31 by have := h.2.1; omega)).mp h.2.2.1).symm
def pz_Pre (av : List Value) (dC : Nat → ClassId) (dI : Nat → Nat → Nat) (z0 sz o q n : Nat) (cW : ClassId) (wa : Nat → Option Nat) (W : Nat → pw_V) : Array Value → State → Prop := fun a U => U.heap.size = sz ∧ pw_X av dC dI z0 o q n cW wa W a U
theorem pz_blind {av : List Value} {dC : Nat → ClassId} {dI : Nat → Nat → Nat} {z0 sz o q n : Nat} {cW : ClassId} {wa : Nat → Option Nat} {W : Nat → pw_V} : FrameBlind (pz_Pre av dC dI z0 sz o q n cW wa W) := fun a U g mk x => ⟨x.1, pw_X_blind a U g mk x.2⟩
theorem pq_dc {P : Prop} [Decidable P] (h : 0 < (decide P).toNat) : P := by
  cases hd : decide P with
  | true => exact of_decide_eq_true hd
  | false => rw [hd] at h; exact absurd h (by decide)
theorem pq_dn {P : Prop} [Decidable P] (h : (decide P).toNat = 0) : ¬ P := by
  intro hp
  rw [decide_eq_true hp] at h
  exact absurd h (by decide)
/-- one round of both rings is enough for what is kept -/
theorem pw_ks_lcm {v w : pw_V} (hv : wd_ok v.1 v.2.1 v.2.2) (hw : wd_ok w.1 w.2.1 w.2.2) (hr : pw_o v.2.2 v.1 v.2.1 * w.2.1 = pw_o w.2.2 w.1 w.2.1 * v.2.1) : pw_ks v.2.2 w.2.2 (max v.1 w.1 + v.2.1 / Nat.gcd v.2.1 w.2.1 * w.2.1) = pw_ks v.2.2 w.2.2 (max v.1 w.1 + v.2.1 * w.2.1) := by
  obtain ⟨l1, l2, l3, l4⟩ := pw_lcm hv.2.1 hw.2.1
  exact (pw_ks_st hv.2.2.2 hw.2.2.2 hv.2.1 hw.2.1 (Nat.le_max_left _ _) (Nat.le_max_right _ _) l1 l2 l3 hr (by omega)).symm
theorem pw_ks_lcm' {v w : pw_V} (hv : wd_ok v.1 v.2.1 v.2.2) (hw : wd_ok w.1 w.2.1 w.2.2) (hr : pw_o v.2.2 v.1 v.2.1 * w.2.1 = pw_o w.2.2 w.1 w.2.1 * v.2.1) : pw_ks w.2.2 v.2.2 (max w.1 v.1 + w.2.1 / Nat.gcd w.2.1 v.2.1 * v.2.1) = pw_ks w.2.2 v.2.2 (max v.1 w.1 + v.2.1 * w.2.1) := by
  rw [pw_ks_lcm hw hv hr.symm, Nat.max_comm, Nat.mul_comm]
