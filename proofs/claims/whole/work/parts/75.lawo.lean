theorem md_out {z0 sz o a1 a2 a3 a4 a5 n : Nat} {c1 c2 c3 c4 c5 : ClassId} {th mo le : Int32} {xh yr : Nat → Int32} {xb yb : Nat → Int64} {bs : Nat → Int32} (h0 : o < z0) (h1 : a1 < z0) (h2 : a2 < z0) (h3 : a3 < z0) (h4 : a4 < z0) (h5 : a5 < z0) : ∀ q : Nat, z0 ≤ q → q < sz → ¬ va_A (md o a1 a2 a3 a4 a5 c1 c2 c3 c4 c5 th n mo le xh yr xb yb bs) sz q := by
  intro q hz hs
  rintro (⟨k, e, h⟩ | h)
  · match k, h with
    | 0, h => simp at h; omega
    | 1, h => simp at h; omega
    | 2, h => simp at h; omega
    | 3, h => simp at h; omega
    | 4, h => simp at h; omega
    | 5, h => simp at h; omega
    | k + 6, h => simp at h
  · omega
