/-! the 1s of a long, eight bits at a time -/
theorem pw_p_le (x k : Nat) : pw_p x k ≤ k := pw_c_le _ _
theorem pw_p_byte (x k : Nat) : pw_p x (8 + k) = pw_p (x % 256) 8 + pw_p (x / 256) k := by
  unfold pw_p
  rw [pw_c_add]
  congr 1
  · refine pw_c_congr (fun i hi => ?_)
    rw [show (256 : Nat) = 2 ^ 8 from rfl, Nat.testBit_mod_two_pow]
    simp [hi]
  · refine pw_c_congr (fun i _ => ?_)
    rw [show (256 : Nat) = 2 ^ 8 from rfl, Nat.testBit_div_two_pow, Nat.add_comm]
theorem pw_split (a b c d : Nat) (hb : b < 256) (hd : d < 256) : (a * 256 + b) &&& (c * 256 + d) = (a &&& c) * 256 + (b &&& d) := by
  have hbd : b &&& d < 2 ^ 8 := Nat.and_lt_two_pow b (show d < 2 ^ 8 from hd)
  apply Nat.eq_of_testBit_eq
  intro i
  rw [Nat.testBit_and, Nat.mul_comm a, Nat.mul_comm c, Nat.mul_comm (a &&& c), show (256 : Nat) = 2 ^ 8 from rfl, Nat.testBit_two_pow_mul_add _ (show b < 2 ^ 8 from hb), Nat.testBit_two_pow_mul_add _ (show d < 2 ^ 8 from hd), Nat.testBit_two_pow_mul_add _ hbd]
  rcases Nat.lt_or_ge i 8 with q | q
  · rw [if_pos q, if_pos q, if_pos q, Nat.testBit_and]
  · rw [if_neg (by omega), if_neg (by omega), if_neg (by omega), Nat.testBit_and]
def pw_m5 : Nat → Nat
  | 0 => 0
  | n + 1 => pw_m5 n * 256 + 85
def pw_m3 : Nat → Nat
  | 0 => 0
  | n + 1 => pw_m3 n * 256 + 51
def pw_mf : Nat → Nat
  | 0 => 0
  | n + 1 => pw_mf n * 256 + 15
def pw_y (n x : Nat) : Nat := x - ((x / 2) &&& pw_m5 n)
def pw_z (n y : Nat) : Nat := (y &&& pw_m3 n) + ((y / 4) &&& pw_m3 n)
def pw_wf (n z : Nat) : Nat := (z + z / 16) &&& pw_mf n
def pw_q (n x : Nat) : Nat := pw_wf n (pw_z n (pw_y n x))
theorem pw_k1 : ∀ u, u < 2 → ∀ b, b < 256 → (u * 128 + b / 2) &&& 85 = (b / 2) &&& 85 := by decide +kernel
theorem pw_k2 : ∀ u, u < 4 → ∀ b, b < 256 → (u * 64 + b / 4) &&& 51 = (b / 4) &&& 51 := by decide +kernel
def pw_y8 (b : Nat) : Nat := b - ((b / 2) &&& 85)
def pw_z8 (c : Nat) : Nat := (c &&& 51) + ((c / 4) &&& 51)
theorem pw_k3 : ∀ b, b < 256 → ((b / 2) &&& 85) ≤ b ∧ pw_y8 b < 256 ∧ pw_z8 (pw_y8 b) ≤ 68 ∧ pw_z8 (pw_y8 b) % 16 ≤ 4 ∧ pw_z8 (pw_y8 b) / 16 ≤ 4 := by decide +kernel
theorem pw_k4 : ∀ u, u < 5 → ∀ b, b < 256 → (pw_z8 (pw_y8 b) + (u * 16 + pw_z8 (pw_y8 b) / 16)) &&& 15 = pw_p b 8 := by decide +kernel
theorem pw_y_s (n x b : Nat) (hb : b < 256) : pw_y (n + 1) (x * 256 + b) = pw_y n x * 256 + pw_y8 b := by
  have e : (x * 256 + b) / 2 = (x / 2) * 256 + ((x % 2) * 128 + b / 2) := by omega
  have hle : ((x / 2) &&& pw_m5 n) ≤ x := Nat.le_trans Nat.and_le_left (Nat.div_le_self _ _)
  have h3 := (pw_k3 b hb).1
  unfold pw_y
  show x * 256 + b - ((x * 256 + b) / 2 &&& (pw_m5 n * 256 + 85)) = _
  rw [e, pw_split _ _ _ _ (by omega) (by omega), pw_k1 (x % 2) (by omega) b hb]
  unfold pw_y8
  generalize (x / 2) &&& pw_m5 n = A at *
  generalize (b / 2) &&& 85 = B at *
  omega
theorem pw_z_s (n y c : Nat) (hc : c < 256) : pw_z (n + 1) (y * 256 + c) = pw_z n y * 256 + pw_z8 c := by
  have e : (y * 256 + c) / 4 = (y / 4) * 256 + ((y % 4) * 64 + c / 4) := by omega
  unfold pw_z
  show ((y * 256 + c) &&& (pw_m3 n * 256 + 51)) + ((y * 256 + c) / 4 &&& (pw_m3 n * 256 + 51)) = _
  rw [e, pw_split _ _ _ _ hc (by omega), pw_split _ _ _ _ (by omega) (by omega), pw_k2 (y % 4) (by omega) c hc]
  unfold pw_z8
  generalize y &&& pw_m3 n = A
  generalize (y / 4) &&& pw_m3 n = B
  generalize c &&& 51 = C
  generalize (c / 4) &&& 51 = D
  omega
theorem pw_q_s (n x b : Nat) (hb : b < 256) (hz : pw_z n (pw_y n x) % 16 ≤ 4) : pw_q (n + 1) (x * 256 + b) = pw_q n x * 256 + pw_p b 8 := by
  obtain ⟨-, h2, h3, h4, h5⟩ := pw_k3 b hb
  have h6 := pw_k4 (pw_z n (pw_y n x) % 16) (by omega) b hb
  unfold pw_q
  rw [pw_y_s n x b hb, pw_z_s n _ _ h2]
  unfold pw_wf
  generalize pw_z n (pw_y n x) = z at *
  generalize pw_z8 (pw_y8 b) = d at *
  have e : z * 256 + d + (z * 256 + d) / 16 = (z + z / 16) * 256 + (d + (z % 16 * 16 + d / 16)) := by omega
  show z * 256 + d + (z * 256 + d) / 16 &&& (pw_mf n * 256 + 15) = _
  rw [e, pw_split _ _ _ _ (by omega) (by omega), h6]
theorem pw_zl (n x : Nat) (h : n = 0 → x = 0) : pw_z n (pw_y n x) % 16 ≤ 4 := by
  cases n with
  | zero =>
    rw [h rfl]
    decide
  | succ n =>
    have e : x = x / 256 * 256 + x % 256 := by omega
    have hb : x % 256 < 256 := Nat.mod_lt _ (by decide)
    obtain ⟨-, h2, h3, h4, h5⟩ := pw_k3 (x % 256) hb
    rw [e, pw_y_s n _ _ hb, pw_z_s n _ _ h2]
    omega
theorem pw_q8 {x : Nat} (hx : x < 18446744073709551616) : ∃ p0 p1 p2 p3 p4 p5 p6 p7 : Nat, p0 ≤ 8 ∧ p1 ≤ 8 ∧ p2 ≤ 8 ∧ p3 ≤ 8 ∧ p4 ≤ 8 ∧ p5 ≤ 8 ∧ p6 ≤ 8 ∧ p7 ≤ 8 ∧ pw_p x 64 = p0 + (p1 + (p2 + (p3 + (p4 + (p5 + (p6 + p7)))))) ∧
    pw_q 8 x = (((((((p7 * 256 + p6) * 256 + p5) * 256 + p4) * 256 + p3) * 256 + p2) * 256 + p1) * 256 + p0) := by
  have stp : ∀ n x, (n = 0 → x / 256 = 0) → pw_q (n + 1) x = pw_q n (x / 256) * 256 + pw_p (x % 256) 8 := by
    intro n x h
    have e : x = x / 256 * 256 + x % 256 := by omega
    have s := pw_q_s n (x / 256) (x % 256) (Nat.mod_lt _ (by decide)) (pw_zl n _ h)
    rw [← e] at s
    exact s
  have b : ∀ n k x, k = 8 + n → pw_p x k = pw_p (x % 256) 8 + pw_p (x / 256) n := by
    intro n k x h
    rw [h]
    exact pw_p_byte x n
  refine ⟨pw_p (x % 256) 8, pw_p (x / 256 % 256) 8, pw_p (x / 256 / 256 % 256) 8, pw_p (x / 256 / 256 / 256 % 256) 8, pw_p (x / 256 / 256 / 256 / 256 % 256) 8, pw_p (x / 256 / 256 / 256 / 256 / 256 % 256) 8, pw_p (x / 256 / 256 / 256 / 256 / 256 / 256 % 256) 8, pw_p (x / 256 / 256 / 256 / 256 / 256 / 256 / 256 % 256) 8, pw_p_le _ _, pw_p_le _ _, pw_p_le _ _, pw_p_le _ _, pw_p_le _ _, pw_p_le _ _, pw_p_le _ _, pw_p_le _ _, ?_, ?_⟩
  · rw [b 56 64 x rfl, b 48 56 _ rfl, b 40 48 _ rfl, b 32 40 _ rfl, b 24 32 _ rfl, b 16 24 _ rfl, b 8 16 _ rfl, b 0 8 (x / 256 / 256 / 256 / 256 / 256 / 256 / 256) rfl]
    have z : ∀ y, pw_p y 0 = 0 := fun _ => rfl
    rw [z]
    omega
  · have e0 : x / 256 / 256 / 256 / 256 / 256 / 256 / 256 / 256 = 0 := by omega
    have z : pw_q 0 0 = 0 := by decide
    rw [stp 7 x (by omega), stp 6 _ (by omega), stp 5 _ (by omega), stp 4 _ (by omega), stp 3 _ (by omega), stp 2 _ (by omega), stp 1 _ (by omega), stp 0 _ (fun _ => e0), e0, z]
    omega
theorem pw_pop {x w : Nat} (hx : x < 18446744073709551616) (hw : w = pw_q 8 x) : w < 1152921504606846976 ∧ (w + w / 256 + (w + w / 256) / 65536 + (w + w / 256 + (w + w / 256) / 65536) / 4294967296) % 128 = pw_p x 64 := by
  obtain ⟨p0, p1, p2, p3, p4, p5, p6, p7, h0, h1, h2, h3, h4, h5, h6, h7, hp, hq⟩ := pw_q8 hx
  rw [hq] at hw
  rw [hp]
  have e1 : w / 256 = ((((((p7 * 256 + p6) * 256 + p5) * 256 + p4) * 256 + p3) * 256 + p2) * 256 + p1) := by omega
  refine ⟨by omega, ?_⟩
  rw [e1]
  obtain ⟨v, hv⟩ : ∃ v, v = w + ((((((p7 * 256 + p6) * 256 + p5) * 256 + p4) * 256 + p3) * 256 + p2) * 256 + p1) := ⟨_, rfl⟩
  rw [← hv]
  have e2 : v / 65536 = (((((p7 * 256 + (p6 + p7)) * 256 + (p5 + p6)) * 256 + (p4 + p5)) * 256 + (p3 + p4)) * 256 + (p2 + p3)) := by omega
  rw [e2]
  obtain ⟨u, hu⟩ : ∃ u, u = v + (((((p7 * 256 + (p6 + p7)) * 256 + (p5 + p6)) * 256 + (p4 + p5)) * 256 + (p3 + p4)) * 256 + (p2 + p3)) := ⟨_, rfl⟩
  rw [← hu]
  have e3 : u / 4294967296 = (((p7 * 256 + (p6 + p7)) * 256 + (p5 + p6 + p7)) * 256 + (p4 + p5 + p6 + p7)) := by omega
  rw [e3]
  omega
