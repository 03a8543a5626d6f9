/-! Long.bitCount counts the bits -/
/-- the number with the n bytes f 0, f 1, … -/
def pV (f : Nat → Nat) : Nat → Nat
  | 0 => 0
  | n + 1 => f 0 + 256 * pV (fun j => f (j + 1)) n
theorem pv_and {d D m M : Nat} (hd : d < 256) (hm : m < 256) : (d + 256 * D) &&& (m + 256 * M) = (d &&& m) + 256 * (D &&& M) := by
  have ha : d &&& m < 2 ^ 8 := Nat.and_lt_two_pow d hm
  refine Nat.eq_of_testBit_eq fun i => ?_
  rw [Nat.testBit_and, show d + 256 * D = 2 ^ 8 * D + d by omega, show m + 256 * M = 2 ^ 8 * M + m by omega, show (d &&& m) + 256 * (D &&& M) = 2 ^ 8 * (D &&& M) + (d &&& m) by omega, Nat.testBit_two_pow_mul_add _ hd, Nat.testBit_two_pow_mul_add _ hm, Nat.testBit_two_pow_mul_add _ ha]
  by_cases h : i < 8
  · rw [if_pos h, if_pos h, if_pos h, Nat.testBit_and]
  · rw [if_neg h, if_neg h, if_neg h, Nat.testBit_and]
def p1 (d : Nat) : Nat := d - (d / 2 &&& 85)
def p2 (d : Nat) : Nat := (d &&& 51) + (d / 4 &&& 51)
def p3 (d : Nat) : Nat := d % 16 + d / 16
def p8 (d : Nat) : Nat := (d.testBit 0).toNat + (d.testBit 1).toNat + (d.testBit 2).toNat + (d.testBit 3).toNat + (d.testBit 4).toNat + (d.testBit 5).toNat + (d.testBit 6).toNat + (d.testBit 7).toNat
theorem p_all : ∀ d, d < 256 → p1 d < 256 ∧ (d / 2 &&& 85) ≤ d ∧ p2 (p1 d) % 16 ≤ 4 ∧ p2 (p1 d) / 16 ≤ 4 ∧ p3 (p2 (p1 d)) = p8 d := by decide +kernel
theorem p_s1 : ∀ e, e < 2 → ∀ y, y < 128 → (128 * e + y) &&& 85 = y &&& 85 := by decide +kernel
theorem p_s2 : ∀ e, e < 4 → ∀ y, y < 64 → (64 * e + y) &&& 51 = y &&& 51 := by decide +kernel
theorem pv_1 : ∀ (n : Nat) (f : Nat → Nat), (∀ j, f j < 256) → pV (fun j => p1 (f j)) n + (pV f n / 2 &&& pV (fun _ => 85) n) = pV f n
  | 0, _, _ => by simp [pV]
  | n + 1, f, h => by
    have ih := pv_1 n (fun j => f (j + 1)) (fun j => h (j + 1))
    have h0 := h 0
    have hp := (p_all (f 0) h0).2.1
    rw [pV, pV, pV]
    generalize pV (fun j => f (j + 1)) n = D at ih ⊢
    have e : (f 0 + 256 * D) / 2 = (128 * (D % 2) + f 0 / 2) + 256 * (D / 2) := by omega
    rw [e, pv_and (by omega) (by decide), p_s1 (D % 2) (by omega) (f 0 / 2) (by omega)]
    show p1 (f 0) + _ + _ = _
    have e1 : p1 (f 0) + (f 0 / 2 &&& 85) = f 0 := by unfold p1; omega
    omega
theorem pv_2 : ∀ (n : Nat) (f : Nat → Nat), (∀ j, f j < 256) → (pV f n &&& pV (fun _ => 51) n) + (pV f n / 4 &&& pV (fun _ => 51) n) = pV (fun j => p2 (f j)) n
  | 0, _, _ => by simp [pV]
  | n + 1, f, h => by
    have ih := pv_2 n (fun j => f (j + 1)) (fun j => h (j + 1))
    have h0 := h 0
    rw [pV, pV, pV]
    generalize pV (fun j => f (j + 1)) n = D at ih ⊢
    have e : (f 0 + 256 * D) / 4 = (64 * (D % 4) + f 0 / 4) + 256 * (D / 4) := by omega
    rw [e, pv_and h0 (by decide), pv_and (by omega) (by decide), p_s2 (D % 4) (by omega) (f 0 / 4) (by omega)]
    show _ = p2 (f 0) + 256 * pV (fun j => p2 (f (j + 1))) n
    rw [← ih]
    show _ = ((f 0 &&& 51) + (f 0 / 4 &&& 51)) + _
    omega
theorem pv_3 : ∀ (n : Nat) (f : Nat → Nat), (∀ j, f j % 16 ≤ 4 ∧ f j / 16 ≤ 4) → ((pV f n + pV f n / 16) &&& pV (fun _ => 15) n) = pV (fun j => p3 (f j)) n ∧ pV f n % 16 ≤ 4
  | 0, _, _ => by simp [pV]
  | n + 1, f, h => by
    obtain ⟨ih, i2⟩ := pv_3 n (fun j => f (j + 1)) (fun j => h (j + 1))
    obtain ⟨h0, h1⟩ := h 0
    rw [pV, pV, pV]
    generalize pV (fun j => f (j + 1)) n = D at ih i2 ⊢
    have e : f 0 + 256 * D + (f 0 + 256 * D) / 16 = (f 0 + f 0 / 16 + 16 * (D % 16)) + 256 * (D + D / 16) := by omega
    refine ⟨?_, by omega⟩
    rw [e, pv_and (by omega) (by decide), ih]
    show _ = p3 (f 0) + _
    have e2 : (f 0 + f 0 / 16 + 16 * (D % 16)) &&& 15 = f 0 % 16 + f 0 / 16 := by
      rw [show 15 = 2 ^ 4 - 1 from rfl, Nat.and_two_pow_sub_one_eq_mod]
      omega
    rw [e2]; rfl
theorem dv2 {a b K : Nat} (ha : a < 256) (hb : b < 256) : (a + 256 * b + 65536 * K) / 65536 = K := by omega
theorem dv4 {a K : Nat} (ha : a < 4294967296) : (a + 4294967296 * K) / 4294967296 = K := by omega
theorem pv_sum {s0 s1 s2 s3 s4 s5 s6 s7 C C1 C2 C3 C4 C5 C6 : Nat} (h0 : s0 ≤ 8) (h1 : s1 ≤ 8) (h2 : s2 ≤ 8) (h3 : s3 ≤ 8) (h4 : s4 ≤ 8) (h5 : s5 ≤ 8) (h6 : s6 ≤ 8) (h7 : s7 ≤ 8) (e6 : C6 = s6 + 256 * s7) (e5 : C5 = s5 + 256 * C6) (e4 : C4 = s4 + 256 * C5) (e3 : C3 = s3 + 256 * C4) (e2 : C2 = s2 + 256 * C3) (e1 : C1 = s1 + 256 * C2) (e0 : C = s0 + 256 * C1) : C < 2 ^ 62 ∧ C / 256 = C1 ∧ (C + C1) / 65536 = C2 + C3 ∧ (C + C1 + (C2 + C3)) / 4294967296 = C4 + C5 + C6 + s7 ∧ C + C1 + (C2 + C3) + (C4 + C5 + C6 + s7) < 2 ^ 63 ∧ (C + C1 + (C2 + C3) + (C4 + C5 + C6 + s7)) % 128 = s0 + s1 + s2 + s3 + s4 + s5 + s6 + s7 := by
  have b6 : C6 ≤ 2056 := by omega
  have b5 : C5 ≤ 526344 := by clear e0 e1 e2 e3 e4; omega
  have b4 : C4 ≤ 134744072 := by clear e0 e1 e2 e3 e5 e6; omega
  have b3 : C3 ≤ 34494482440 := by clear e0 e1 e2 e4 e5 e6; omega
  have b2 : C2 ≤ 8830587504648 := by clear e0 e1 e3 e4 e5 e6; omega
  have b1 : C1 ≤ 2260630401189896 := by clear e0 e2 e3 e4 e5 e6; omega
  have b0 : C ≤ 578721382704613384 := by clear e1 e2 e3 e4 e5 e6; omega
  refine ⟨by clear e0 e1 e2 e3 e4 e5 e6; omega, by clear e1 e2 e3 e4 e5 e6; omega, ?_, ?_, by clear e0 e1 e2 e3 e4 e5 e6; omega, ?_⟩
  · have : C + C1 = (s0 + s1) + 256 * (s1 + s2) + 65536 * (C2 + C3) := by clear e3 e4 e5 e6 b0 b1 b2 b3 b4 b5 b6; omega
    rw [this]; exact dv2 (by clear e0 e1 e2 e3 e4 e5 e6 this; omega) (by clear e0 e1 e2 e3 e4 e5 e6 this; omega)
  · have : C + C1 + (C2 + C3) = (s0 + s1 + s2 + s3 + 256 * (s1 + s2 + s3 + s4) + 65536 * (s2 + s3 + s4 + s5) + 16777216 * (s3 + s4 + s5 + s6)) + 4294967296 * (C4 + C5 + C6 + s7) := by clear b0 b1 b2 b3 b4 b5 b6; subst e0 e1 e2 e3; omega
    rw [this]; exact dv4 (by clear e0 e1 e2 e3 e4 e5 e6 this; omega)
  · have : C + C1 + (C2 + C3) + (C4 + C5 + C6 + s7) = (s0 + s1 + s2 + s3 + s4 + s5 + s6 + s7) + 128 * (2 * (C1 + C2 + C3 + C4 + C5 + C6 + s7)) := by clear b0 b1 b2 b3 b4 b5 b6; omega
    rw [this, Nat.add_mul_mod_self_left]
    exact Nat.mod_eq_of_lt (by clear e0 e1 e2 e3 e4 e5 e6 this; omega)

