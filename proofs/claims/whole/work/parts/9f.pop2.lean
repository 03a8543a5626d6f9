theorem pv_bytes : ∀ (n X : Nat), X < 256 ^ n → pV (fun j => X / 256 ^ j % 256) n = X
  | 0, X, h => by rw [pV]; have : X < 1 := h; omega
  | n + 1, X, h => by
    have ih := pv_bytes n (X / 256) (by rw [Nat.pow_succ] at h; omega)
    have e : (fun j => X / 256 / 256 ^ j % 256) = (fun j => X / 256 ^ (j + 1) % 256) := by
      funext j; rw [Nat.div_div_eq_div_mul, Nat.pow_succ, Nat.mul_comm 256]
    rw [e] at ih
    rw [pV, ih, Nat.pow_zero, Nat.div_one]
    omega
theorem pv_le : ∀ (n : Nat) (f : Nat → Nat), (∀ j, f j ≤ 68) → 15 * pV f n + 4 ≤ 4 * 256 ^ n
  | 0, _, _ => by simp [pV]
  | n + 1, f, h => by
    have ih := pv_le n (fun j => f (j + 1)) (fun j => h (j + 1))
    have h0 := h 0
    rw [pV, Nat.pow_succ]
    omega
theorem p3_8 : ∀ d, d < 256 → p8 d ≤ 8 := by decide +kernel
/-- the count in numbers -/
theorem pop_nat {X A B C : Nat} (hX : X < 2 ^ 64) (hA : A = X - (X / 2 &&& 6148914691236517205)) (hB : B = (A &&& 3689348814741910323) + (A / 4 &&& 3689348814741910323)) (hC : C = ((B + B / 16) &&& 1085102592571150095)) : (X / 2 &&& 6148914691236517205) ≤ X ∧ B < 2 ^ 63 ∧ B + B / 16 < 2 ^ 64 ∧ C + C / 256 < 2 ^ 63 ∧ C + C / 256 + (C + C / 256) / 65536 < 2 ^ 63 ∧ C + C / 256 + (C + C / 256) / 65536 + (C + C / 256 + (C + C / 256) / 65536) / 4294967296 < 2 ^ 63 ∧ (C + C / 256 + (C + C / 256) / 65536 + (C + C / 256 + (C + C / 256) / 65536) / 4294967296) % 128 = p8 (X % 256) + p8 (X / 256 % 256) + p8 (X / 256 ^ 2 % 256) + p8 (X / 256 ^ 3 % 256) + p8 (X / 256 ^ 4 % 256) + p8 (X / 256 ^ 5 % 256) + p8 (X / 256 ^ 6 % 256) + p8 (X / 256 ^ 7 % 256) := by
  obtain ⟨f, ef⟩ : ∃ f : Nat → Nat, f = fun j => X / 256 ^ j % 256 := ⟨_, rfl⟩
  have hf : ∀ j, f j < 256 := fun j => by rw [ef]; exact Nat.mod_lt _ (by decide)
  have hV : pV f 8 = X := by rw [ef]; exact pv_bytes 8 X (by omega)
  have m1 : 6148914691236517205 = pV (fun _ => 85) 8 := rfl
  have m2 : 3689348814741910323 = pV (fun _ => 51) 8 := rfl
  have m3 : 1085102592571150095 = pV (fun _ => 15) 8 := rfl
  have s1 := pv_1 8 f hf
  rw [hV, ← m1] at s1
  have hA2 : A = pV (fun j => p1 (f j)) 8 := by omega
  have s2 := pv_2 8 (fun j => p1 (f j)) (fun j => (p_all _ (hf j)).1)
  rw [← hA2, ← m2] at s2
  have hB2 : B = pV (fun j => p2 (p1 (f j))) 8 := hB.trans s2
  have hq : ∀ j, p2 (p1 (f j)) % 16 ≤ 4 ∧ p2 (p1 (f j)) / 16 ≤ 4 := fun j => ⟨(p_all _ (hf j)).2.2.1, (p_all _ (hf j)).2.2.2.1⟩
  have s3 := (pv_3 8 (fun j => p2 (p1 (f j))) hq).1
  rw [← hB2, ← m3] at s3
  have hC2 : C = pV (fun j => p8 (f j)) 8 := by
    rw [hC, s3]; congr 1; funext j; exact (p_all _ (hf j)).2.2.2.2
  have hl := pv_le 8 (fun j => p2 (p1 (f j))) (fun j => by have := hq j; omega)
  rw [← hB2] at hl
  have g8 : ∀ j, p8 (f j) ≤ 8 := fun j => p3_8 _ (hf j)
  obtain ⟨C6, e6⟩ : ∃ C6, C6 = p8 (f 6) + 256 * p8 (f 7) := ⟨_, rfl⟩
  obtain ⟨C5, e5⟩ : ∃ C5, C5 = p8 (f 5) + 256 * C6 := ⟨_, rfl⟩
  obtain ⟨C4, e4⟩ : ∃ C4, C4 = p8 (f 4) + 256 * C5 := ⟨_, rfl⟩
  obtain ⟨C3, e3⟩ : ∃ C3, C3 = p8 (f 3) + 256 * C4 := ⟨_, rfl⟩
  obtain ⟨C2, e2⟩ : ∃ C2, C2 = p8 (f 2) + 256 * C3 := ⟨_, rfl⟩
  obtain ⟨C1, e1⟩ : ∃ C1, C1 = p8 (f 1) + 256 * C2 := ⟨_, rfl⟩
  have e0 : C = p8 (f 0) + 256 * C1 := by
    rw [hC2, e1, e2, e3, e4, e5, e6]; rfl
  obtain ⟨q1, q2, q3, q4, q5, q6⟩ := pv_sum (g8 0) (g8 1) (g8 2) (g8 3) (g8 4) (g8 5) (g8 6) (g8 7) e6 e5 e4 e3 e2 e1 e0
  rw [q2, q3, q4]
  have F : ∀ j, f j = X / 256 ^ j % 256 := fun j => by rw [ef]
  have F0 : f 0 = X % 256 := by rw [F 0, Nat.pow_zero, Nat.div_one]
  have F1 : f 1 = X / 256 % 256 := by rw [F 1, Nat.pow_one]
  rw [← F0, ← F1, ← F 2, ← F 3, ← F 4, ← F 5, ← F 6, ← F 7]
  have hle : (X / 2 &&& 6148914691236517205) ≤ X := by omega
  have hl2 : 15 * B + 4 ≤ 73786976294838206464 := hl
  have hB63 : B < 9223372036854775808 := by clear s1 s2 s3 hA hB hC hA2 hB2 hC2 e0 e1 e2 e3 e4 e5 e6 q1 q2 q3 q4 q5 q6 hle hX; omega
  have hB64 : B + B / 16 < 18446744073709551616 := by clear s1 s2 s3 hA hB hC hA2 hB2 hC2 e0 e1 e2 e3 e4 e5 e6 q1 q2 q3 q4 q5 q6 hle hX; omega
  have u1 : C + C1 ≤ C + C1 + (C2 + C3) := Nat.le_add_right _ _
  have u2 : C + C1 + (C2 + C3) ≤ C + C1 + (C2 + C3) + (C4 + C5 + C6 + p8 (f 7)) := Nat.le_add_right _ _
  exact ⟨hle, hB63, hB64, Nat.lt_of_le_of_lt (Nat.le_trans u1 u2) q5, Nat.lt_of_le_of_lt u2 q5, q5, q6⟩

