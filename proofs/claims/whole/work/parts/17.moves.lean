/-! MOVES: a move is kind * 4096 + a * 64 + b -/
def mK (m : Nat) : Nat := m / 4096
def mA (m : Nat) : Nat := m / 64 % 64
def mB (m : Nat) : Nat := m % 64
theorem kiR_nI {m : Nat} (h : m < 2 ^ 31) : kiR (nI m) = nI (mK m) := nI_shr (n := 12) h (by decide)
theorem fiR_nI {m : Nat} (h : m < 2 ^ 31) : fiR (nI m) = nI (mA m) := by
  have e : nI m >>> ((6 : Int32) &&& 31) = nI (m / 2 ^ 6) := nI_shr (n := 6) h (by decide)
  unfold fiR
  rw [e]
  exact fa_mask _ 6
theorem seR_nI {m : Nat} : seR (nI m) = nI (mB m) := fa_mask _ 6
theorem coR_nI {k a b : Nat} (ha : a < 64) (hb : b < 64) : coR (nI k) (nI a) (nI b) = nI (k * 4096 + a * 64 + b) := by
  unfold coR
  have e1 : nI k <<< ((12 : Int32) &&& 31) = nI (k * 2 ^ 12) := nI_shl k (n := 12) (by decide)
  have e2 : nI a <<< ((6 : Int32) &&& 31) = nI (a * 2 ^ 6) := nI_shl a (n := 6) (by decide)
  rw [e1, e2, show k * 2 ^ 12 = 2 ^ 12 * k by omega, fa_or_sum k (by omega), show 2 ^ 12 * k + a * 2 ^ 6 = 2 ^ 6 * (2 ^ 6 * k + a) by omega, fa_or_sum _ (by omega)]
theorem mK_c {k a b : Nat} (ha : a < 64) (hb : b < 64) : mK (k * 4096 + a * 64 + b) = k ∧ mA (k * 4096 + a * 64 + b) = a ∧ mB (k * 4096 + a * 64 + b) = b := by
  unfold mK mA mB; omega
def proN (g : Nat → Int32) (t : Nat) : Nat := clN g (59 + 21 * t)
def farG (g : Nat → Int32) (s q : Nat) : Bool := decide (q / cN g = if s = 0 then rN g - 1 else 0)
/-- the man that goes, by kind -/
def goerN (g : Nat → Int32) (m : Nat) : Nat := if mK m = 0 then mN g (mA m) else if mK m = 1 then mN g (caN g (mA m) 2) else 1 + mA m + 6 * tuN g
def proB (g : Nat → Int32) (m : Nat) : Bool := decide (mK m = 0) && (decide (1 ≤ proN g (tyN (mN g (mA m)))) && farG g (sdN (mN g (mA m))) (mB m))
def arrN (g : Nat → Int32) (m : Nat) : Nat := if proB g m then 1 + (proN g (tyN (goerN g m)) - 1) + 6 * sdN (goerN g m) else goerN g m
def capN (g : Nat → Int32) (m : Nat) : Nat := if mK m = 0 then mN g (mB m) else 0
def tSet (g : Nat → Int32) (m q : Nat) : Bool := if mK m = 1 then anyF (fun i => decide (q = caN g (mA m) (2 + i))) 0 4 else (decide (q = mB m) || (decide (mK m = 0) && decide (q = mA m)))
def tchB (g : Nat → Int32) (m k : Nat) : Bool := tSet g m (caN g k 2) || tSet g m (caN g k 4)
def sqP (g : Nat → Int32) (m q : Nat) : Nat :=
  if mK m = 0 then (if q = mB m then arrN g m else if q = mA m then 0 else mN g q)
  else if mK m = 1 then (if q = caN g (mA m) 5 then mN g (caN g (mA m) 4) else if q = caN g (mA m) 3 then mN g (caN g (mA m) 2) else if q = caN g (mA m) 4 then 0 else if q = caN g (mA m) 2 then 0 else mN g q)
  else (if q = mB m then goerN g m else mN g q)
def gainB (g : Nat → Int32) (m : Nat) : Bool := decide (¬ capN g m = 0) && (decide (clN g 55 = 1) && decide (hN g (6 * tuN g + tyN (capN g m)) < 9))
def hdP (g : Nat → Int32) (m i : Nat) : Nat := if gainB g m = true ∧ i = 6 * tuN g + tyN (capN g m) then hN g i + 1 else if mK m = 2 ∧ i = 6 * tuN g + mA m then hN g i - 1 else hN g i
def riP (g : Nat → Int32) (m k : Nat) : Nat := if tchB g m k then 0 else riN g k
def playsG (g : Nat → Int32) (m : Nat) : Nat → Int32 := fun i => if i = 0 then nI (1 - tuN g) else if i < 37 then nI (sqP g m (i - 1)) else if i < 49 then nI (hdP g m (i - 37)) else if i < 53 then nI (riP g m (i - 49)) else g i
/-- a move that may be made -/
def mvOk (g : Nat → Int32) (m : Nat) : Prop :=
  (mK m = 0 ∧ mA m < cN g * rN g ∧ mB m < cN g * rN g ∧ 1 ≤ mN g (mA m) ∧ sdN (mN g (mA m)) = tuN g ∧ mA m ≠ mB m) ∨
  (mK m = 1 ∧ mA m < 4 ∧ exN g (mA m) = 1 ∧ 1 ≤ mN g (caN g (mA m) 2) ∧ 1 ≤ mN g (caN g (mA m) 4) ∧ caN g (mA m) 2 ≠ caN g (mA m) 4 ∧ caN g (mA m) 3 ≠ caN g (mA m) 5 ∧ (mN g (caN g (mA m) 3) = 0 ∨ caN g (mA m) 3 = caN g (mA m) 2 ∨ caN g (mA m) 3 = caN g (mA m) 4) ∧ (mN g (caN g (mA m) 5) = 0 ∨ caN g (mA m) 5 = caN g (mA m) 2 ∨ caN g (mA m) 5 = caN g (mA m) 4) ∧ mB m = 0) ∨
  (mK m = 2 ∧ mA m < 6 ∧ mB m < cN g * rN g ∧ mN g (mB m) = 0 ∧ 1 ≤ hN g (6 * tuN g + mA m))
theorem mv0 {g : Nat → Int32} {m : Nat} (hm : mvOk g m) (h : mK m = 0) : mA m < cN g * rN g ∧ mB m < cN g * rN g ∧ 1 ≤ mN g (mA m) ∧ sdN (mN g (mA m)) = tuN g ∧ mA m ≠ mB m := by
  rcases hm with a | a | a
  · exact a.2
  · exact absurd (h.symm.trans a.1) (by decide)
  · exact absurd (h.symm.trans a.1) (by decide)
theorem mv1 {g : Nat → Int32} {m : Nat} (hm : mvOk g m) (h : mK m = 1) : mA m < 4 ∧ exN g (mA m) = 1 ∧ 1 ≤ mN g (caN g (mA m) 2) ∧ 1 ≤ mN g (caN g (mA m) 4) ∧ caN g (mA m) 2 ≠ caN g (mA m) 4 ∧ caN g (mA m) 3 ≠ caN g (mA m) 5 ∧ (mN g (caN g (mA m) 3) = 0 ∨ caN g (mA m) 3 = caN g (mA m) 2 ∨ caN g (mA m) 3 = caN g (mA m) 4) ∧ (mN g (caN g (mA m) 5) = 0 ∨ caN g (mA m) 5 = caN g (mA m) 2 ∨ caN g (mA m) 5 = caN g (mA m) 4) ∧ mB m = 0 := by
  rcases hm with a | a | a
  · exact absurd (h.symm.trans a.1) (by decide)
  · exact a.2
  · exact absurd (h.symm.trans a.1) (by decide)
theorem mv2 {g : Nat → Int32} {m : Nat} (hm : mvOk g m) (h : mK m = 2) : mA m < 6 ∧ mB m < cN g * rN g ∧ mN g (mB m) = 0 ∧ 1 ≤ hN g (6 * tuN g + mA m) := by
  rcases hm with a | a | a
  · exact absurd (h.symm.trans a.1) (by decide)
  · exact absurd (h.symm.trans a.1) (by decide)
  · exact a.2
theorem mvOk_lt {g : Nat → Int32} {m : Nat} (h : mvOk g m) : m < 12288 := by
  have h1 : m / 4096 ≤ 2 := by
    rcases h with h | h | h
    · rw [show m / 4096 = 0 from h.1]; decide
    · rw [show m / 4096 = 1 from h.1]; decide
    · rw [show m / 4096 = 2 from h.1]; exact Nat.le_refl 2
  omega
/-- the picture of a Position -/
def posQ (σ : mSt) (p : Nat) (M Hd : Nat → Nat) (C R T RI : Int32) : Prop :=
  (∀ q, q < 36 → σ.1 (p + 1) q = nI (M q) ∧ M q ≤ 12) ∧ (∀ i, i < 12 → σ.1 (p + 2) i = nI (Hd i)) ∧ σ.1 p 2 = C ∧ σ.1 p 3 = R ∧ σ.1 p 4 = T ∧ σ.1 p 5 = RI ∧
  (∀ q, q < 64 → lb (σ.2 p 6) q = decide (q < 36 ∧ 1 ≤ M q ∧ M q ≤ 6)) ∧ (∀ q, q < 64 → lb (σ.2 p 7) q = decide (q < 36 ∧ 7 ≤ M q))
def rmN (g : Nat → Int32) : Nat := riN g 0 + 2 * riN g 1 + 4 * riN g 2 + 8 * riN g 3
theorem rm_bits : ∀ a, a ≤ 1 → ∀ b, b ≤ 1 → ∀ c, c ≤ 1 → ∀ d, d ≤ 1 → ∀ k, k < 32 → bt (nI (a + 2 * b + 4 * c + 8 * d)) k = decide ((k = 0 ∧ a = 1) ∨ (k = 1 ∧ b = 1) ∨ (k = 2 ∧ c = 1) ∨ (k = 3 ∧ d = 1)) := by decide +kernel
theorem posR.Q {σ : mSt} {p : Nat} {g : Nat → Int32} (hG : wfP g) (hP : posR σ p g) (hr : ritR σ p g) : posQ σ p (mN g) (hN g) (g 53) (g 54) (g 0) (nI (rmN g)) := by
  refine ⟨fun q hq => ⟨hP.man hG hq, wf_m hG hq⟩, fun i hi => (hP.2.1 i hi).trans (hG.2.2.2.1 i hi).1, hP.2.2.1, hP.2.2.2.1, hP.2.2.2.2.1, ?_, fun q hq => ?_, fun q hq => ?_⟩
  · refine b_ext fun k hk => ?_
    have r0 := (hG.2.2.2.2.1 0 (by decide)).2
    have r1 := (hG.2.2.2.2.1 1 (by decide)).2
    have r2 := (hG.2.2.2.2.1 2 (by decide)).2
    have r3 := (hG.2.2.2.2.1 3 (by decide)).2
    rw [hr k hk, rmN, rm_bits _ r0 _ r1 _ r2 _ r3 k hk, decide_eq_decide]
    constructor
    · rintro ⟨h1, h2⟩
      rcases (show k = 0 ∨ k = 1 ∨ k = 2 ∨ k = 3 by omega) with rfl | rfl | rfl | rfl <;> simp [h2]
    · rintro (⟨rfl, h⟩ | ⟨rfl, h⟩ | ⟨rfl, h⟩ | ⟨rfl, h⟩) <;> exact ⟨by decide, h⟩
  · rw [hP.2.2.2.2.2.2.1 q hq]; unfold isOfG sdN
    exact decide_eq_decide.mpr (by split <;> omega)
  · rw [hP.2.2.2.2.2.2.2 q hq]; unfold isOfG sdN
    exact decide_eq_decide.mpr (by split <;> omega)
theorem lb_clr {s : Int64} {k i : Nat} (hk : k < 64) (hi : i < 64) : lb (s &&& (mBit (nI k) ^^^ (-1))) i = (lb s i && !(decide (i = k))) := by
  rw [lb_and, lb_not _ hi, lb_mBit hk hi]
def updN (M : Nat → Nat) (q m : Nat) : Nat → Nat := fun k => if k = q then m else M k
theorem posQ.put {σ : mSt} {p q m : Nat} {M Hd : Nat → Nat} {C R T RI : Int32} (h : posQ σ p M Hd C R T RI) (hq : q < 36) (hm : m ≤ 12) : posQ (putS σ p (nI q) (nI m)) p (updN M q m) Hd C R T RI := by
  have e0 : ¬ (nI q < 0 ∨ 36 ≤ (nI q).toNatClampNeg) := nI_in hq (by decide)
  have ec := nI_clamp (n := q) (by omega)
  obtain ⟨h1, h2, h3, h4, h5, h6, h7, h8⟩ := h
  rw [putS, if_neg e0, ec]
  refine ⟨fun k hk => ?_, fun i hi => ?_, ?_, ?_, ?_, ?_, fun k hk => ?_, fun k hk => ?_⟩
  · simp only [mr_at, upd, updN]
    by_cases e : k = q
    · simp [e, hm]
    · simp [e, h1 k hk]
  · dsimp only; rw [mr_ne _ _ (by omega)]; exact h2 i hi
  · dsimp only; rw [mr_ne _ _ (by omega)]; exact h3
  · dsimp only; rw [mr_ne _ _ (by omega)]; exact h4
  · dsimp only; rw [mr_ne _ _ (by omega)]; exact h5
  · dsimp only; rw [mr_ne _ _ (by omega)]; exact h6
  · dsimp only
    rw [mul_at2 _ _ (by decide), mul_at, whR]
    have l6 : (nI m ≤ 6) ↔ m ≤ 6 := nI_leI (b := 6) (by omega) (by decide)
    have l0 : (nI m ≤ 0) ↔ m ≤ 0 := nI_leI (b := 0) (by omega) (by decide)
    simp only [l6, l0, updN]
    by_cases a : m ≤ 6 ∧ ¬ m ≤ 0
    · rw [if_pos a, lb_or, lb_clr (by omega) hk, lb_mBit (by omega) hk, h7 k hk]
      by_cases e : k = q
      · subst e; simp [hq, a]; omega
      · simp [e]
    · rw [if_neg a, lb_clr (by omega) hk, h7 k hk]
      by_cases e : k = q
      · subst e; simp; omega
      · simp [e]
  · dsimp only
    rw [mul_at, blR]
    have l6 : (nI m ≤ 6) ↔ m ≤ 6 := nI_leI (b := 6) (by omega) (by decide)
    simp only [l6, updN]
    by_cases a : m ≤ 6
    · rw [if_pos a, lb_clr (by omega) hk, h8 k hk]
      by_cases e : k = q
      · subst e; simp; omega
      · simp [e]
    · rw [if_neg a, lb_or, lb_clr (by omega) hk, lb_mBit (by omega) hk, h8 k hk]
      by_cases e : k = q
      · subst e; simp [hq]; omega
      · simp [e]
def frP (σ σ' : mSt) (p : Nat) : Prop := ∀ k, k ≠ p → k ≠ p + 1 → k ≠ p + 2 → σ'.1 k = σ.1 k ∧ σ'.2 k = σ.2 k
theorem frP.rf {σ : mSt} {p : Nat} : frP σ σ p := fun _ _ _ _ => ⟨rfl, rfl⟩
theorem frP.tr {σ σ1 σ2 : mSt} {p : Nat} (h1 : frP σ σ1 p) (h2 : frP σ1 σ2 p) : frP σ σ2 p := fun k a b c => ⟨(h2 k a b c).1.trans (h1 k a b c).1, (h2 k a b c).2.trans (h1 k a b c).2⟩
theorem frP.put {σ : mSt} {p : Nat} {q m : Int32} : frP σ (putS σ p q m) p := by
  intro k a b c
  unfold putS
  split
  · exact ⟨rfl, rfl⟩
  · exact ⟨mr_ne _ _ b, by simp only [mul, if_neg a]⟩
theorem frP.fld {σ : mSt} {p f : Nat} {x : Int32} : frP σ (mu σ.1 p f x, σ.2) p := fun k a _ _ => ⟨mu_ne _ a, rfl⟩
theorem frP.hnd {σ : mSt} {p : Nat} {f : Nat → Int32} : frP σ (mr σ.1 (p + 2) f, σ.2) p := fun k _ _ c => ⟨mr_ne _ _ c, rfl⟩
theorem posQ.turn {σ : mSt} {p : Nat} {M Hd : Nat → Nat} {C R T RI x : Int32} (h : posQ σ p M Hd C R T RI) : posQ (mu σ.1 p 4 x, σ.2) p M Hd C R x RI := by
  obtain ⟨h1, h2, h3, h4, h5, h6, h7, h8⟩ := h
  refine ⟨fun q hq => ?_, fun i hi => ?_, ?_, ?_, ?_, ?_, h7, h8⟩
  · dsimp only; rw [mu_ne _ (by omega)]; exact h1 q hq
  · dsimp only; rw [mu_ne _ (by omega)]; exact h2 i hi
  · simpa [mu, upd] using h3
  · simpa [mu, upd] using h4
  · simp [mu, upd]
  · simpa [mu, upd] using h6
theorem posQ.rights {σ : mSt} {p : Nat} {M Hd : Nat → Nat} {C R T RI x : Int32} (h : posQ σ p M Hd C R T RI) : posQ (mu σ.1 p 5 x, σ.2) p M Hd C R T x := by
  obtain ⟨h1, h2, h3, h4, h5, h6, h7, h8⟩ := h
  refine ⟨fun q hq => ?_, fun i hi => ?_, ?_, ?_, ?_, ?_, h7, h8⟩
  · dsimp only; rw [mu_ne _ (by omega)]; exact h1 q hq
  · dsimp only; rw [mu_ne _ (by omega)]; exact h2 i hi
  · simpa [mu, upd] using h3
  · simpa [mu, upd] using h4
  · simpa [mu, upd] using h5
  · simp [mu, upd]
theorem posQ.hand {σ : mSt} {p i n : Nat} {M Hd : Nat → Nat} {C R T RI : Int32} (h : posQ σ p M Hd C R T RI) (hi : i < 12) : posQ (mr σ.1 (p + 2) (upd (σ.1 (p + 2)) i (nI n)), σ.2) p M (updN Hd i n) C R T RI := by
  obtain ⟨h1, h2, h3, h4, h5, h6, h7, h8⟩ := h
  refine ⟨fun q hq => ?_, fun k hk => ?_, ?_, ?_, ?_, ?_, h7, h8⟩
  · dsimp only; rw [mr_ne _ _ (by omega)]; exact h1 q hq
  · simp only [mr_at, upd, updN]
    by_cases e : k = i
    · simp [e]
    · simp [e, h2 k hk]
  · dsimp only; rw [mr_ne _ _ (by omega)]; exact h3
  · dsimp only; rw [mr_ne _ _ (by omega)]; exact h4
  · dsimp only; rw [mr_ne _ _ (by omega)]; exact h5
  · dsimp only; rw [mr_ne _ _ (by omega)]; exact h6

