/-- the laws lie from 55 to 207, but for 57 -/
theorem lawR_hi {σ : mSt} {l : Nat} {g g' : Nat → Int32} (h : ∀ i, 55 ≤ i → i < 208 → i ≠ 57 → g' i = g i) (hL : lawR σ l g) : lawR σ l g' := by
  have hc : ∀ i, 55 ≤ i → i < 208 → i ≠ 57 → clN g' i = clN g i := fun i hi h2 h3 => by rw [clN, clN, h i hi h2 h3]
  have ep : ∀ t, t < 6 → pcG g' t = pcG g t := fun t ht => hc _ (by omega) (by omega) (by omega)
  have ea : ∀ t j, t < 6 → j < 6 → atG g' t j = atG g t j := fun t j ht hj => hc _ (by omega) (by omega) (by omega)
  have em : ∀ t j, t < 6 → j < 6 → mkG g' t j = mkG g t j := fun t j ht hj => by rw [mkG, mkG, h _ (by omega) (by omega) (by omega)]
  have er : ∀ t j, t < 6 → j < 6 → rcG g' t j = rcG g t j := fun t j ht hj => by rw [rcG, rcG, h _ (by omega) (by omega) (by omega)]
  have ed : ∀ t j, t < 6 → j < 6 → dmG g' t j = dmG g t j := fun t j ht hj => by rw [dmG, dmG, ea t j ht hj, em t j ht hj]
  obtain ⟨h1, h2, h3, h4, h5, h6, h7, h8, h9, h10⟩ := hL
  refine ⟨fun t ht => ?_, fun t ht j hj => ?_, h3, h4, fun t ht => ?_, fun t ht => ?_, fun k hk => ?_, fun k i hk hi => ?_, ?_, ?_⟩
  · rw [ep t ht]; exact h1 t ht
  · rw [ep t ht] at hj
    have h6 : j < 6 := by have := (h1 t ht).2; omega
    rw [ea t j ht h6, em t j ht h6, er t j ht h6, ed t j ht h6]; exact h2 t ht j hj
  · rw [h _ (by omega) (by omega) (by omega)]; exact h5 t ht
  · rw [h _ (by omega) (by omega) (by omega)]; exact h6 t ht
  · rw [h _ (by omega) (by omega) (by omega), h _ (by omega) (by omega) (by omega)]; exact h7 k hk
  · rw [h _ (by omega) (by omega) (by omega)]; exact h8 k i hk hi
  · rw [h _ (by omega) (by omega) (by omega)]; exact h9
  · rw [h _ (by omega) (by omega) (by omega)]; exact h10
theorem wfL_of {g g' : Nat → Int32} (h : ∀ i, 53 ≤ i → i < 208 → i ≠ 57 → g' i = g i) (hr : ∀ k, k < 4 → riN g' k = 1 → riN g k = 1) (hW : wfL g) : wfL g' := by
  have hc : ∀ i, 53 ≤ i → i < 208 → i ≠ 57 → clN g' i = clN g i := fun i hi h2 h3 => by rw [clN, clN, h i hi h2 h3]
  have ec : cN g' = cN g := hc _ (by decide) (by decide) (by decide)
  have er : rN g' = rN g := hc _ (by decide) (by decide) (by decide)
  have ep : ∀ t, t < 6 → pcG g' t = pcG g t := fun t ht => hc _ (by omega) (by omega) (by omega)
  have ea : ∀ t j, t < 6 → j < 6 → atG g' t j = atG g t j := fun t j ht hj => hc _ (by omega) (by omega) (by omega)
  have ex : ∀ k, k < 4 → exN g' k = exN g k := fun k hk => hc _ (by omega) (by omega) (by omega)
  have eca : ∀ k i, k < 4 → i ≤ 5 → caN g' k i = caN g k i := fun k i hk hi => hc _ (by omega) (by omega) (by omega)
  obtain ⟨h1, h2, h3, h4, h5, h6, h7⟩ := hW
  refine ⟨?_, ?_, fun t ht => ?_, fun t ht => ?_, fun t ht => ?_, fun t ht j hj => ?_, fun k hk => ?_⟩
  · rw [hc _ (by decide) (by decide) (by decide), h _ (by decide) (by decide) (by decide)]; exact h1
  · rw [hc _ (by decide) (by decide) (by decide), h _ (by decide) (by decide) (by decide)]; exact h2
  · rw [hc _ (by omega) (by omega) (by omega), h _ (by omega) (by omega) (by omega)]; exact h3 t ht
  · rw [hc _ (by omega) (by omega) (by omega), h _ (by omega) (by omega) (by omega)]; exact h4 t ht
  · rw [ep t ht, h _ (by omega) (by omega) (by omega)]; exact h5 t ht
  · rw [ep t ht] at hj
    have h6j : j < 6 := by have := (h5 t ht).1; omega
    rw [ea t j ht h6j, hc _ (by omega) (by omega) (by omega), hc _ (by omega) (by omega) (by omega), h _ (by omega) (by omega) (by omega), h _ (by omega) (by omega) (by omega), h _ (by omega) (by omega) (by omega)]; exact h6 t ht j hj
  · rw [ex k hk, ec, er, h _ (by omega) (by omega) (by omega)]
    obtain ⟨a1, a2, a3, a4⟩ := h7 k hk
    refine ⟨a1, fun i hi hi2 => ?_, fun z => ?_, fun z => a4 (hr k hk z)⟩
    · rw [eca k i hk hi2, h _ (by omega) (by omega) (by omega)]; exact a2 i hi hi2
    · obtain ⟨b1, b2, b3, b4⟩ := a3 z
      exact ⟨by rw [eca k 1 hk (by decide)]; exact b1, fun i hi hi2 => by rw [eca k i hk hi2]; exact b2 i hi hi2, by rw [eca k 2 hk (by decide), eca k 4 hk (by decide)]; exact b3, by rw [eca k 3 hk (by decide), eca k 5 hk (by decide)]; exact b4⟩
/-- the position lies below 55 -/
theorem posR_lw {σ : mSt} {p : Nat} {g g' : Nat → Int32} (h : ∀ i, i < 55 → g' i = g i) (hP : posR σ p g) (hR : ritR σ p g) : posR σ p g' ∧ ritR σ p g' := by
  have eO : ∀ q s, isOfG g' q s = isOfG g q s := fun q s => by
    unfold isOfG
    by_cases hq : q < 36
    · have : mN g' q = mN g q := by unfold mN clN; rw [h _ (by omega)]
      rw [this]
    · simp [hq]
  obtain ⟨a1, a2, a3, a4, a5, a6, a7, a8⟩ := hP
  refine ⟨⟨fun q hq => (a1 q hq).trans (h _ (by omega)).symm, fun i hi => (a2 i hi).trans (h _ (by omega)).symm, a3.trans (h _ (by decide)).symm, a4.trans (h _ (by decide)).symm, a5.trans (h _ (by decide)).symm, trivial, fun q hq => by rw [eO]; exact a7 q hq, fun q hq => by rw [eO]; exact a8 q hq⟩, fun k hk => ?_⟩
  rw [hR k hk]
  by_cases h4 : k < 4
  · have : riN g' k = riN g k := by unfold riN clN; rw [h _ (by omega)]
    rw [this]
  · simp [h4]
theorem wfP_lw {g g' : Nat → Int32} (h : ∀ i, i < 55 → g' i = g i) (hG : wfP g) : wfP g' := by
  have hc : ∀ i, i < 55 → clN g' i = clN g i := fun i hi => by rw [clN, clN, h i hi]
  obtain ⟨h1, h2, h3, h4, h5, h6, h7⟩ := hG
  unfold wfP cN rN tuN at *
  rw [hc _ (by decide), hc _ (by decide), hc _ (by decide), h _ (by decide), h _ (by decide), h _ (by decide)]
  refine ⟨h1, h2, fun q hq => ?_, fun i hi => ?_, fun k hk => ?_, h6, h7⟩
  · have := h3 q hq
    unfold mN at *
    rw [hc _ (by omega), h _ (by omega)]; exact this
  · have := h4 i hi
    unfold hN at *
    rw [hc _ (by omega), h _ (by omega)]; exact this
  · have := h5 k hk
    unfold riN at *
    rw [hc _ (by omega), h _ (by omega)]; exact this
/-- a position with the men M and nothing in hand -/
def emG (g : Nat → Int32) (M : Nat → Nat) : Nat → Int32 := fun i => if i < 1 then 0 else if i < 37 then nI (M (i - 1)) else if i < 53 then 0 else g i
theorem em_hi {g : Nat → Int32} {M : Nat → Nat} : ∀ i, 53 ≤ i → emG g M i = g i := fun i hi => by unfold emG; rw [if_neg (by omega), if_neg (by omega), if_neg (by omega)]
theorem em_sq {g : Nat → Int32} {M : Nat → Nat} {q : Nat} (hq : q < 36) : emG g M (1 + q) = nI (M q) := by unfold emG; rw [if_neg (by omega), if_pos (by omega), Nat.add_sub_cancel_left]
theorem em_0 {g : Nat → Int32} {M : Nat → Nat} {i : Nat} (h1 : 37 ≤ i) (h2 : i < 53) : emG g M i = 0 := by unfold emG; rw [if_neg (by omega), if_neg (by omega), if_pos (by omega)]
theorem em_mN {g : Nat → Int32} {M : Nat → Nat} {q : Nat} (hq : q < 36) (hM : M q ≤ 12) : mN (emG g M) q = M q := clN_nI (em_sq hq) (by omega)
theorem em_wfP {g : Nat → Int32} {M : Nat → Nat} (hG : wfP g) (hM : ∀ q, q < 36 → M q ≤ 12 ∧ (cN g * rN g ≤ q → M q = 0)) : wfP (emG g M) := by
  have e53 : cN (emG g M) = cN g := by unfold cN clN; rw [em_hi _ (by decide)]
  have e54 : rN (emG g M) = rN g := by unfold rN clN; rw [em_hi _ (by decide)]
  have z : ∀ i, 37 ≤ i → i < 53 → clN (emG g M) i = 0 := fun i a b => clN_nI (m := 0) (em_0 a b) (by decide)
  obtain ⟨h1, h2, h3, h4, h5, h6, h7⟩ := hG
  refine ⟨?_, ?_, fun q hq => ?_, fun i hi => ?_, fun k hk => ?_, ?_, ?_⟩
  · rw [e53, em_hi _ (by decide)]; exact h1
  · rw [e54, em_hi _ (by decide)]; exact h2
  · rw [em_mN hq (hM q hq).1, em_sq hq, e53, e54]; exact ⟨rfl, hM q hq⟩
  · unfold hN; rw [z _ (by omega) (by omega), em_0 (by omega) (by omega)]; exact ⟨rfl, by decide⟩
  · unfold riN; rw [z _ (by omega) (by omega), em_0 (by omega) (by omega)]; exact ⟨rfl, by decide⟩
  · have : tuN (emG g M) = 0 := clN_nI (m := 0) rfl (by decide)
    rw [this]; rfl
  · have : tuN (emG g M) = 0 := clN_nI (m := 0) rfl (by decide)
    rw [this]; decide
/-- Position.empty as the class leaves it -/
def emS (σ : mSt) (p : Nat) (c r : Int32) : mSt := (mu (mu (mu (mu (mr (mr σ.1 (p + 1) (fa_fill (fun _ => 0) (σ.1 (p + 1)) 36)) (p + 2) (fa_fill (fun _ => 0) (σ.1 (p + 2)) 12)) p 2 c) p 3 r) p 4 0) p 5 0, mul (mul σ.2 p 6 0) p 7 0)
theorem emS_Q {σ : mSt} {p : Nat} {c r : Int32} : posQ (emS σ p c r) p (fun _ => 0) (fun _ => 0) c r 0 0 := by
  refine ⟨fun q hq => ⟨?_, Nat.zero_le _⟩, fun i hi => ?_, ?_, ?_, ?_, ?_, fun q _ => ?_, fun q _ => ?_⟩
  · unfold emS
    dsimp only
    rw [mu_ne _ (by omega), mu_ne _ (by omega), mu_ne _ (by omega), mu_ne _ (by omega), mr_ne _ _ (by omega), mr_at, fa_fill_in hq]; rfl
  · unfold emS
    dsimp only
    rw [mu_ne _ (by omega), mu_ne _ (by omega), mu_ne _ (by omega), mu_ne _ (by omega), mr_at, fa_fill_in hi]; rfl
  · simp [emS, mu, upd]
  · simp [emS, mu, upd]
  · simp [emS, mu, upd]
  · simp [emS, mu, upd]
  · simp [emS, mul, lb_0]
  · simp [emS, mul, lb_0]
theorem emS_fr {σ : mSt} {p : Nat} {c r : Int32} : frP σ (emS σ p c r) p := fun k a b d => by
  unfold emS
  dsimp only
  rw [mu_ne _ a, mu_ne _ a, mu_ne _ a, mu_ne _ a, mr_ne _ _ d, mr_ne _ _ b, mul_ne _ a, mul_ne _ a]
  exact ⟨rfl, rfl⟩

