theorem tu_wfP {g : Nat → Int32} (hG : wfP g) {s : Nat} (hs : s ≤ 1) : wfP (upd g 0 (nI s)) := by
  have e : ∀ k, 0 < k → upd g 0 (nI s) k = g k := fun k hk => if_neg (by omega)
  have e0 : upd g 0 (nI s) 0 = nI s := if_pos rfl
  have t : tuN (upd g 0 (nI s)) = s := clN_nI e0 (by omega)
  obtain ⟨h1, h2, h3, h4, h5, h6, h7⟩ := hG
  unfold wfP cN rN mN hN riN clN at *
  simp only [e _ (show 0 < 53 by omega), e _ (show 0 < 54 by omega)]
  refine ⟨h1, h2, fun q hq => by rw [e _ (by omega)]; exact h3 q hq, fun i hi => by rw [e _ (by omega)]; exact h4 i hi, fun k hk => by rw [e _ (by omega)]; exact h5 k hk, ?_, ?_⟩
  · rw [e0, t]
  · rw [t]; exact hs
theorem tu_R {σ : mSt} {p : Nat} {g : Nat → Int32} {x : Int32} (hP : posR σ p g) (hR : ritR σ p g) : posR (mu σ.1 p 4 x, σ.2) p (upd g 0 x) ∧ ritR (mu σ.1 p 4 x, σ.2) p (upd g 0 x) := by
  have e : ∀ k, 0 < k → upd g 0 x k = g k := fun k hk => if_neg (by omega)
  obtain ⟨a1, a2, a3, a4, a5, a6, a7, a8⟩ := hP
  have eO : ∀ q s, isOfG (upd g 0 x) q s = isOfG g q s := fun q s => by
    unfold isOfG mN clN
    rw [e _ (by omega)]
  refine ⟨⟨fun q hq => ?_, fun i hi => ?_, ?_, ?_, ?_, trivial, fun q hq => ?_, fun q hq => ?_⟩, fun k hk => ?_⟩
  · dsimp only
    rw [mu_ne _ (by omega), e _ (by omega)]; exact a1 q hq
  · dsimp only
    rw [mu_ne _ (by omega), e _ (by omega)]; exact a2 i hi
  · rw [e _ (by omega)]; simp [mu, upd]; exact a3
  · rw [e _ (by omega)]; simp [mu, upd]; exact a4
  · simp [mu, upd]
  · rw [eO]; exact a7 q hq
  · rw [eO]; exact a8 q hq
  · have : riN (upd g 0 x) k = riN g k := by unfold riN clN; rw [e _ (by omega)]
    rw [this]
    have := hR k hk
    simp [mu, upd, -Bool.decide_and]; exact this

