/-- the class has gone on to g', the reference still holds g -/
def jMid (σ : mSt) (g g' : Nat → Int32) : Prop := wfP g ∧ wfL g ∧ σ.1 62 = g ∧ cRel σ g' ∧ tRel σ ∧ sRel σ
theorem cRel_beg {σ : mSt} {g : Nat → Int32} (hP : posR σ 20 g ∧ ritR σ 20 g) (hL : lawR σ 5 g) (h3 : σ.1 26 3 = 0) (h29 : σ.1 29 0 = dgG g) (h0 : σ.1 0 11 = 0) : cRel σ (begG g) := by
  refine ⟨posR_lw (fun i hi => bg_ne (by omega) (by omega)) hP.1 hP.2, lawR_hi (fun i a b c => bg_ne c (by omega)) hL, ⟨0, ⟨?_, Nat.zero_le _, h3, fun i hi => ?_⟩, fun i hi => absurd hi (Nat.not_lt_zero _)⟩, Or.inl h0⟩
  · unfold begG; rw [upd_ne (by decide), upd_at]; rfl
  · have e : i = 0 := Nat.le_zero.mp hi
    subst e
    show σ.1 29 0 = begG g 2328
    unfold begG; rw [upd_at]; exact h29
theorem jRel.set {σ σ1 : mSt} {g g1 : Nat → Int32} (h : jRel σ g) (s : setR σ σ1 g1) : jMid σ1 g (begG g1) := by
  obtain ⟨h1, h2, h3, _, _, h7, h8⟩ := h
  obtain ⟨s1, s2, ⟨s3, s4⟩, s5, s6⟩ := s
  have E : ∀ k, 30 ≤ k → σ1.1 k = σ.1 k ∧ σ1.2 k = σ.2 k := fun k hk => s6 k (by omega) (by omega) (by omega) (by omega) (by omega)
  refine ⟨h1, h2, (E 62 (by decide)).1.trans h3, cRel_beg s1 s2 s3 s4 s5, h7.fr (fun k hk => (s6 k (by omega) (by omega) (by omega) (by omega) (by omega)).1) (by rw [(E 61 (by decide)).1]), h8.fr (fun k a _ => E k (by omega)) (E 63 (by decide)).1 (by rw [(E 61 (by decide)).1])⟩
theorem jMid.beg {σ σ1 : mSt} {g g' : Nat → Int32} (h : jMid σ g g') (hG : wfP g') (hW : wfL g') (b : begR σ σ1 g') : jRel σ1 g' := by
  obtain ⟨_, _, _, h4, h5, h6⟩ := h
  obtain ⟨b1, b2, b3, b4, b5⟩ := b
  have E : ∀ k, k ≠ 61 → k ≠ 62 → k ≠ 72 → σ1.1 k = σ.1 k ∧ σ1.2 k = σ.2 k := fun k x y z => ⟨b4 k x y z, by rw [b5]⟩
  refine ⟨hG, hW, b1, h4.fr (fun k hk => E k (by omega) (by omega) (by omega)), ⟨Or.inl (by rw [b2, upd_at]), Or.inl (b3 2 (by decide))⟩, h5.fr (fun k hk => (E k (by omega) (by omega) (by omega)).1) (by rw [b2, upd_ne (by decide)]), h6.fr (fun k a c => E k (by omega) (by omega) (by omega)) (E 63 (by decide) (by decide) (by decide)).1 (by rw [b2, upd_ne (by decide)])⟩
/-- a setting that gives the row g1 -/
theorem jRel.both {σ σ1 σ2 : mSt} {g g1 : Nat → Int32} (h : jRel σ g) (hG : wfP g1) (hW : wfL g1) (s : setR σ σ1 g1) (b : begR σ1 σ2 (begG g1)) : jRel σ2 (begG g1) := (h.set s).beg (bg_wfP hG) (bg_wfL hW) b

