/-- the class has gone on to g' -/
theorem jRel.mid {σ σ1 : mSt} {g g' : Nat → Int32} (h : jRel σ g) (hc : cRel σ1 g') (e : ∀ k, (k = 1 ∨ k = 2 ∨ 43 ≤ k) → σ1.1 k = σ.1 k ∧ σ1.2 k = σ.2 k) : jMid σ1 g g' ∧ lkR σ1 g := by
  obtain ⟨h1, h2, h3, _, ⟨h5, h6⟩, h7, h8⟩ := h
  have E : ∀ k, 43 ≤ k → σ1.1 k = σ.1 k := fun k hk => (e k (Or.inr (Or.inr hk))).1
  have e61 : σ1.1 61 = σ.1 61 := E 61 (by decide)
  refine ⟨⟨h1, h2, (E 62 (by decide)).trans h3, hc, h7.fr (fun k hk => (e k (by omega)).1) (by rw [e61]), h8.fr (fun k a _ => e k (Or.inr (Or.inr a))) (E 63 (by decide)) (by rw [e61])⟩, ?_⟩
  unfold lkR mliR at h5 ⊢
  rw [e61, E 70 (by decide), E 66 (by decide), E 67 (by decide), E 68 (by decide), E 69 (by decide)]
  exact h5
theorem jMid.M {σ σ1 : mSt} {g g' : Nat → Int32} (h : jMid σ g g') (e : frM σ σ1) : jMid σ1 g g' := by
  obtain ⟨h1, h2, h3, h4, h7, h8⟩ := h
  have E : ∀ k, k ≤ 64 → k ≠ 61 → σ1.1 k = σ.1 k ∧ σ1.2 k = σ.2 k := fun k a b => ⟨e.1 k a b, by rw [e.2.2]⟩
  exact ⟨h1, h2, (E 62 (by decide) (by decide)).1.trans h3, h4.fr (fun k hk => E k (by omega) (by omega)), h7.fr (fun k hk => (E k (by omega) (by omega)).1) e.2.1.2, h8.fr (fun k a b => E k (by omega) (by omega)) (E 63 (by decide) (by decide)).1 e.2.1.1⟩
/-- a move has been taken back -/
theorem jRel.back {σ σ1 σ2 : mSt} {g : Nat → Int32} {D : Nat} (h : jRel σ g) (hw : wfP (bakG g D) ∧ wfL (bakG g D)) (hP : posR σ1 20 (bakG g D) ∧ ritR σ1 20 (bakG g D)) (hL : lawR σ1 5 (bakG g D)) (hT : trR σ1 26 (bakG g D) (D - 1)) (h0 : σ1.1 0 11 = 0) (e : frK σ σ1) (b : begR σ1 σ2 (bakG g D)) : jRel σ2 (bakG g D) :=
  (h.mid ⟨hP, hL, ⟨_, hT⟩, Or.inl h0⟩ (fun k hk => e k (by omega) (by omega) (by omega))).1.beg hw.1 hw.2 b
/-- a move has been made -/
theorem jRel.make {σ σ1 σ2 σ3 : mSt} {g : Nat → Int32} {D m : Nat} (h : jRel σ g) (hw : wfP (makG g m D) ∧ wfL (makG g m D)) (hP : posR σ1 20 (makG g m D) ∧ ritR σ1 20 (makG g m D)) (hL : lawR σ1 5 (makG g m D)) (hT : trR σ1 26 (makG g m D) (D + 1)) (h0 : σ1.1 0 11 = 0) (e : frK σ σ1) (f : frM σ1 σ2) (b : begR σ2 σ3 (makG g m D)) : jRel σ3 (makG g m D) :=
  ((h.mid ⟨hP, hL, ⟨_, hT⟩, Or.inl h0⟩ (fun k hk => e k (by omega) (by omega) (by omega))).1.M f).beg hw.1 hw.2 b

