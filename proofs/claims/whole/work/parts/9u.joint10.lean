theorem tRel.tp {σ : mSt} (h : tRel σ) : ∃ tl, tl ≤ 60 ∧ tpR σ (σ.1 64) tl ∧ σ.1 61 4 = nI tl ∧ ∀ i, i < tl → ∃ k, k < 128 ∧ σ.1 64 i = nI k := by
  obtain ⟨tl, h1, h2, h3, h4⟩ := h
  exact ⟨tl, h1, ⟨h2, h1, fun i hi => (h4 i hi).1⟩, h3, fun i hi => (h4 i hi).2⟩
theorem tRel_0 {σ : mSt} (h1 : σ.1 1 1 = 0) (h2 : σ.1 61 4 = 0) : tRel σ := ⟨0, by decide, h1, h2, fun i hi => absurd hi (Nat.not_lt_zero _)⟩
/-- both have begun a game at g' and emptied their tapes -/
theorem jRel.start {σ σ2 : mSt} {g g' : Nat → Int32} (h : jRel σ g) (hG : wfP g') (hW : wfL g') (hc : cRel σ2 g') (h62 : σ2.1 62 = g') (h13 : σ2.1 61 13 = 0) (h72 : σ2.1 72 2 = -1) (ht1 : σ2.1 1 1 = 0) (ht2 : σ2.1 61 4 = 0) (e : ∀ k, 43 ≤ k → k < 61 → σ2.1 k = σ.1 k ∧ σ2.2 k = σ.2 k) (e63 : σ2.1 63 = σ.1 63) (e2 : σ2.1 61 2 = σ.1 61 2) : jRel σ2 g' :=
  ⟨hG, hW, h62, hc, ⟨Or.inl h13, Or.inl h72⟩, tRel_0 ht1 ht2, h.2.2.2.2.2.2.fr e e63 e2⟩
/-- both have refused and emptied their tapes -/
theorem jRel.empty {σ σ2 : mSt} {g : Nat → Int32} (h : jRel σ g) (hc : cRel σ2 g) (h62 : σ2.1 62 = σ.1 62) (e61 : ∀ c, c = 2 ∨ c = 13 → σ2.1 61 c = σ.1 61 c) (eR : ∀ k, 66 ≤ k → k ≤ 72 → σ2.1 k = σ.1 k) (ht1 : σ2.1 1 1 = 0) (ht2 : σ2.1 61 4 = 0) (e : ∀ k, 43 ≤ k → k < 61 → σ2.1 k = σ.1 k ∧ σ2.2 k = σ.2 k) (e63 : σ2.1 63 = σ.1 63) : jRel σ2 g := by
  obtain ⟨h1, h2, h3, _, ⟨h5, h6⟩, _, h8⟩ := h
  refine ⟨h1, h2, h62.trans h3, hc, ⟨?_, ?_⟩, tRel_0 ht1 ht2, h8.fr e e63 (e61 2 (Or.inl rfl))⟩
  · unfold lkR mliR at h5 ⊢
    rw [e61 13 (Or.inr rfl), eR 70 (by decide) (by decide), eR 66 (by decide) (by decide), eR 67 (by decide) (by decide), eR 68 (by decide) (by decide), eR 69 (by decide) (by decide)]
    exact h5
  · unfold sqR at h6 ⊢
    rw [eR 72 (by decide) (by decide)]
    exact h6

