/-! the relation between the class's rows and the reference's row, kept by every call of the law -/
def cRel (σ : mSt) (g : Nat → Int32) : Prop := (posR σ 20 g ∧ ritR σ 20 g) ∧ lawR σ 5 g ∧ (∃ D, trR σ 26 g D) ∧ (σ.1 0 11 = 0 ∨ lgR σ g)
def tRel (σ : mSt) : Prop := ∃ tl, tl ≤ 60 ∧ σ.1 1 1 = nI tl ∧ σ.1 61 4 = nI tl ∧ ∀ i, i < tl → σ.1 2 i = σ.1 64 i ∧ ∃ k, k < 128 ∧ σ.1 64 i = nI k
def sRel (σ : mSt) : Prop := (σ.1 43 3 = 0 ∧ σ.1 61 2 = 0) ∨ (σ.1 61 2 = 1 ∧ wfP (σ.1 63) ∧ wfL (σ.1 63) ∧ snapR σ (σ.1 63) ∧ ∃ D, trR σ 57 (σ.1 63) D)
def jRel (σ : mSt) (g : Nat → Int32) : Prop := wfP g ∧ wfL g ∧ σ.1 62 = g ∧ cRel σ g ∧ (lkR σ g ∧ sqR σ g) ∧ tRel σ ∧ sRel σ
theorem cRel.fr {σ σ' : mSt} {g : Nat → Int32} (h : cRel σ g) (e : ∀ k, k < 43 → σ'.1 k = σ.1 k ∧ σ'.2 k = σ.2 k) : cRel σ' g := by
  obtain ⟨⟨h1, h2⟩, h3, ⟨D, h4⟩, h5⟩ := h
  refine ⟨posR_lo h1 h2 (fun j hj => (e _ (by omega)).1) (e 20 (by decide)).2, lawR_lo h3 (fun i hi => (e _ (by omega)).1), ⟨D, trR_lo h4 (fun i hi => (e _ (by omega)).1)⟩, ?_⟩
  rcases h5 with h5 | ⟨a, b⟩
  · left; rw [(e 0 (by decide)).1]; exact h5
  · right
    refine ⟨by rw [(e 0 (by decide)).1]; exact a, ?_⟩
    unfold listR at b ⊢
    rw [(e 30 (by decide)).1, (e 31 (by decide)).1]
    exact b
theorem tRel.fr {σ σ' : mSt} (h : tRel σ) (e : ∀ k, k = 1 ∨ k = 2 ∨ k = 64 → σ'.1 k = σ.1 k) (e4 : σ'.1 61 4 = σ.1 61 4) : tRel σ' := by
  unfold tRel
  rw [e 1 (Or.inl rfl), e 2 (Or.inr (Or.inl rfl)), e 64 (Or.inr (Or.inr rfl)), e4]
  exact h
theorem sRel.fr {σ σ' : mSt} (h : sRel σ) (e : ∀ k, 43 ≤ k → k < 61 → σ'.1 k = σ.1 k ∧ σ'.2 k = σ.2 k) (e63 : σ'.1 63 = σ.1 63) (e2 : σ'.1 61 2 = σ.1 61 2) : sRel σ' := by
  unfold sRel
  rw [e63, e2]
  rcases h with ⟨a, b⟩ | ⟨a, b, c, ⟨d1, d2, d3, d4⟩, D, d5⟩
  · exact Or.inl ⟨by rw [(e 43 (by decide) (by decide)).1]; exact a, b⟩
  · refine Or.inr ⟨a, b, c, ⟨by rw [(e 43 (by decide) (by decide)).1]; exact d1, lawR_lo d2 (fun i hi => (e _ (by omega) (by omega)).1), posR_lo d3 d4 (fun j hj => (e _ (by omega) (by omega)).1) (e 54 (by decide) (by decide)).2⟩, D, trR_lo d5 (fun i hi => (e _ (by omega) (by omega)).1)⟩
/-- the class has answered a question -/
theorem jRel.cls {σ σ1 : mSt} {g : Nat → Int32} (h : jRel σ g) (hc : cRel σ1 g) (e : ∀ k, (k = 1 ∨ k = 2 ∨ 43 ≤ k) → σ1.1 k = σ.1 k ∧ σ1.2 k = σ.2 k) : jRel σ1 g := by
  obtain ⟨h1, h2, h3, _, ⟨h5, h6⟩, h7, h8⟩ := h
  have E : ∀ k, 43 ≤ k → σ1.1 k = σ.1 k := fun k hk => (e k (Or.inr (Or.inr hk))).1
  have e61 : σ1.1 61 = σ.1 61 := E 61 (by decide)
  refine ⟨h1, h2, (E 62 (by decide)).trans h3, hc, ⟨?_, ?_⟩, h7.fr (fun k hk => (e k (by omega)).1) (by rw [e61]), h8.fr (fun k a _ => e k (Or.inr (Or.inr a))) (E 63 (by decide)) (by rw [e61])⟩
  · unfold lkR mliR at h5 ⊢
    rw [e61, E 70 (by decide), E 66 (by decide), E 67 (by decide), E 68 (by decide), E 69 (by decide)]
    exact h5
  · unfold sqR at h6 ⊢
    rw [E 72 (by decide)]
    exact h6
/-- the reference has answered a question -/
theorem jRel.ref {σ σ1 : mSt} {g : Nat → Int32} (h : jRel σ g) (e : frM σ σ1) (hk : lkR σ1 g) (hs : sqR σ1 g) : jRel σ1 g := by
  obtain ⟨h1, h2, h3, h4, _, h7, h8⟩ := h
  have E : ∀ k, k ≤ 64 → k ≠ 61 → σ1.1 k = σ.1 k ∧ σ1.2 k = σ.2 k := fun k a b => ⟨e.1 k a b, by rw [e.2.2]⟩
  exact ⟨h1, h2, (E 62 (by decide) (by decide)).1.trans h3, h4.fr (fun k hk => E k (by omega) (by omega)), ⟨hk, hs⟩, h7.fr (fun k hk => (E k (by omega) (by omega)).1) e.2.1.2, h8.fr (fun k a b => E k (by omega) (by omega)) (E 63 (by decide) (by decide)).1 e.2.1.1⟩

