theorem trR_cp {σ σ' : mSt} {p q D : Nat} {g : Nat → Int32} (h : trR σ p g D) (c : trCp σ σ' q p) : trR σ' q g D := by
  obtain ⟨⟨a1, a2, a3, a4⟩, b⟩ := h
  refine ⟨⟨a1, a2, c.2.trans a3, fun i hi => (c.1 3 i (by decide) (by decide) (by show i < 41; omega)).trans (a4 i hi)⟩, fun i hi => ?_⟩
  obtain ⟨gi, m, q1, q2, q3, q4, q5, q6, q7, q8⟩ := b i hi
  exact ⟨gi, m, q1, q2, q3, q4, q5, (c.1 1 i (by decide) (by decide) (by show i < 40; omega)).trans q6, (c.1 2 i (by decide) (by decide) (by show i < 40; omega)).trans q7, q8⟩
/-- an image has been taken by both -/
theorem jRel.image {σ σ1 σ2 : mSt} {g : Nat → Int32} (h : jRel σ g) (hS : snapR σ1 g) (hT : trCp σ σ1 57 26) (e : ∀ k, (k < 43 ∨ 60 < k) → σ1.1 k = σ.1 k ∧ σ1.2 k = σ.2 k) (m1 : σ2.1 63 = fa_fill g (σ1.1 63) 2369) (m2 : σ2.1 61 = upd (σ1.1 61) 2 1) (m3 : ∀ j, j ≠ 61 → j ≠ 63 → σ2.1 j = σ1.1 j) (m4 : σ2.2 = σ1.2) : jRel σ2 g := by
  obtain ⟨q1, q2, q3, q4, ⟨q5, q6⟩, q7, q8⟩ := h
  have E : ∀ k, (k < 43 ∨ 60 < k) → k ≠ 61 → k ≠ 63 → σ2.1 k = σ.1 k ∧ σ2.2 k = σ.2 k := fun k a b c => ⟨(m3 k b c).trans (e k a).1, by rw [m4]; exact (e k a).2⟩
  have h61 : ∀ c, c ≠ 2 → σ2.1 61 c = σ.1 61 c := fun c hc => by rw [m2, upd_ne hc, (e 61 (by decide)).1]
  have eq : eqL g (σ2.1 63) := by rw [m1]; exact eqL_fill
  obtain ⟨D, hD⟩ := q4.2.2.1
  have T1 := trR_cp hD hT
  refine ⟨q1, q2, (E 62 (by decide) (by decide) (by decide)).1.trans q3, q4.fr (fun k hk => E k (by omega) (by omega) (by omega)), ⟨?_, ?_⟩, q7.fr (fun k hk => (E k (by omega) (by omega) (by omega)).1) (h61 4 (by decide)), Or.inr ⟨by rw [m2, upd_at], (wf_cong eq q1 q2).1, (wf_cong eq q1 q2).2, snapR_cong eq ?_, D, trR_cong eq (trR_lo T1 (fun i hi => m3 _ (by omega) (by omega)))⟩⟩
  · unfold lkR mliR at q5 ⊢
    rw [h61 13 (by decide), (E 70 (by decide) (by decide) (by decide)).1, (E 66 (by decide) (by decide) (by decide)).1, (E 67 (by decide) (by decide) (by decide)).1, (E 68 (by decide) (by decide) (by decide)).1, (E 69 (by decide) (by decide) (by decide)).1]
    exact q5
  · unfold sqR at q6 ⊢
    rw [(E 72 (by decide) (by decide) (by decide)).1]
    exact q6
  · obtain ⟨s1, s2, s3, s4⟩ := hS
    exact ⟨by rw [m3 43 (by decide) (by decide)]; exact s1, lawR_lo s2 (fun i hi => m3 _ (by omega) (by omega)), posR_lo s3 s4 (fun j hj => m3 _ (by omega) (by omega)) (by rw [m4])⟩

