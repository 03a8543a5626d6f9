/-- rows that agree where a row is read -/
def eqL (g g' : Nat → Int32) : Prop := ∀ k, k < 2369 → g' k = g k
theorem trR_cong {σ : mSt} {p D : Nat} {g g' : Nat → Int32} (e : eqL g g') (h : trR σ p g D) : trR σ p g' D := by
  obtain ⟨⟨a1, a2, a3, a4⟩, b⟩ := h
  refine ⟨⟨by rw [e 57 (by decide)]; exact a1, a2, a3, fun i hi => by rw [e _ (by omega)]; exact a4 i hi⟩, fun i hi => ?_⟩
  obtain ⟨gi, m, q1, q2, q3, q4, q5, q6, q7, q8⟩ := b i hi
  refine ⟨gi, m, fun k hk => by rw [e _ (by omega)]; exact q1 k hk, fun k x y z => by rw [e _ (by omega)]; exact q2 k x y z, q3, q4, q5, q6, q7, fun k hk => ?_⟩
  rw [← q8 k hk]
  unfold curK
  split
  · exact e _ (by omega)
  · exact e _ (by omega)
theorem snapR_cong {σ : mSt} {g g' : Nat → Int32} (e : eqL g g') (h : snapR σ g) : snapR σ g' := by
  obtain ⟨h1, h2, h3, h4⟩ := h
  exact ⟨h1, lawR_hi (fun i a b c => e i (by omega)) h2, posR_lw (fun i hi => e i (by omega)) h3 h4⟩
theorem wf_cong {g g' : Nat → Int32} (e : eqL g g') (hG : wfP g) (hW : wfL g) : wfP g' ∧ wfL g' := by
  refine ⟨wfP_lw (fun i hi => e i (by omega)) hG, wfL_of (fun i a b c => e i (by omega)) (fun k hk z => ?_) hW⟩
  unfold riN clN at z ⊢
  rw [e _ (by omega)] at z
  exact z
theorem eqL_fill {g s : Nat → Int32} : eqL g (fa_fill g s 2369) := fun k hk => fa_fill_in hk

