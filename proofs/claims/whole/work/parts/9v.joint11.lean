section Q
variable {ae ad : Nat → Nat} {sh : mSh} {σ : mSt} {g : Nat → Int32}
/-- the class has taken an image -/
def jI (σ σ1 : mSt) (g : Nat → Int32) : Prop := snapR σ1 g ∧ trCp σ σ1 57 26 ∧ ∀ k, (k < 43 ∨ 60 < k) → σ1.1 k = σ.1 k ∧ σ1.2 k = σ.2 k
theorem jc_image (hb : mBoard ad sh) (h : jRel σ g) : Ct yX9_image cX9_image 1 (some .int) 3 0 0 [.ref (ad 0)] ae ad sh σ (mPi ad sh (fun x σ' => x = nI (cntF (fun q => decide (1 ≤ mN g q)) (cN g * rN g)) ∧ jI σ σ' g)) :=
  (c_imageF hb h.2.2.2.1.1.1 h.2.2.2.1.1.2 h.2.2.2.1.2.1).mono (fun _ _ _ σ' ⟨x, e1, e2, e3, e4, e5, e6, e7⟩ => ⟨x, e1, e2, e3, (by
    have hP : posR σ' 20 g := (posR_lo h.2.2.2.1.1.1 h.2.2.2.1.1.2 (fun j hj => (e7 _ (by omega)).1) (e7 20 (by decide)).2).1
    rw [e4, men_eq hP]; exact menOk_of h.1), e5, e6, e7⟩)
theorem jm_image {σ1 : mSt} (hm : mModel ad sh) (h : jRel σ g) (i : jI σ σ1 g) : Ct yX10_image cX10_image 2 (some .int) 2 0 0 [.ref (ad 61)] ae ad sh σ1 (jP ad sh g (nI (cntF (fun q => decide (1 ≤ mN g q)) (cN g * rN g)))) :=
  (c_mImage hm ((i.2.2 62 (by decide)).1.trans h.2.2.1) h.1).mono (fun _ _ _ _ ⟨x, e1, e2, e3, e4, e5, e6, e7, e8⟩ => ⟨x, e1, e2, e3, e4, h.image i.1 i.2.1 i.2.2 e5 e6 e7 e8⟩)
/-- the class has gone back to the image -/
def jU (σ σ1 : mSt) : Prop := (posR σ1 20 (σ.1 63) ∧ ritR σ1 20 (σ.1 63)) ∧ lawR σ1 5 (σ.1 63) ∧ trCp σ σ1 26 57 ∧ σ1.1 0 11 = 0 ∧ ∀ k, (30 ≤ k ∨ (0 < k ∧ k < 5)) → σ1.1 k = σ.1 k ∧ σ1.2 k = σ.2 k
theorem jRel.imaged (h : jRel σ g) : (σ.1 43 3 = 0 ∧ σ.1 61 2 = 0) ∨ (σ.1 61 2 = 1 ∧ wfP (σ.1 63) ∧ wfL (σ.1 63) ∧ snapR σ (σ.1 63)) := by
  rcases h.2.2.2.2.2.2 with a | ⟨a, b, c, d, _⟩
  · exact Or.inl a
  · exact Or.inr ⟨a, b, c, d⟩
theorem jc_undoNo (hb : mBoard ad sh) (h : jRel σ g) (h0 : σ.1 43 3 = 0) : Ct yX9_undo cX9_undo 1 (some .int) 3 0 0 [.ref (ad 0)] ae ad sh σ (jP ad sh g (-3)) := (c_undoNo hb h0).toI ⟨rfl, h⟩
theorem jm_undoNo (hm : mModel ad sh) (h : jRel σ g) (h0 : σ.1 61 2 = 0) : Ct yX10_undo cX10_undo 2 (some .int) 2 0 0 [.ref (ad 61)] ae ad sh σ (jP ad sh g (-3)) := (c_mUndoNo hm h0).toI ⟨rfl, h⟩
theorem jc_undo (hb : mBoard ad sh) (hG : wfP (σ.1 63)) (hS : snapR σ (σ.1 63)) : Ct yX9_undo cX9_undo 1 (some .int) 3 0 0 [.ref (ad 0)] ae ad sh σ (mPi ad sh (fun x σ' => x = menG (σ.1 63) ∧ jU σ σ')) :=
  (c_undoF hb hS).mono (fun _ _ _ σ' ⟨x, e1, e2, e3, e4, e5, e6, e7, e8, e9⟩ => ⟨x, e1, e2, e3, by rw [e4, men_eq e5.1], e5, e6, e7, e8, e9⟩)
theorem jm_undo {σ1 : mSt} (hm : mModel ad sh) (h : jRel σ g) (h1 : σ.1 61 2 = 1) (hG : wfP (σ.1 63)) (hW : wfL (σ.1 63)) (u : jU σ σ1) : Ct yX10_undo cX10_undo 2 (some .int) 2 0 0 [.ref (ad 61)] ae ad sh σ1 (jP ad sh (fa_fill (σ.1 63) (σ1.1 62) 2369) (menG (fa_fill (σ.1 63) (σ1.1 62) 2369))) := by
  have hw := wf_cong (eqL_fill (g := σ.1 63) (s := σ1.1 62)) hG hW
  have e63 : σ1.1 63 = σ.1 63 := (u.2.2.2.2 63 (by decide)).1
  have hu := c_mUndo (ae := ae) (σ := σ1) hm rfl e63 (by rw [(u.2.2.2.2 61 (by decide)).1]; exact h1) hw.1
  exact hu.mono (fun _ _ _ _ ⟨x, e1, e2, e3, e4, e5⟩ => ⟨x, e1, e2, e3, by rw [e4]; exact (menOk_of hw.1).symm, h.undo h1 u.1 u.2.1 u.2.2.1 u.2.2.2.1 u.2.2.2.2 e5⟩)
theorem menG_cong {g' : Nat → Int32} (e : eqL g g') : menG g' = menG g := by
  unfold menG
  rw [setL_cong (g := occG g) (fun i _ => ?_)]
  unfold occG
  by_cases h : i < 36
  · have : mN g' i = mN g i := by unfold mN clN; rw [e _ (by omega)]
    rw [this]
  · simp [h]
end Q

