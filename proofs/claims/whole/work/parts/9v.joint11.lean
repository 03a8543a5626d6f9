section Q
variable {ae ad : Nat → Nat} {sh : mSh} {σ : mSt} {g : Nat → Int32}
/-- the class has taken an image -/
def jI (σ σ1 : mSt) (g : Nat → Int32) : Prop := snapR σ1 g ∧ trCp σ σ1 57 26 ∧ ∀ k, (k < 43 ∨ 60 < k) → σ1.1 k = σ.1 k ∧ σ1.2 k = σ.2 k
theorem jc_image (hb : mBoard ad sh) (h : jRel σ g) : Ct yX9_image cX9_image 1 (some .int) 3 0 0 [.ref (ad 0)] ae ad sh σ (mPi ad sh (fun x σ' => x = nI (cntF (fun q => decide (1 ≤ mN g q)) (cN g * rN g)) ∧ jI σ σ' g)) :=
  (c_imageF hb h.2.2.2.1.1.1 h.2.2.2.1.1.2 h.2.2.2.1.2.1).mono (fun _ _ _ σ' ⟨x, e1, e2, e3, e4, e5, e6, e7⟩ => ⟨x, e1, e2, e3, (by
    have hP : posR σ' 20 g := (posR_lo h.2.2.2.1.1.1 h.2.2.2.1.1.2 (fun j hj => (e7 _ (by omega)).1) (e7 20 (by decide)).2).1
    rw [e4, men_eq hP]; exact menOk_of h.1), e5, e6, e7⟩)
theorem jm_image {σ1 : mSt} (hm : mModel ad sh) (h : jRel σ g) (i : jI σ σ1 g) : Ct yX10_image cX10_image 2 (some .int) 2 0 0 [.ref (ad 61)] ae ad sh σ1 (jP ad sh g (nI (cntF (fun q => decide (1 ≤ mN g q)) (cN g * rN g)))) :=
  (c_mImage hm ((i.2.2 62 (by decide)).1.trans h.2.2.1) h.1).mono (fun _ _ _ _ ⟨x, e1, e2, e3, e4, e5, e6, e7, e8⟩ => ⟨x, e1, e2, e3, e4, h.image i.1 i.2.1 i.2.2 e5 e6 e7 e8⟩)
end Q

