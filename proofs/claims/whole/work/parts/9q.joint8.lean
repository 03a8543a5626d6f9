section Q
variable {ae ad : Nat → Nat} {sh : mSh} {σ : mSt} {g : Nat → Int32}
theorem jc_back {D : Nat} (hb : mBoard ad sh) (h : jRel σ g) (hT : trR σ 26 g D) (hD : 1 ≤ D) : Ct yX9_back cX9_back 1 (some .int) 5 0 0 [.ref (ad 0)] ae ad sh σ (mPi ad sh (fun x σ' => x = nI (D - 1) ∧ jMid σ' g (bakG g D) ∧ (wfP (bakG g D) ∧ wfL (bakG g D)))) :=
  (c_backS hb h.1 h.2.1 h.2.2.2.1.1.1 h.2.2.2.1.1.2 h.2.2.2.1.2.1 hT hD).mono (fun _ _ _ _ ⟨x, e1, e2, e3, e4, e5, e6, e7, e8, e9, e10⟩ => ⟨x, e1, e2, e3, e4, (h.mid ⟨e6, e7, ⟨_, e8⟩, Or.inl e9⟩ (fun k hk => e10 k (by omega) (by omega) (by omega))).1, e5⟩)
theorem jm_back {D : Nat} (hm : mModel ad sh) (h : jMid σ g (bakG g D)) (hw : wfP (bakG g D) ∧ wfL (bakG g D)) (hD : g 57 = nI D) (hD1 : 1 ≤ D) (hD4 : D ≤ 40) : Ct yX10_back cX10_back 2 (some .int) 2 0 0 [.ref (ad 61)] ae ad sh σ (jP ad sh (bakG g D) (nI (D - 1))) :=
  (c_mBackS hm h.2.2.1 h.1 h.2.1 hD hD1 hD4).mono (fun _ _ _ _ ⟨x, e1, e2, e3, e4, e5⟩ => ⟨x, e1, e2, e3, e4, h.beg hw.1 hw.2 e5⟩)
theorem jc_make {D m : Nat} {i : Int32} (hb : mBoard ad sh) (h : jRel σ g) (hT : trR σ 26 g D) (hD : D < 40) (hi : pickG g i = some m) : Ct yX9_make cX9_make 4 (some .int) 8 0 0 [.ref (ad 0), .int i] ae ad sh σ (mPi ad sh (fun x σ' => x = nI (ocG (makG g m D) (D + 1)) ∧ jMid σ' g (makG g m D) ∧ lkR σ' g)) :=
  (c_makeS hb h.1 h.2.1 h.2.2.2.1.1.1 h.2.2.2.1.1.2 h.2.2.2.1.2.1 h.2.2.2.1.2.2.2 hi hT hD).mono (fun _ _ _ _ ⟨x, e1, e2, e3, e4, e6, e7, e8, e9, e10⟩ => ⟨x, e1, e2, e3, e4, h.mid ⟨e6, e7, ⟨_, e8⟩, Or.inl e9⟩ (fun k hk => e10 k (by omega) (by omega) (by omega))⟩)
theorem jm_make {D m : Nat} {i : Int32} (hm : mModel ad sh) (h : jMid σ g (makG g m D)) (hl : lkR σ g) (hD : g 57 = nI D) (hD4 : D < 40) (hi : pickG g i = some m) : Ct yX10_make cX10_make 3 (some .int) 10 0 0 [.ref (ad 61), .int i] ae ad sh σ (jP ad sh (makG g m D) (nI (ocG (makG g m D) (D + 1)))) := by
  have hok := pick_ok h.1 h.2.1 hi
  obtain ⟨k, ek, hkk, _, hin⟩ := pickN_some h.1 hi
  subst ek
  have hw := mak_wf h.1 h.2.1 hok hD4
  exact (c_mMakeS hm h.2.2.1 h.1 h.2.1 hl hkk hin hD hD4).mono (fun _ _ _ _ ⟨x, e1, e2, e3, e4, σ1, e5, e6⟩ => ⟨x, e1, e2, e3, e4, (h.M e5).beg hw.1 hw.2 e6⟩)
end Q

