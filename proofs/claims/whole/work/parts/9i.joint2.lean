/-- answered r, and the game is still g -/
def jP (ad : Nat → Nat) (sh : mSh) (g : Nat → Int32) (r : Int32) : mPost := mPi ad sh (fun x σ' => x = r ∧ jRel σ' g)
theorem jRel.B {σ σ1 : mSt} {g : Nat → Int32} (h : jRel σ g) (hl : lgR σ1 g) (hP : posR σ1 20 g ∧ ritR σ1 20 g) (hL : lawR σ1 5 g) (e : ∀ k, k ≠ 0 → (k < 3 ∨ 4 < k) → k ≠ 20 → k ≠ 21 → k ≠ 22 → k ≠ 30 → k ≠ 31 → σ1.1 k = σ.1 k ∧ σ1.2 k = σ.2 k) : jRel σ1 g := by
  obtain ⟨D, hD⟩ := h.2.2.2.1.2.2.1
  exact h.cls ⟨hP, hL, ⟨D, trR_lo hD (fun i hi => (e _ (by omega) (by omega) (by omega) (by omega) (by omega) (by omega) (by omega)).1)⟩, Or.inr hl⟩ (fun k hk => e k (by omega) (by omega) (by omega) (by omega) (by omega) (by omega) (by omega))
theorem jRel.M {σ σ1 : mSt} {g : Nat → Int32} (h : jRel σ g) (hk : mdR σ1 g) (e : frM σ σ1) (e72 : σ1.1 72 = σ.1 72) : jRel σ1 g :=
  h.ref e hk.lk (by have := h.2.2.2.2.1.2; unfold sqR at this ⊢; rw [e72]; exact this)
theorem jRel.H {σ σ1 : mSt} {g : Nat → Int32} (h : jRel σ g) (e : frH σ σ1) : jRel σ1 g :=
  h.ref (frM.H e) (by
    have := h.2.2.2.2.1.1
    unfold lkR mliR at this ⊢
    rw [e.2.1 13 (by decide), e.1 70 (by decide) (by decide) (by decide) (by decide), e.1 66 (by decide) (by decide) (by decide) (by decide), e.1 67 (by decide) (by decide) (by decide) (by decide), e.1 68 (by decide) (by decide) (by decide) (by decide), e.1 69 (by decide) (by decide) (by decide) (by decide)]
    exact this) (by
    have := h.2.2.2.2.1.2
    unfold sqR at this ⊢
    rw [e.1 72 (by decide) (by decide) (by decide) (by decide)]
    exact this)
section Q
variable {ae ad : Nat → Nat} {sh : mSh} {σ : mSt} {g : Nat → Int32}
theorem jc_status (hb : mBoard ad sh) (h : jRel σ g) : Ct yX9_status cX9_status 1 (some .int) 7 0 0 [.ref (ad 0)] ae ad sh σ (jP ad sh g (nI (staG g))) :=
  (c_status hb h.1 h.2.1 h.2.2.2.1.1.1 h.2.2.2.1.1.2 h.2.2.2.1.2.1 h.2.2.2.1.2.2.2).mono (fun _ _ _ _ ⟨r, e1, e2, e3, e4, e5, e6, e7, e8⟩ => ⟨r, e1, e2, e3, e4, h.B e5 e6 e7 (fun k a _ b c d x y => e8 k a b c d x y)⟩)
theorem jm_status (hm : mModel ad sh) (h : jRel σ g) : Ct yX10_status cX10_status 1 (some .int) 10 0 0 [.ref (ad 61)] ae ad sh σ (jP ad sh g (nI (staG g))) :=
  (c_mStatus hm h.2.2.1 h.1 h.2.1 h.2.2.2.2.1.1).mono (fun _ _ _ _ ⟨r, e1, e2, e3, e4, e5, e6, e7⟩ => ⟨r, e1, e2, e3, e4, h.M e5 e6 e7⟩)
theorem jc_move {i c : Int32} (hb : mBoard ad sh) (h : jRel σ g) : Ct yX9_move cX9_move 4 (some .int) 8 0 0 [.ref (ad 0), .int i, .int c] ae ad sh σ (jP ad sh g (movG g i c)) :=
  (c_move hb h.1 h.2.1 h.2.2.2.1.1.1 h.2.2.2.1.1.2 h.2.2.2.1.2.1 h.2.2.2.1.2.2.2).mono (fun _ _ _ _ ⟨r, e1, e2, e3, e4, e5, e6, e7, e8⟩ => ⟨r, e1, e2, e3, e4, h.B e5 e6 e7 (fun k a _ b c d x y => e8 k a b c d x y)⟩)
theorem jm_move {i c : Int32} (hm : mModel ad sh) (h : jRel σ g) : Ct yX10_move cX10_move 3 (some .int) 10 0 0 [.ref (ad 61), .int i, .int c] ae ad sh σ (jP ad sh g (movG g i c)) :=
  (c_mMove hm h.2.2.1 h.1 h.2.1 h.2.2.2.2.1.1).mono (fun _ _ _ _ ⟨r, e1, e2, e3, e4, e5, e6, e7⟩ => ⟨r, e1, e2, e3, e4, h.M e5 e6 e7⟩)
theorem jm_told {i c : Int32} (hm : mModel ad sh) (h : jRel σ g) : Ct yX10_told cX10_told 5 (some .int) 10 0 0 [.ref (ad 61), .int i, .int c] ae ad sh σ (jP ad sh g (tolG g i c)) :=
  (c_mTold hm h.2.2.1 h.1 h.2.1 h.2.2.2.2.1.1).mono (fun _ _ _ _ ⟨r, e1, e2, e3, e4, e5, e6, e7⟩ => ⟨r, e1, e2, e3, e4, h.M e5 e6 e7⟩)
theorem jm_prop {i c : Int32} (hm : mModel ad sh) (h : jRel σ g) : Ct yX10_property cX10_property 6 (some .int) 7 0 0 [.ref (ad 61), .int i, .int c] ae ad sh σ (jP ad sh g (proG g i c)) :=
  (c_mProp hm h.1 h.2.1 h.2.2.1).mono (fun _ _ _ _ ⟨r, e1, e2, e3, e4, e5⟩ => ⟨r, e1, e2, e3, e4, h.H e5⟩)
theorem jc_at {q : Int32} (hb : mBoard ad sh) (h : jRel σ g) : Ct yX9_at cX9_at 3 (some .int) 2 0 0 [.ref (ad 0), .int q] ae ad sh σ (jP ad sh g (atR g q)) := (c_at hb h.1 h.2.2.2.1.1.1).toI ⟨rfl, h⟩
theorem jm_at {q : Int32} (hm : mModel ad sh) (h : jRel σ g) : Ct yX10_at cX10_at 2 (some .int) 2 0 0 [.ref (ad 61), .int q] ae ad sh σ (jP ad sh g (atR g q)) := (c_mAt hm h.2.2.1 h.1).toI ⟨rfl, h⟩
theorem jc_told {i c : Int32} (hb : mBoard ad sh) (h : jRel σ g) : Ct yX9_told cX9_told 4 (some .int) 8 0 0 [.ref (ad 0), .int i, .int c] ae ad sh σ (jP ad sh g (tolG g i c)) :=
  (c_told hb h.1 h.2.1 h.2.2.2.1.1.1 h.2.2.2.1.1.2 h.2.2.2.1.2.1 h.2.2.2.1.2.2.2).mono (fun _ _ _ _ ⟨r, e1, e2, e3, e4, e5, e6, e7, e8⟩ => ⟨r, e1, e2, e3, e4, h.B e5 e6 e7 (fun k a q b c d x y => e8 k a (by omega) (by omega) b c d x y)⟩)
theorem jRel.W {σ1 : mSt} (h : jRel σ g) (hP : posR σ1 20 g ∧ ritR σ1 20 g) (e : ∀ k, (k < 3 ∨ 4 < k) → (k < 20 ∨ 25 < k) → σ1.1 k = σ.1 k ∧ σ1.2 k = σ.2 k) : jRel σ1 g := by
  obtain ⟨_, h3, ⟨D, h4⟩, h5⟩ := h.2.2.2.1
  refine h.cls ⟨hP, lawR_lo h3 (fun i hi => (e _ (by omega) (by omega)).1), ⟨D, trR_lo h4 (fun i hi => (e _ (by omega) (by omega)).1)⟩, ?_⟩ (fun k hk => e k (by omega) (by omega))
  rcases h5 with h5 | ⟨a, b⟩
  · left; rw [(e 0 (by decide) (by decide)).1]; exact h5
  · right
    refine ⟨by rw [(e 0 (by decide) (by decide)).1]; exact a, ?_⟩
    unfold listR at b ⊢
    rw [(e 30 (by decide) (by decide)).1, (e 31 (by decide) (by decide)).1]
    exact b
theorem jc_text {i : Int32} (hb : mBoard ad sh) (h : jRel σ g) : Ct yX9_text cX9_text 3 (some .int) 3 0 0 [.ref (ad 0), .int i] ae ad sh σ (jP ad sh g (ansL (texF g (rN g)) i)) :=
  (c_text hb h.1 h.2.2.2.1.1.1 h.2.2.2.1.1.2).mono (fun _ _ _ _ ⟨r, e1, e2, e3, e4, e5, e6⟩ => ⟨r, e1, e2, e3, e4, h.W e5 (fun k a b => e6 k (by omega) (by omega) (by omega) (by omega) (by omega))⟩)
theorem jm_text {i : Int32} (hm : mModel ad sh) (h : jRel σ g) : Ct yX10_text cX10_text 2 (some .int) 3 0 0 [.ref (ad 61), .int i] ae ad sh σ (jP ad sh g (ansL (texF g (rN g)) i)) :=
  (c_mText hm h.2.2.1 h.1).mono (fun _ _ _ σ' ⟨r, e1, e2, e3, e4, e5, e6⟩ => ⟨r, e1, e2, e3, e4, h.ref ⟨fun j a _ => e5 j (by omega), ⟨by rw [e5 61 (by decide)], by rw [e5 61 (by decide)]⟩, e6⟩ (by
    have := h.2.2.2.2.1.1
    unfold lkR mliR at this ⊢
    rw [e5 61 (by decide), e5 70 (by decide), e5 66 (by decide), e5 67 (by decide), e5 68 (by decide), e5 69 (by decide)]
    exact this) (by
    have := h.2.2.2.2.1.2
    unfold sqR at this ⊢
    rw [e5 72 (by decide)]
    exact this)⟩)
theorem jc_prop {i c : Int32} (hb : mBoard ad sh) (h : jRel σ g) : Ct yX9_property cX9_property 3 (some .int) 4 0 0 [.ref (ad 0), .int i, .int c] ae ad sh σ (jP ad sh g (proG g i c)) :=
  (c_prop hb h.1 h.2.2.2.1.1.1 h.2.2.2.1.2.1).mono (fun _ _ _ _ ⟨r, e1, e2, e3, e4, e5⟩ => ⟨r, e1, e2, e3, e4, h.W (posR_lo h.2.2.2.1.1.1 h.2.2.2.1.1.2 (fun j hj => (e5 _ (by omega) (by omega) (by omega)).1) (e5 20 (by decide) (by decide) (by decide)).2) (fun k _ b => e5 k (by omega) (by omega) (by omega))⟩)
theorem jRel.D (h : jRel σ g) : ∃ D, D ≤ 40 ∧ g 57 = nI D ∧ trR σ 26 g D := by
  obtain ⟨D, hD⟩ := h.2.2.2.1.2.2.1
  exact ⟨D, hD.1.2.1, hD.1.1, hD⟩
theorem jc_count {D tl : Nat} {c : Int32} (hb : mBoard ad sh) (h : jRel σ g) (hD : g 57 = nI D) (hD4 : D ≤ 40) (ht : σ.1 1 1 = nI tl) : Ct yX9_count cX9_count 2 (some .int) 2 0 0 [.ref (ad 0), .int c] ae ad sh σ (jP ad sh g (couA g D tl c)) := by
  obtain ⟨D', h1, h2, h3⟩ := h.D
  have e : D' = D := (nI_eq (by omega) (by omega)).mp (h2.symm.trans hD)
  subst e
  exact (c_count hb h.1 h.2.1 h.2.2.2.1.1.1 h.2.2.2.1.1.2 h.2.2.2.1.2.1 h3.1 ht).mono (fun _ _ _ _ ⟨r, e1, e2, e3, e4, e5⟩ => ⟨r, e1, e2, e3, e4, by rw [e5]; exact h⟩)
theorem jm_count {D tl : Nat} {c : Int32} (hm : mModel ad sh) (h : jRel σ g) (hD : g 57 = nI D) (hD4 : D ≤ 40) (ht : σ.1 61 4 = nI tl) : Ct yX10_count cX10_count 2 (some .int) 2 0 0 [.ref (ad 61), .int c] ae ad sh σ (jP ad sh g (couA g D tl c)) :=
  (c_mCount hm h.2.2.1 h.1 h.2.1 hD hD4 ht (menOk_of h.1)).toI ⟨rfl, h⟩
theorem jc_digest (hb : mBoard ad sh) (h : jRel σ g) : Ct yX9_digest cX9_digest 1 (some .int) 2 0 0 [.ref (ad 0)] ae ad sh σ (jP ad sh g (dgG g)) := (c_digest hb h.1 h.2.2.2.1.1.1).toI ⟨dgQ_G h.1 h.2.2.2.1.1.1 h.2.2.2.1.1.2, h⟩
theorem jc_movesNo {c : Int32} (hb : mBoard ad sh) (h : jRel σ g) (hc : c < 0 ∨ 5 < c) : Ct yX9_moves cX9_moves 4 (some .int) 8 0 0 [.ref (ad 0), .int c] ae ad sh σ (jP ad sh g (-1)) := (c_movesNo hb hc).toI ⟨rfl, h⟩
theorem jm_movesNo {c : Int32} (hm : mModel ad sh) (h : jRel σ g) (hc : c < 0 ∨ 5 < c) : Ct yX10_moves cX10_moves 4 (some .int) 10 0 0 [.ref (ad 61), .int c] ae ad sh σ (jP ad sh g (-1)) := (c_mMovesNo hm hc).toI ⟨rfl, h⟩
theorem jc_moves {c : Int32} (hb : mBoard ad sh) (h : jRel σ g) (hc : ¬ (c < 0 ∨ 5 < c)) : Ct yX9_moves cX9_moves 4 (some .int) 8 0 0 [.ref (ad 0), .int c] ae ad sh σ (jP ad sh g (nI (kindG g c).length)) :=
  (c_moves hb hc h.1 h.2.1 h.2.2.2.1.1.1 h.2.2.2.1.1.2 h.2.2.2.1.2.1 h.2.2.2.1.2.2.2).mono (fun _ _ _ _ ⟨r, e1, e2, e3, e4, e5, e6, e7, e8⟩ => ⟨r, e1, e2, e3, e4, h.B e5 e6 e7 (fun k a _ b c d x y => e8 k a b c d x y)⟩)
theorem jm_moves {c : Nat} (hm : mModel ad sh) (h : jRel σ g) (hc : c ≤ 5) : Ct yX10_moves cX10_moves 4 (some .int) 10 0 0 [.ref (ad 61), .int (nI c)] ae ad sh σ (jP ad sh g (nI (kindG g (nI c)).length)) :=
  (c_mMoves hm h.2.2.1 h.1 h.2.1 h.2.2.2.2.1.1 hc).mono (fun _ _ _ _ ⟨r, e1, e2, e3, e4, e5, e6, e7⟩ => ⟨r, e1, e2, e3, e4, h.M e5 e6 e7⟩)
theorem jRel.C {σ1 : mSt} (h : jRel σ g) (hP : posR σ1 20 g ∧ ritR σ1 20 g) (e : frC σ σ1) : jRel σ1 g := by
  obtain ⟨_, h3, ⟨D, h4⟩, h5⟩ := h.2.2.2.1
  refine h.cls ⟨hP, lawR_lo h3 (fun i hi => (e _ (by omega) (by omega) (by omega) (by omega)).1), ⟨D, trR_lo h4 (fun i hi => (e _ (by omega) (by omega) (by omega) (by omega)).1)⟩, ?_⟩ (fun k hk => e k (by omega) (by omega) (by omega) (by omega))
  rcases h5 with h5 | ⟨a, b⟩
  · left; rw [(e 0 (by decide) (by decide) (by decide) (by decide)).1]; exact h5
  · right
    refine ⟨by rw [(e 0 (by decide) (by decide) (by decide) (by decide)).1]; exact a, ?_⟩
    unfold listR at b ⊢
    rw [(e 30 (by decide) (by decide) (by decide) (by decide)).1, (e 31 (by decide) (by decide) (by decide) (by decide)).1]
    exact b
theorem jc_seq {d : Int32} {k : Nat} (hb : mBoard ad sh) (h : jRel σ g) (hd : ¬ (d < 0 ∨ 2 < d)) (hk : k ≤ 1) : Ct yX9_sequences cX9_sequences 3 (some .int) 7 0 0 [.ref (ad 0), .int d, .int (nI k)] ae ad sh σ (jP ad sh g (nI (seqG g d))) :=
  (c_seq hb hd hk h.1 h.2.1 h.2.2.2.1.1.1 h.2.2.2.1.1.2 h.2.2.2.1.2.1).mono (fun _ _ _ _ ⟨r, e1, e2, e3, e4, e5, e6⟩ => ⟨r, e1, e2, e3, e4, h.C e5 e6⟩)
theorem jm_seq {d k : Nat} (hm : mModel ad sh) (h : jRel σ g) (hd : d ≤ 2) (hk : k ≤ 1) : Ct yX10_sequences cX10_sequences 5 (some .int) 10 0 0 [.ref (ad 61), .int (nI d), .int (nI k)] ae ad sh σ (jP ad sh g (nI (seqG g (nI d)))) :=
  (c_mSeq hm h.2.2.1 h.1 h.2.1 h.2.2.2.2.1.1 h.2.2.2.2.1.2 hd hk).mono (fun _ _ _ _ ⟨r, e1, e2, e3, e4, e5, e6, e7⟩ => ⟨r, e1, e2, e3, e4, h.ref e7 e5.lk e6⟩)
theorem jc_proofNo {a b : Int32} (hb : mBoard ad sh) (h : jRel σ g) (hn : ¬ (sqB g a = true ∧ sqB g b = true)) : Ct yX9_proof cX9_proof 7 (some .int) 5 0 0 [.ref (ad 0), .int a, .int b] ae ad sh σ (jP ad sh g (-1)) :=
  (c_proofNo hb h.1 h.2.1 h.2.2.2.1.1.1 h.2.2.2.1.1.2 h.2.2.2.1.2.1 hn).mono (fun _ _ _ _ ⟨r, e1, e2, e3, e4, e5, e6⟩ => ⟨r, e1, e2, e3, e4, h.W e5 (fun k _ b => e6 k (by omega) (by omega) (by omega))⟩)
theorem jm_proofNo {a b : Int32} (hm : mModel ad sh) (h : jRel σ g) (hn : ¬ (sqB g a = true ∧ sqB g b = true)) : Ct yX10_proof cX10_proof 9 (some .int) 7 0 0 [.ref (ad 61), .int a, .int b] ae ad sh σ (jP ad sh g (-1)) :=
  (c_mProofNo hm h.2.2.1 h.1 h.2.1 hn).mono (fun _ _ _ _ ⟨r, e1, e2, e3, e4, e5⟩ => ⟨r, e1, e2, e3, e4, h.H e5⟩)
theorem jc_proof {f t : Nat} (hb : mBoard ad sh) (h : jRel σ g) (hf : f < cN g * rN g) (ht : t < cN g * rN g) : Ct yX9_proof cX9_proof 7 (some .int) 5 0 0 [.ref (ad 0), .int (nI f), .int (nI t)] ae ad sh σ (jP ad sh g (prfG g f t)) :=
  (c_proofS hb h.1 h.2.1 h.2.2.2.1.1.1 h.2.2.2.1.1.2 h.2.2.2.1.2.1 hf ht).mono (fun _ _ _ _ ⟨r, e1, e2, e3, e4, e5, e6⟩ => ⟨r, e1, e2, e3, e4, h.W e5 (fun k _ b => e6 k (by omega) (by omega) (by omega))⟩)
theorem jm_proof {f t : Nat} (hm : mModel ad sh) (h : jRel σ g) (hf : f < cN g * rN g) (ht : t < cN g * rN g) : Ct yX10_proof cX10_proof 9 (some .int) 7 0 0 [.ref (ad 61), .int (nI f), .int (nI t)] ae ad sh σ (jP ad sh g (prfG g f t)) :=
  (c_mProofS hm h.2.2.1 h.1 h.2.1 hf ht).mono (fun _ _ _ _ ⟨r, e1, e2, e3, e4, e5⟩ => ⟨r, e1, e2, e3, e4, h.H e5⟩)
end Q

