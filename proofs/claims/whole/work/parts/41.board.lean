def mSnap (ad : Nat → Nat) (sh : mSh) (p : Nat) : Prop := sh[p]? = some (.inr (7, [.ref (ad (p + 1)), .ref (ad (p + 11)), .ref (ad (p + 14)), .int 0])) ∧ mLaws ad sh (p + 1) ∧ mPos ad sh (p + 11) ∧ mTrail ad sh (p + 14)
/-- the board's objects -/
def mBoard (ad : Nat → Nat) (sh : mSh) : Prop := sh[0]? = some (.inr (9, [.ref (ad 1), .ref (ad 3), .ref (ad 5), .ref (ad 15), .ref (ad 16), .ref (ad 20), .ref (ad 23), .ref (ad 26), .ref (ad 30), .ref (ad 32), .ref (ad 43), .int 0])) ∧
  mLine ad sh 1 ∧ mLine ad sh 3 ∧ mLaws ad sh 5 ∧ mPlay ad sh 15 5 ∧ mReader ad sh 16 ∧ mPos ad sh 20 ∧ mPos ad sh 23 ∧ mTrail ad sh 26 ∧ mList ad sh 30 ∧ mCounter ad sh 32 15 5 ∧ mSnap ad sh 43
/-- the digest of the position p -/
def dgQ (σ : mSt) (p N : Nat) : Int32 := dgP (σ.1 (p + 1)) (σ.1 (p + 2)) N (σ.1 p 4) (fun k => σ.1 p 5 >>> (nI k &&& 31) &&& 1)
def sqB (g : Nat → Int32) (q : Int32) : Bool := decide (¬ q < 0 ∧ q < nI (cN g * rN g))
theorem sq36 {g : Nat → Int32} (hG : wfP g) : cN g * rN g ≤ 36 := Nat.le_trans (Nat.mul_le_mul hG.1.2.2 hG.2.1.2.2) (by decide)

set_option maxRecDepth 100000 in
set_option maxHeartbeats 4000000 in
theorem c_isSq {ae ad : Nat → Nat} {sh : mSh} {σ : mSt} {g : Nat → Int32} (hb : mBoard ad sh) (hG : wfP g) (hP : posR σ 20 g) {q : Int32} : Ct yX9_isSquare cX9_isSquare 2 (some .boolean) 1 0 0 [.ref (ad 0), .int q] ae ad sh σ (mEq (some (.int (b2i (sqB g q)))) ad sh σ) := by
  refine Ct.ofL (own := RX9) (ini := false) (ls := [some (.ref (ad 0)), some (.int q)]) (by decide +kernel) rfl (fun h => by cases h) (Nat.le_of_ble_eq_true rfl) rfl ?_
  refine ev_iload_1 dX9_isSquare_0 ?_
  refine ev_if_lt (tgt := 19) dX9_isSquare_1 (by decide) (fun h1 => ?_) (fun h1 => ?_)
  · refine ev_iconst_0 dX9_isSquare_19 ?_
    exact ev_zret (b2i_nar _) dX9_isSquare_20 (by simp_all [sqB, b2i, ← Int32.not_lt]) rfl
  · refine ev_iload_1 dX9_isSquare_4 ?_
    refine ev_aload_0 dX9_isSquare_5 ?_
    refine gf_X9_47 dX9_isSquare_6 hb.1 rfl ?_
    refine cl_X9_105 (c_squares hb.2.2.2.2.2.2.1) hb.2.2.2.2.2.2.1.1 dX9_isSquare_9 rfl (Nat.le_of_ble_eq_true rfl) ?_
    rw [hP.sq hG]
    refine ev_icmp_ge (tgt := 19) dX9_isSquare_12 (by decide) (fun h12 => ?_) (fun h12 => ?_)
    · refine ev_iconst_0 dX9_isSquare_19 ?_
      exact ev_zret (b2i_nar _) dX9_isSquare_20 (by simp_all [sqB, b2i, ← Int32.not_lt]) rfl
    · refine ev_iconst_1 dX9_isSquare_15 ?_
      refine ev_goto (tgt := 20) dX9_isSquare_16 (by decide) ?_
      exact ev_zret (b2i_nar _) dX9_isSquare_20 (by simp_all [sqB, b2i, ← Int32.not_lt]) rfl
set_option maxRecDepth 100000 in
set_option maxHeartbeats 4000000 in
theorem c_digest {ae ad : Nat → Nat} {sh : mSh} {σ : mSt} {g : Nat → Int32} (hb : mBoard ad sh) (hG : wfP g) (hP : posR σ 20 g) : Ct yX9_digest cX9_digest 1 (some .int) 2 0 0 [.ref (ad 0)] ae ad sh σ (mEq (some (.int (dgQ σ 20 (cN g * rN g)))) ad sh σ) := by
  refine Ct.ofL (own := RX9) (ini := false) (ls := [some (.ref (ad 0))]) (by decide +kernel) rfl (fun h => by cases h) (Nat.le_of_ble_eq_true rfl) rfl ?_
  refine ev_aload_0 dX9_digest_0 ?_
  refine gf_X9_47 dX9_digest_1 hb.1 rfl ?_
  refine cl_X9_274 (c_digestNow hb.2.2.2.2.2.2.1 (hP.sq hG) (sq36 hG)) hb.2.2.2.2.2.2.1.1 dX9_digest_4 rfl (Nat.le_of_ble_eq_true rfl) ?_
  exact ev_ireturn dX9_digest_7
set_option maxRecDepth 100000 in
set_option maxHeartbeats 4000000 in
theorem c_begin {ae ad : Nat → Nat} {sh : mSh} {σ : mSt} {g : Nat → Int32} (hb : mBoard ad sh) (hG : wfP g) (hP : posR σ 20 g) : Ct yX9_begin cX9_begin 1 none 2 0 0 [.ref (ad 0)] ae ad sh σ (mEq none ad sh (mu (mu (mu σ.1 26 3 0) 29 0 (dgQ σ 20 (cN g * rN g))) 0 11 0, σ.2)) := by
  refine Ct.ofL (own := RX9) (ini := false) (ls := [some (.ref (ad 0))]) (by decide +kernel) rfl (fun h => by cases h) (Nat.le_of_ble_eq_true rfl) rfl ?_
  refine ev_aload_0 dX9_begin_0 ?_
  refine gf_X9_57 dX9_begin_1 hb.1 rfl ?_
  refine ev_aload_0 dX9_begin_4 ?_
  refine gf_X9_47 dX9_begin_5 hb.1 rfl ?_
  refine cl_X9_274 (c_digestNow hb.2.2.2.2.2.2.1 (hP.sq hG) (sq36 hG)) hb.2.2.2.2.2.2.1.1 dX9_begin_8 rfl (Nat.le_of_ble_eq_true rfl) ?_
  refine cl_X9_346 (c_trBegin hb.2.2.2.2.2.2.2.2.1) hb.2.2.2.2.2.2.2.2.1.1 dX9_begin_11 rfl (Nat.le_of_ble_eq_true rfl) ?_
  refine ev_aload_0 dX9_begin_14 ?_
  refine ev_iconst_0 dX9_begin_15 ?_
  refine pf_X9_279 (by decide) (by decide) dX9_begin_16 hb.1 rfl ?_
  exact ev_return dX9_begin_19
/-- only the board's flag, the position and the list have changed -/
def frB (σ σ' : mSt) : Prop := ∀ k, k ≠ 0 → k ≠ 20 → k ≠ 21 → k ≠ 22 → k ≠ 30 → k ≠ 31 → σ'.1 k = σ.1 k ∧ σ'.2 k = σ.2 k
def lgR (σ : mSt) (g : Nat → Int32) : Prop := σ.1 0 11 = 1 ∧ listR σ 30 (legalG g)
theorem cc_sep : sepP 30 20 ∧ sepW 30 5 ∧ sepL 5 20 := by unfold sepP sepW sepL; omega
theorem posR_row0 {σ : mSt} {p i : Nat} {x : Int32} {g : Nat → Int32} (hp : 0 < p) (h : posR σ p g ∧ ritR σ p g) : posR (mu σ.1 0 i x, σ.2) p g ∧ ritR (mu σ.1 0 i x, σ.2) p g := by
  have e : ∀ k, 0 < k → mu σ.1 0 i x k = σ.1 k := fun k hk => mu_ne _ (by omega)
  unfold posR ritR
  simp only [e p hp, e (p + 1) (by omega), e (p + 2) (by omega)]
  exact h
theorem listR_row0 {σ : mSt} {q i : Nat} {x : Int32} {L : List Nat} (hq : 0 < q) (h : listR σ q L) : listR (mu σ.1 0 i x, σ.2) q L := by
  have e : ∀ k, 0 < k → mu σ.1 0 i x k = σ.1 k := fun k hk => mu_ne _ (by omega)
  unfold listR
  simp only [e q hq, e (q + 1) (by omega)]
  exact h
set_option maxRecDepth 100000 in
set_option maxHeartbeats 4000000 in
theorem c_listed {ae ad : Nat → Nat} {sh : mSh} {σ : mSt} {g : Nat → Int32} (hb : mBoard ad sh) (hG : wfP g) (hW : wfL g) (hP : posR σ 20 g) (hR : ritR σ 20 g) (hL : lawR σ 5 g) (hl : (σ.1 0 11 = 0) ∨ lgR σ g) : Ct yX9_listLegal cX9_listLegal 1 none 6 0 0 [.ref (ad 0)] ae ad sh σ (mPv ad sh (fun σ' => lgR σ' g ∧ (posR σ' 20 g ∧ ritR σ' 20 g) ∧ frB σ σ')) := by
  refine Ct.ofL (own := RX9) (ini := false) (ls := [some (.ref (ad 0))]) (by decide +kernel) rfl (fun h => by cases h) (Nat.le_of_ble_eq_true rfl) rfl ?_
  refine ev_aload_0 dX9_listLegal_0 ?_
  refine gf_X9_279 dX9_listLegal_1 hb.1 rfl ?_
  refine ev_if_ne (tgt := 27) dX9_listLegal_4 (by decide) (fun h4 => ?_) (fun h4 => ?_)
  · first
    | exact ev_pv dX9_listLegal_27 ⟨hl.resolve_left h4, ⟨hP, hR⟩, fun k _ _ _ _ _ _ => ⟨rfl, rfl⟩⟩
    | exact ev_pv dX9_listLegal_27 ⟨⟨by simp [mu, upd], listR_row0 (by decide) h1⟩, posR_row0 (by decide) h2, fun k z a b c d e => ⟨(mu_ne _ z).trans (f1 k a b c d e).1, (f1 k a b c d e).2⟩⟩
  · refine ev_aload_0 dX9_listLegal_7 ?_
    refine gf_X9_33 dX9_listLegal_8 hb.1 rfl ?_
    refine ev_aload_0 dX9_listLegal_11 ?_
    refine gf_X9_47 dX9_listLegal_12 hb.1 rfl ?_
    refine ev_aload_0 dX9_listLegal_15 ?_
    refine gf_X9_64 dX9_listLegal_16 hb.1 rfl ?_
    refine cg_X9_348 (c_listLegal hb.2.2.2.2.1 hb.2.2.2.2.2.2.1 hb.2.2.2.2.2.2.2.2.2.1 cc_sep.1 cc_sep.2.1 cc_sep.2.2 hG hW hP hR hL) hb.2.2.2.2.1.1 dX9_listLegal_19 rfl (Nat.le_of_ble_eq_true rfl) (fun σ1 h1 => ?_)
    obtain ⟨h1, h2, f1⟩ := h1
    refine ev_aload_0 dX9_listLegal_22 ?_
    refine ev_iconst_1 dX9_listLegal_23 ?_
    refine pf_X9_279 (by decide) (by decide) dX9_listLegal_24 hb.1 rfl ?_
    first
    | exact ev_pv dX9_listLegal_27 ⟨hl.resolve_left h4, ⟨hP, hR⟩, fun k _ _ _ _ _ _ => ⟨rfl, rfl⟩⟩
    | exact ev_pv dX9_listLegal_27 ⟨⟨by simp [mu, upd], listR_row0 (by decide) h1⟩, posR_row0 (by decide) h2, fun k z a b c d e => ⟨(mu_ne _ z).trans (f1 k a b c d e).1, (f1 k a b c d e).2⟩⟩
