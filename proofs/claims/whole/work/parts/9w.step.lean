/-- both have answered V, and agree on some row -/
def jN (ad : Nat → Nat) (sh : mSh) (V : Value) : mPost := fun v ad' sh' σ' => v = some V ∧ (∀ j, j < sh.length → ad' j = ad j) ∧ (∃ X, sh' = sh ++ X) ∧ ∃ g', jRel σ' g'
/-- one call of the law, on the class and then on the reference: the same answer, and they go on agreeing -/
def jSt {α : Type} (mk : α → Value) (yc ym : MethodName) (cc cm : ByteArray) (nc nm : Nat) (ty : FieldType) (dc dm : Nat) (ae ad : Nat → Nat) (sh : mSh) (σ : mSt) (as : List Value) : Prop :=
  ∃ (r : α) (Mid : mSt → Prop), Ct yc cc nc (some ty) dc 0 0 (.ref (ad 0) :: as) ae ad sh σ (fun v ad' sh' σ' => v = some (mk r) ∧ ad' = ad ∧ sh' = sh ∧ Mid σ') ∧ ∀ σ', Mid σ' → ∃ mc ms, mc ≤ 1 ∧ ms ≤ 60 ∧ Ct ym cm nm (some ty) dm mc ms (.ref (ad 61) :: as) ae ad sh σ' (jN ad sh (mk r))
section Q
variable {ae ad : Nat → Nat} {sh : mSh} {σ : mSt} {g : Nat → Int32} {yc ym : MethodName} {cc cm : ByteArray} {nc nm dc dm : Nat} {as : List Value}
theorem jSt_M {M : mSt → Prop} {r : Int32} (hc : Ct yc cc nc (some .int) dc 0 0 (.ref (ad 0) :: as) ae ad sh σ (mPi ad sh (fun x σ' => x = r ∧ M σ'))) (hm : ∀ σ', M σ' → ∃ g', Ct ym cm nm (some .int) dm 0 0 (.ref (ad 61) :: as) ae ad sh σ' (jP ad sh g' r)) : jSt Value.int yc ym cc cm nc nm .int dc dm ae ad sh σ as := by
  refine ⟨r, M, hc.mono (fun v ad' sh' σ' h => ?_), fun σ' h => ?_⟩
  · obtain ⟨x, e1, e2, e3, e4, e5⟩ := h
    exact ⟨by rw [e1, e4], e2, e3, e5⟩
  · obtain ⟨g', hk⟩ := hm σ' h
    refine ⟨0, 0, by decide, by decide, hk.mono (fun v ad' sh' σ2 h2 => ?_)⟩
    obtain ⟨x, e1, e2, e3, e4, e5⟩ := h2
    exact ⟨by rw [e1, e4], fun j _ => by rw [e2], ⟨[], by rw [e3, List.append_nil]⟩, g', e5⟩
theorem jSt_L {M : mSt → Prop} {r : Int64} (hc : Ct yc cc nc (some .long) dc 0 0 (.ref (ad 0) :: as) ae ad sh σ (mPl ad sh (fun x σ' => x = r ∧ M σ'))) (hm : ∀ σ', M σ' → ∃ g', Ct ym cm nm (some .long) dm 0 0 (.ref (ad 61) :: as) ae ad sh σ' (jL ad sh g' r)) : jSt Value.long yc ym cc cm nc nm .long dc dm ae ad sh σ as := by
  refine ⟨r, M, hc.mono (fun v ad' sh' σ' h => ?_), fun σ' h => ?_⟩
  · obtain ⟨x, e1, e2, e3, e4, e5⟩ := h
    exact ⟨by rw [e1, e4], e2, e3, e5⟩
  · obtain ⟨g', hk⟩ := hm σ' h
    refine ⟨0, 0, by decide, by decide, hk.mono (fun v ad' sh' σ2 h2 => ?_)⟩
    obtain ⟨x, e1, e2, e3, e4, e5⟩ := h2
    exact ⟨by rw [e1, e4], fun j _ => by rw [e2], ⟨[], by rw [e3, List.append_nil]⟩, g', e5⟩
/-- neither changes anything -/
theorem jSt_E {r : Int32} (h : jRel σ g) (hc : Ct yc cc nc (some .int) dc 0 0 (.ref (ad 0) :: as) ae ad sh σ (mEq (some (.int r)) ad sh σ)) (hm : ∀ σ', jRel σ' g → Ct ym cm nm (some .int) dm 0 0 (.ref (ad 61) :: as) ae ad sh σ' (mEq (some (.int r)) ad sh σ')) : jSt Value.int yc ym cc cm nc nm .int dc dm ae ad sh σ as :=
  jSt_M (M := fun σ' => jRel σ' g) (r := r) (hc.toI ⟨rfl, h⟩) (fun σ' h' => ⟨g, (hm σ' h').toI ⟨rfl, h'⟩⟩)
theorem in_k {c : Int32} {n : Nat} (hn : n < 2 ^ 31) (h : ¬ (c < 0 ∨ nI n < c)) : ∃ k, k ≤ n ∧ c = nI k := by
  obtain ⟨k, hk, e⟩ := nI_of (fun z => h (Or.inl z))
  refine ⟨k, Nat.le_of_not_lt fun z => h (Or.inr ?_), e⟩
  rw [e]
  exact (nI_ltI hn hk).mpr z

theorem st_status (hb : mBoard ad sh) (hm : mModel ad sh) (h : jRel σ g) : jSt Value.int yX9_status yX10_status cX9_status cX10_status 1 1 .int 7 10 ae ad sh σ [] := by
  exact jSt_M (M := fun σ' => jRel σ' g) (jc_status hb h) (fun σ' h' => ⟨g, jm_status hm h'⟩)
theorem st_digest (hb : mBoard ad sh) (hm : mModel ad sh) (h : jRel σ g) : jSt Value.int yX9_digest yX10_digest cX9_digest cX10_digest 1 1 .int 2 2 ae ad sh σ [] := by
  exact jSt_M (M := fun σ' => jRel σ' g) (jc_digest hb h) (fun σ' h' => ⟨g, jm_digest hm h'⟩)
theorem st_at {a : Int32} (hb : mBoard ad sh) (hm : mModel ad sh) (h : jRel σ g) : jSt Value.int yX9_at yX10_at cX9_at cX10_at 3 2 .int 2 2 ae ad sh σ [.int a] := by
  exact jSt_M (M := fun σ' => jRel σ' g) (jc_at hb h) (fun σ' h' => ⟨g, jm_at hm h'⟩)
theorem st_text {a : Int32} (hb : mBoard ad sh) (hm : mModel ad sh) (h : jRel σ g) : jSt Value.int yX9_text yX10_text cX9_text cX10_text 3 2 .int 3 3 ae ad sh σ [.int a] := by
  exact jSt_M (M := fun σ' => jRel σ' g) (jc_text hb h) (fun σ' h' => ⟨g, jm_text hm h'⟩)
theorem st_move {a b : Int32} (hb : mBoard ad sh) (hm : mModel ad sh) (h : jRel σ g) : jSt Value.int yX9_move yX10_move cX9_move cX10_move 4 3 .int 8 10 ae ad sh σ [.int a, .int b] := by
  exact jSt_M (M := fun σ' => jRel σ' g) (jc_move hb h) (fun σ' h' => ⟨g, jm_move hm h'⟩)
theorem st_told {a b : Int32} (hb : mBoard ad sh) (hm : mModel ad sh) (h : jRel σ g) : jSt Value.int yX9_told yX10_told cX9_told cX10_told 4 5 .int 8 10 ae ad sh σ [.int a, .int b] := by
  exact jSt_M (M := fun σ' => jRel σ' g) (jc_told hb h) (fun σ' h' => ⟨g, jm_told hm h'⟩)
theorem st_property {a b : Int32} (hb : mBoard ad sh) (hm : mModel ad sh) (h : jRel σ g) : jSt Value.int yX9_property yX10_property cX9_property cX10_property 3 6 .int 4 7 ae ad sh σ [.int a, .int b] := by
  exact jSt_M (M := fun σ' => jRel σ' g) (jc_prop hb h) (fun σ' h' => ⟨g, jm_prop hm h'⟩)
theorem st_moves {a : Int32} (hb : mBoard ad sh) (hm : mModel ad sh) (h : jRel σ g) : jSt Value.int yX9_moves yX10_moves cX9_moves cX10_moves 4 4 .int 8 10 ae ad sh σ [.int a] := by
  by_cases hc : a < 0 ∨ 5 < a
  · exact jSt_M (M := fun σ' => jRel σ' g) (jc_movesNo hb h hc) (fun σ' h' => ⟨g, jm_movesNo hm h' hc⟩)
  · obtain ⟨k, hk, e⟩ := in_k (n := 5) (by decide) hc
    subst e
    exact jSt_M (M := fun σ' => jRel σ' g) (jc_moves hb h hc) (fun σ' h' => ⟨g, jm_moves hm h' hk⟩)
theorem st_seq {a b : Int32} (hb : mBoard ad sh) (hm : mModel ad sh) (h : jRel σ g) : jSt Value.int yX9_sequences yX10_sequences cX9_sequences cX10_sequences 3 5 .int 7 10 ae ad sh σ [.int a, .int b] := by
  by_cases hc : a < 0 ∨ 2 < a
  · exact jSt_E h (c_seqNo1 hb hc) (fun _ _ => c_mSeqNo1 hm hc)
  · cases hx : isBt b with
    | false => exact jSt_E h (c_seqNo2 hb hc hx) (fun _ _ => c_mSeqNo2 hm hc hx)
    | true =>
      obtain ⟨k, hk, e⟩ := in_k (n := 2) (by decide) hc
      obtain ⟨j, hj, e2⟩ := isBt_nI hx
      subst e; subst e2
      exact jSt_M (M := fun σ' => jRel σ' g) (jc_seq hb h hc hj) (fun σ' h' => ⟨g, jm_seq hm h' hk hj⟩)
theorem st_proof {a b : Int32} (hb : mBoard ad sh) (hm : mModel ad sh) (h : jRel σ g) : jSt Value.int yX9_proof yX10_proof cX9_proof cX10_proof 7 9 .int 5 7 ae ad sh σ [.int a, .int b] := by
  by_cases hn : sqB g a = true ∧ sqB g b = true
  · obtain ⟨k, e, hk⟩ := sqB_in h.1 hn.1
    obtain ⟨j, e2, hj⟩ := sqB_in h.1 hn.2
    subst e; subst e2
    exact jSt_M (M := fun σ' => jRel σ' g) (jc_proof hb h hk hj) (fun σ' h' => ⟨g, jm_proof hm h' hk hj⟩)
  · exact jSt_M (M := fun σ' => jRel σ' g) (jc_proofNo hb h hn) (fun σ' h' => ⟨g, jm_proofNo hm h' hn⟩)
theorem st_attacked {a : Int32} (hb : mBoard ad sh) (hm : mModel ad sh) (h : jRel σ g) : jSt Value.long yX9_attacked yX10_attacked cX9_attacked cX10_attacked 2 2 .long 3 6 ae ad sh σ [.int a] := by
  cases hx : isBt a with
  | false => exact jSt_L (M := fun σ' => jRel σ' g) (jc_attdNo hb h hx) (fun σ' h' => ⟨g, jm_attdNo hm h' hx⟩)
  | true =>
    obtain ⟨j, hj, e2⟩ := isBt_nI hx
    subst e2
    exact jSt_L (M := fun σ' => jRel σ' g) (jc_attd hb h hj) (fun σ' h' => ⟨g, jm_attd hm h' hj⟩)
theorem st_attackers {a b : Int32} (hb : mBoard ad sh) (hm : mModel ad sh) (h : jRel σ g) : jSt Value.long yX9_attackers yX10_attackers cX9_attackers cX10_attackers 3 6 .long 3 6 ae ad sh σ [.int a, .int b] := by
  by_cases hx : sqB g a = true ∧ isBt b = true
  · obtain ⟨k, e, hk⟩ := sqB_in h.1 hx.1
    obtain ⟨j, hj, e2⟩ := isBt_nI hx.2
    subst e; subst e2
    exact jSt_L (M := fun σ' => jRel σ' g) (jc_attr hb h hk hj) (fun σ' h' => ⟨g, jm_attr hm h' hk hj⟩)
  · exact jSt_L (M := fun σ' => jRel σ' g) (jc_attrNo hb h hx) (fun σ' h' => ⟨g, jm_attrNo hm h' hx⟩)
theorem st_side {a : Int32} (hb : mBoard ad sh) (hm : mModel ad sh) (h : jRel σ g) : jSt Value.int yX9_side yX10_side cX9_side cX10_side 3 2 .int 3 4 ae ad sh σ [.int a] := by
  cases hx : isBt a with
  | false => exact jSt_E h (c_sideNo hb hx) (fun _ _ => c_mSideNo hm hx)
  | true =>
    obtain ⟨j, hj, e2⟩ := isBt_nI hx
    subst e2
    exact jSt_M (M := fun σ' => jMid σ' g (begG (upd g 0 (nI j)))) (jc_side hj hb h) (fun σ' h' => ⟨_, jm_side hj hm h'⟩)
theorem st_hand {a b c : Int32} (hb : mBoard ad sh) (hm : mModel ad sh) (h : jRel σ g) : jSt Value.int yX9_hand yX10_hand cX9_hand cX10_hand 5 4 .int 3 4 ae ad sh σ [.int a, .int b, .int c] := by
  by_cases hx : isBt a = true ∧ isTy b = true
  · obtain ⟨s, hs, e⟩ := isBt_nI hx.1
    obtain ⟨t, ht, e2⟩ := isTy_nI hx.2
    subst e; subst e2
    by_cases hc : c < 0 ∨ 9 < c
    · exact jSt_E h (c_handBad hb hs ht hc) (fun _ _ => c_mHandBad hm hs ht hc)
    · obtain ⟨n, hn, e3⟩ := in_k (n := 9) (by decide) hc
      subst e3
      exact jSt_M (M := fun σ' => jMid σ' g (begG (upd g (37 + (6 * s + t)) (nI n)))) (jc_hand hs ht hn hb h) (fun σ' h' => ⟨_, jm_hand hs ht hn hm h'⟩)
  · exact jSt_E h (c_handNo hb hx) (fun _ _ => c_mHandNo hm hx)
theorem st_rule {a b : Int32} (hb : mBoard ad sh) (hm : mModel ad sh) (h : jRel σ g) : jSt Value.int yX9_rule yX10_rule cX9_rule cX10_rule 4 3 .int 3 4 ae ad sh σ [.int a, .int b] := by
  by_cases hc : a < 0 ∨ 1 < a
  · exact jSt_E h (c_ruleNo hb hc) (fun _ _ => c_mRuleNo hm hc)
  · obtain ⟨k, hk, e⟩ := in_k (n := 1) (by decide) hc
    subst e
    have hk2 : k = 0 ∨ k = 1 := by omega
    rcases hk2 with e | e
    · subst e
      by_cases hv : b < 0 ∨ 1 < b
      · exact jSt_E h (c_ruleBad0 hb hv) (fun _ _ => c_mRuleBad0 hm hv)
      · obtain ⟨n, hn, e3⟩ := in_k (n := 1) (by decide) hv
        subst e3
        exact jSt_M (M := fun σ' => jMid σ' g (begG (upd g 55 (nI n)))) (jc_rule0 hn hb h) (fun σ' h' => ⟨_, jm_rule0 hn hm h'⟩)
    · subst e
      by_cases hv : b < 0 ∨ 2 < b
      · exact jSt_E h (c_ruleBad1 hb hv) (fun _ _ => c_mRuleBad1 hm hv)
      · obtain ⟨n, hn, e3⟩ := in_k (n := 2) (by decide) hv
        subst e3
        exact jSt_M (M := fun σ' => jMid σ' g (begG (upd g 56 (nI n)))) (jc_rule1 hn hb h) (fun σ' h' => ⟨_, jm_rule1 hn hm h'⟩)
theorem st_type {a b c : Int32} (hb : mBoard ad sh) (hm : mModel ad sh) (h : jRel σ g) : jSt Value.int yX9_type yX10_type cX9_type cX10_type 6 4 .int 3 4 ae ad sh σ [.int a, .int b, .int c] := by
  by_cases hx : isTy a = true ∧ ¬ (b < 0 ∨ 1 < b)
  · obtain ⟨t, ht, e⟩ := isTy_nI hx.1
    obtain ⟨k, hk, e2⟩ := in_k (n := 1) (by decide) hx.2
    subst e; subst e2
    have hk2 : k = 0 ∨ k = 1 := by omega
    rcases hk2 with e | e
    · subst e
      cases hv : isBt c with
      | false => exact jSt_E h (c_typeBad0 hb ht hv) (fun _ _ => c_mTypeBad0 hm ht hv)
      | true =>
        obtain ⟨n, hn, e3⟩ := isBt_nI hv
        subst e3
        exact jSt_M (M := fun σ' => jMid σ' g (begG (upd g (58 + 21 * t) (nI n)))) (jc_type0 ht hn hb h) (fun σ' h' => ⟨_, jm_type0 ht hn hm h'⟩)
    · subst e
      have go : ∀ n, n ≤ 6 → jSt Value.int yX9_type yX10_type cX9_type cX10_type 6 4 .int 3 4 ae ad sh σ [.int (nI t), .int (nI 1), .int (nI n - 1)] := fun n hn => by
        exact jSt_M (M := fun σ' => jMid σ' g (begG (upd g (59 + 21 * t) (nI n)))) (jc_type1 ht hn hb h) (fun σ' h' => ⟨_, jm_type1 ht hn hm h'⟩)
      by_cases h1 : c = -1
      · subst h1
        exact go 0 (by decide)
      · cases hv : isTy c with
        | false => exact jSt_E h (c_typeBad1 hb ht h1 hv) (fun _ _ => c_mTypeBad1 hm ht h1 hv)
        | true =>
          obtain ⟨n, hn, e3⟩ := isTy_nI hv
          have e4 : nI (n + 1) - 1 = nI n := by
            rw [← nI_add n 1]
            exact Int32.add_sub_cancel _ _
          rw [e3, ← e4]
          exact go (n + 1) (by omega)
  · exact jSt_E h (c_typeNo hb hx) (fun _ _ => c_mTypeNo hm hx)
theorem st_size {a b : Int32} (hb : mBoard ad sh) (hm : mModel ad sh) (h : jRel σ g) : jSt Value.int yX9_size yX10_size cX9_size cX10_size 3 4 .int 3 3 ae ad sh σ [.int a, .int b] := by
  by_cases hx : isLen a = true ∧ isLen b = true
  · obtain ⟨c, hc, e⟩ := isLen_nI hx.1
    obtain ⟨r, hr, e2⟩ := isLen_nI hx.2
    subst e; subst e2
    exact jSt_M (M := fun σ' => jMid σ' g (begG (sizG g c r))) (jc_size hc hr hb h) (fun σ' h' => ⟨_, jm_size hc hr hm h'⟩)
  · exact jSt_E h (c_sizeNo hb hx) (fun _ _ => c_mSizeNo hm hx)
theorem st_castle {a b c d e f : Int32} (hb : mBoard ad sh) (hm : mModel ad sh) (h : jRel σ g) : jSt Value.int yX9_castle yX10_castle cX9_castle cX10_castle 8 8 .int 3 3 ae ad sh σ [.int a, .int b, .int c, .int d, .int e, .int f] := by
  by_cases hx : (¬ a < 0 ∧ a < 4) ∧ isBt b = true ∧ sqB g c = true ∧ sqB g d = true ∧ sqB g e = true ∧ sqB g f = true
  · obtain ⟨⟨a0, a4⟩, hd, hr, hs, hp, hq⟩ := hx
    obtain ⟨k, hk, e1⟩ := nI_of a0
    obtain ⟨d', hd', e2⟩ := isBt_nI hd
    obtain ⟨r, e3, hr'⟩ := sqB_in h.1 hr
    obtain ⟨s, e4, hs'⟩ := sqB_in h.1 hs
    obtain ⟨p, e5, hp'⟩ := sqB_in h.1 hp
    obtain ⟨q, e6, hq'⟩ := sqB_in h.1 hq
    subst e1; subst e2; subst e3; subst e4; subst e5; subst e6
    have hk4 : k < 4 := (nI_ltI hk (by decide)).mp a4
    by_cases hok : okC g r s p q
    · exact jSt_M (M := fun σ' => jMid σ' g (begG (casS g k d' r s p q))) (jc_castle hk4 hd' hr' hs' hp' hq' hok hb h) (fun σ' h' => ⟨_, jm_castle hk4 hd' hr' hs' hp' hq' hok hm h'⟩)
    · exact jSt_E h (c_castleBad hb h.1 h.2.2.2.1.1.1 hk4 hd' hr' hs' hp' hq' hok) (fun _ h' => c_mCastleBad hm h'.2.2.1 h.1 hk4 hd' hr' hs' hp' hq' hok)
  · exact jSt_E h (c_castleNo hb h.1 h.2.2.2.1.1.1 hx) (fun _ h' => c_mCastleNo hm h'.2.2.1 h.1 hx)
theorem st_make {a : Int32} (hb : mBoard ad sh) (hm : mModel ad sh) (h : jRel σ g) : jSt Value.int yX9_make yX10_make cX9_make cX10_make 4 3 .int 8 10 ae ad sh σ [.int a] := by
  cases hi : pickG g a with
  | none => exact jSt_M (M := fun σ' => jRel σ' g) ((c_makeNo (D := 0) hb h.1 h.2.1 h.2.2.2.1.1.1 h.2.2.2.1.1.2 h.2.2.2.1.2.1 h.2.2.2.1.2.2.2 hi).mono (fun _ _ _ _ ⟨x, e1, e2, e3, e4, a, b, c, f⟩ => ⟨x, e1, e2, e3, e4, h.B a b c (fun k k0 _ k1 k2 k3 k4 k5 => f k k0 k1 k2 k3 k4 k5)⟩)) (fun σ' h' => ⟨g, (c_mMakeNo hm h'.2.2.1 h.1 h.2.1 h'.2.2.2.2.1.1 hi).mono (fun _ _ _ _ ⟨x, e1, e2, e3, e4, a, b, c⟩ => ⟨x, e1, e2, e3, e4, h'.M a b c⟩)⟩)
  | some m =>
    obtain ⟨D, hD, h57, hT⟩ := h.D
    by_cases h40 : D = 40
    · subst h40
      obtain ⟨k, ek, hkk, hkl, hin⟩ := pickN_some h.1 hi
      subst ek
      exact jSt_M (M := fun σ' => jRel σ' g) ((c_makeFull (D := 0) hb h.1 h.2.1 h.2.2.2.1.1.1 h.2.2.2.1.1.2 h.2.2.2.1.2.1 h.2.2.2.1.2.2.2 hi hT.1.2.2.1).mono (fun _ _ _ _ ⟨x, e1, e2, e3, e4, a, b, c, f⟩ => ⟨x, e1, e2, e3, e4, h.B a b c (fun k k0 _ k1 k2 k3 k4 k5 => f k k0 k1 k2 k3 k4 k5)⟩)) (fun σ' h' => ⟨g, (c_mMakeFull hm h'.2.2.1 h.1 h.2.1 h'.2.2.2.2.1.1 hkk hkl hin h57).mono (fun _ _ _ _ ⟨x, e1, e2, e3, e4, a, b, c⟩ => ⟨x, e1, e2, e3, e4, h'.M a b c⟩)⟩)
    · have hD4 : D < 40 := by omega
      exact jSt_M (M := fun σ' => jMid σ' g (makG g m D) ∧ lkR σ' g) (jc_make hb h hT hD4 hi) (fun σ' h' => ⟨_, jm_make hm h'.1 h'.2 h57 hD4 hi⟩)
theorem st_back (hb : mBoard ad sh) (hm : mModel ad sh) (h : jRel σ g) : jSt Value.int yX9_back yX10_back cX9_back cX10_back 1 2 .int 5 2 ae ad sh σ [] := by
  obtain ⟨D, hD, h57, hT⟩ := h.D
  by_cases h0 : D = 0
  · subst h0
    exact jSt_E h (c_backNo hb hT.1.2.2.1) (fun _ h' => c_mBackNo hm h'.2.2.1 h.1 h.2.1 h57)
  · exact jSt_M (M := fun σ' => jMid σ' g (bakG g D) ∧ (wfP (bakG g D) ∧ wfL (bakG g D))) (jc_back hb h hT (by omega)) (fun σ' h' => ⟨_, jm_back hm h'.1 h'.2 h57 (by omega) hD⟩)
theorem st_count {a : Int32} (hb : mBoard ad sh) (hm : mModel ad sh) (h : jRel σ g) : jSt Value.int yX9_count yX10_count cX9_count cX10_count 2 2 .int 2 2 ae ad sh σ [.int a] := by
  obtain ⟨D, hD, h57, hT⟩ := h.D
  obtain ⟨tl, t1, t2, t3, t4⟩ := h.2.2.2.2.2.1
  exact jSt_M (M := fun σ' => σ' = σ) (c_count hb h.1 h.2.1 h.2.2.2.1.1.1 h.2.2.2.1.1.2 h.2.2.2.1.2.1 hT.1 t2) (fun σ' h' => ⟨g, by subst h'; exact jm_count hm h h57 hD t3⟩)
theorem st_image (hb : mBoard ad sh) (hm : mModel ad sh) (h : jRel σ g) : jSt Value.int yX9_image yX10_image cX9_image cX10_image 1 2 .int 3 2 ae ad sh σ [] := by
  exact jSt_M (M := fun σ' => jI σ σ' g) (jc_image hb h) (fun σ' h' => ⟨_, jm_image hm h h'⟩)
theorem st_undo (hb : mBoard ad sh) (hm : mModel ad sh) (h : jRel σ g) : jSt Value.int yX9_undo yX10_undo cX9_undo cX10_undo 1 2 .int 3 2 ae ad sh σ [] := by
  rcases h.imaged with ⟨a, b⟩ | ⟨a, b, c, d⟩
  · exact jSt_M (M := fun σ' => σ' = σ) ((c_undoNo hb a).toI ⟨rfl, rfl⟩) (fun σ' h' => ⟨g, by subst h'; exact jm_undoNo hm h b⟩)
  · refine jSt_M (M := fun σ' => jU σ σ') (jc_undo hb b d) (fun σ' h' => ⟨fa_fill (σ.1 63) (σ'.1 62) 2369, ?_⟩)
    have hu := jm_undo (ae := ae) hm h a b c h'
    rw [menG_cong (eqL_fill (g := σ.1 63) (s := σ'.1 62))] at hu
    exact hu
theorem st_feed {a : Int32} (hb : mBoard ad sh) (hm : mModel ad sh) (h : jRel σ g) : jSt Value.int yX9_feed yX10_feed cX9_feed cX10_feed 2 2 .int 1 1 ae ad sh σ [.int a] := by
  obtain ⟨tl, t1, t2, t3, t4⟩ := h.2.2.2.2.2.1.tp
  by_cases hs : a < 0 ∨ 127 < a
  · exact jSt_E h (c_feedBad hb hs) (fun _ _ => c_mFeedBad hm hs)
  · by_cases hl : tl = 60
    · exact jSt_M (M := fun σ' => σ' = σ) ((c_feedFull hb t2 hs hl).toI ⟨rfl, rfl⟩) (fun σ' h' => ⟨g, by subst h'; exact (c_mFeedFull hm hs t3 hl).toI ⟨rfl, h⟩⟩)
    · have hl2 : tl < 60 := by omega
      refine jSt_M (M := fun σ' => σ' = (mu (mu σ.1 2 tl a) 1 1 (nI (tl + 1)), σ.2)) ((c_feedS hb t2 hs hl2).toI ⟨rfl, rfl⟩) (fun σ' h' => ⟨g, ?_⟩)
      have e3 : σ'.1 61 4 = nI tl := by
        rw [h']
        show mu (mu σ.1 2 tl a) 1 1 (nI (tl + 1)) 61 4 = _
        rw [mu_ne _ (by decide), mu_ne _ (by decide)]
        exact t3
      exact (c_mFeed hm hs e3 hl2).mono (fun _ _ _ _ ⟨x, e1, e2, e3, e4, m1, m2, m3, m4⟩ => ⟨x, e1, e2, e3, e4, h.feed t2.1 hl2 hs h' m1 m2 m3 m4⟩)
end Q
