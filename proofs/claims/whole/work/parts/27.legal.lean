def okG (g : Nat → Int32) (m : Nat) : Bool := safeG (playsG g m) (tuN g)
/-- the legal moves -/
def legalG (g : Nat → Int32) : List Nat := (candG g).filter (okG g)
theorem posQ.frL {σ σ' : mSt} {p q : Nat} {M Hd : Nat → Nat} {C R T RI : Int32} (h : posQ σ p M Hd C R T RI) (hf : frL σ σ' q) (hs : sepP q p) : posQ σ' p M Hd C R T RI := by
  unfold sepP at hs
  have e0 := hf.1 p (by omega) (by omega)
  have e1 := hf.1 (p + 1) (by omega) (by omega)
  have e2 := hf.1 (p + 2) (by omega) (by omega)
  have e3 := hf.2 p (by omega) (by omega)
  unfold posQ
  rw [e0, e1, e2, e3]
  exact h
/-- only a position's and a list's rows have changed -/
def frX (σ σ' : mSt) (p q : Nat) : Prop := ∀ k, k ≠ p → k ≠ p + 1 → k ≠ p + 2 → k ≠ q → k ≠ q + 1 → σ'.1 k = σ.1 k ∧ σ'.2 k = σ.2 k
theorem frX.rf {σ : mSt} {p q : Nat} : frX σ σ p q := fun _ _ _ _ _ _ => ⟨rfl, rfl⟩
theorem frX.tr {σ σ1 σ2 : mSt} {p q : Nat} (h1 : frX σ σ1 p q) (h2 : frX σ1 σ2 p q) : frX σ σ2 p q := fun k a b c d e => ⟨(h2 k a b c d e).1.trans (h1 k a b c d e).1, (h2 k a b c d e).2.trans (h1 k a b c d e).2⟩
theorem frP.X {σ σ' : mSt} {p q : Nat} (h : frP σ σ' p) : frX σ σ' p q := fun k a b c _ _ => h k a b c
theorem frL.X {σ σ' : mSt} {p q : Nat} (h : frL σ σ' q) : frX σ σ' p q := fun k _ _ _ d e => ⟨h.1 k d e, h.2 k d e⟩
theorem lawR.X {σ σ' : mSt} {l p q : Nat} {g : Nat → Int32} (hL : lawR σ l g) (hf : frX σ σ' p q) (hs : sepL l p) (hw : sepW q l) : lawR σ' l g := by
  unfold sepL at hs
  unfold sepW at hw
  have e : ∀ i, i ≤ 9 → σ'.1 (l + i) = σ.1 (l + i) := fun i hi => (hf (l + i) (by omega) (by omega) (by omega) (by omega) (by omega)).1
  have e0 := e 0 (by decide)
  rw [Nat.add_zero] at e0
  unfold lawR
  rw [e 1 (by decide), e 2 (by decide), e 3 (by decide), e 4 (by decide), e 5 (by decide), e 6 (by decide), e 7 (by decide), e 8 (by decide), e 9 (by decide), e0]
  exact hL
/-- a list while it is sifted: i looked at, K kept -/
def sift (σ : mSt) (q i : Nat) (L K : List Nat) : Prop := σ.1 q 1 = nI L.length ∧ (∀ (j m : Nat), i ≤ j → L[j]? = some m → σ.1 (q + 1) j = nI m) ∧ (∀ (j m : Nat), K[j]? = some m → σ.1 (q + 1) j = nI m)
theorem sift.P {σ σ' : mSt} {p q i : Nat} {L K : List Nat} (h : sift σ q i L K) (hf : frP σ σ' p) (hs : sepP q p) : sift σ' q i L K := by
  unfold sepP at hs
  have e0 := (hf q (by omega) (by omega) (by omega)).1
  have e1 := (hf (q + 1) (by omega) (by omega) (by omega)).1
  unfold sift
  rw [e0, e1]
  exact h
theorem sift.keep {σ : mSt} {q i m : Nat} {L K : List Nat} (h : sift σ q i L K) (hk : K.length ≤ i) : sift (mr σ.1 (q + 1) (upd (σ.1 (q + 1)) K.length (nI m)), σ.2) q (i + 1) L (K ++ [m]) := by
  obtain ⟨h1, h2, h3⟩ := h
  refine ⟨?_, fun j x hj hx => ?_, fun j x hx => ?_⟩
  · dsimp only; rw [mr_ne _ _ (by omega)]; exact h1
  · simp only [mr_at, upd]
    rw [if_neg (by omega)]
    exact h2 j x (by omega) hx
  · simp only [mr_at, upd]
    by_cases e : j = K.length
    · subst e
      rw [if_pos rfl]
      rw [List.getElem?_append_right (Nat.le_refl _), Nat.sub_self] at hx
      cases hx; rfl
    · rw [if_neg e]
      refine h3 j x ?_
      rcases Nat.lt_or_ge j K.length with z | z
      · rw [List.getElem?_append_left z] at hx; exact hx
      · rw [List.getElem?_append_right z] at hx
        have : (j - K.length) < 1 := (List.getElem?_eq_some_iff.mp hx).1
        omega
theorem sift.skip {σ : mSt} {q i : Nat} {L K : List Nat} (h : sift σ q i L K) : sift σ q (i + 1) L K := ⟨h.1, fun j x hj hx => h.2.1 j x (by omega) hx, h.2.2⟩
theorem flt_succ {L : List Nat} {c : Nat → Bool} {i m : Nat} (h : L[i]? = some m) : (L.take (i + 1)).filter c = (L.take i).filter c ++ (if c m then [m] else []) := by
  rw [List.take_add_one, h, List.filter_append]
  cases hc : c m <;> simp [hc]
theorem flt_le {L : List Nat} {c : Nat → Bool} {i : Nat} : ((L.take i).filter c).length ≤ i := by
  have h1 := List.length_filter_le c (L.take i)
  have h2 := List.length_take_le i L
  omega

set_option maxRecDepth 100000 in
set_option maxHeartbeats 4000000 in
theorem c_legal_17 {ae ad : Nat → Nat} {sh : mSh} {σ : mSt} {y0 l p q : Nat} {g : Nat → Int32} (hy : mPlay ad sh y0 l) (hp : mPos ad sh p) (hl : mList ad sh q) (hsP : sepP q p) (hsW : sepW q l) (hsL : sepL l p) (hG : wfP g) (hW : wfL g) (hP : posR σ p g) (hR : ritR σ p g) (hL : lawR σ l g) : ∀ (n i : Nat), (candG g).length - i = n → i ≤ (candG g).length → ∀ σ2 : mSt, frX σ σ2 p q → posR σ2 p g → ritR σ2 p g → sift σ2 q i (candG g) (((candG g).take i).filter (okG g)) → Ev RX5 cX5_listLegal 8 false none (mRm 5 0 0) ae (mPv ad sh (fun σ' => listR σ' q (legalG g) ∧ (posR σ' p g ∧ ritR σ' p g) ∧ frX σ σ' p q)) 17 [some (.ref (ad y0)), some (.ref (ad p)), some (.ref (ad q)), some (.int (nI (tuN g))), some (.int (nI ((((candG g).take i).filter (okG g)).length))), some (.int (nI i)), none, none] [] 0 0 ad sh σ2 := by
  have htu := tu_le hG
  have h445 : (candG g).length ≤ 445 := by unfold candG; rw [List.length_append, List.length_append]; exact cand_len hG
  intro n
  induction n with
  | zero =>
    intro i hn hi σ2 hF hP2 hR2 hS
    have e : i = (candG g).length := by omega
    have eK : ((candG g).take i).filter (okG g) = legalG g := by rw [e, List.take_length]; rfl
    have hle := flt_le (L := candG g) (c := okG g) (i := i)
    rw [eK] at hS hle ⊢
    subst e
    refine ev_iload_5 dX5_listLegal_17 ?_
    refine ev_aload_2 dX5_listLegal_19 ?_
    refine gf_X5_189 dX5_listLegal_20 hl.1 rfl ?_
    rw [hS.1]
    refine ev_icmp_ge (tgt := 81) dX5_listLegal_23 (by decide) (fun h23 => ?_) (fun h23 => absurd (Int32.le_refl _) h23)
    refine ev_aload_2 dX5_listLegal_81 ?_
    refine ev_iload_4 dX5_listLegal_82 ?_
    refine pf_X5_189 dX5_listLegal_84 hl.1 rfl ?_
    exact ev_pv dX5_listLegal_87 ⟨⟨by simp [mu, upd], by omega, fun j m hx => by dsimp only; rw [mu_ne _ (by omega)]; exact hS.2.2 j m hx⟩, ⟨hP2.frL frL.len hsP, hR2.frL frL.len hsP⟩, hF.tr (frL.X frL.len)⟩
  | succ n ih =>
    intro i hn hi σ2 hF hP2 hR2 hS
    have hlt : i < (candG g).length := by omega
    have hL2 := hL.X hF hsL hsW
    obtain ⟨m, hx⟩ : ∃ m, (candG g)[i]? = some m := ⟨_, List.getElem?_eq_getElem hlt⟩
    have hm : mvOk g m := cand_ok hG hW (List.mem_of_getElem? hx)
    have hkl := flt_le (L := candG g) (c := okG g) (i := i)
    refine ev_iload_5 dX5_listLegal_17 ?_
    refine ev_aload_2 dX5_listLegal_19 ?_
    refine gf_X5_189 dX5_listLegal_20 hl.1 rfl ?_
    rw [hS.1]
    refine ev_icmp_ge (tgt := 81) dX5_listLegal_23 (by decide) (fun h23 => absurd h23 (nI_ge hlt (by omega))) (fun h23 => ?_)
    refine ev_aload_2 dX5_listLegal_26 ?_
    refine ev_iload_5 dX5_listLegal_27 ?_
    refine cl_X5_194 (c_moveAt hl hS.1 h445) hl.1 dX5_listLegal_29 rfl (Nat.le_of_ble_eq_true rfl) ?_
    rw [cellD_nI (by omega) hlt, hS.2.1 i m (Nat.le_refl _) hx]
    refine ev_istore_6 dX5_listLegal_32 rfl rfl ?_
    refine ev_aload_0 dX5_listLegal_34 ?_
    refine ev_aload_1 dX5_listLegal_35 ?_
    refine ev_iload_6 dX5_listLegal_36 ?_
    refine cg_X5_197 (c_apply hy hp hsL hG hW hP2 hR2 hL2 hm) hy.1 dX5_listLegal_38 rfl (Nat.le_of_ble_eq_true rfl) (fun r3 σ3 h3 => ?_)
    obtain ⟨e3, q3, f3⟩ := h3
    subst e3
    have hA := ap_R hG hW hm q3
    have hL3 := hL2.fr f3 hsL
    have hS3 := hS.P f3 hsP
    refine ev_istore_7 dX5_listLegal_41 rfl rfl ?_
    refine ev_aload_0 dX5_listLegal_43 ?_
    refine ev_aload_1 dX5_listLegal_44 ?_
    refine ev_iload_3 dX5_listLegal_45 ?_
    refine cl_X5_200 (c_isSafe hy hp (pl_wfP hG hW hm) hA.1 (hL3.pl m) (pl_wfL hG hW hm) htu) hy.1 dX5_listLegal_46 rfl (Nat.le_of_ble_eq_true rfl) ?_
    refine ev_if_eq (tgt := 66) dX5_listLegal_49 (by decide) (fun h49 => ?_) (fun h49 => ?_)
    · have hok : safeG (playsG g m) (tuN g) = false := (b2i_0 _).mp h49
      refine ev_aload_0 dX5_listLegal_66 ?_
      refine ev_aload_1 dX5_listLegal_67 ?_
      refine ev_iload_6 dX5_listLegal_68 ?_
      refine ev_iload_7 dX5_listLegal_70 ?_
      refine cg_X5_210 (c_retract hy hp hsL hG hW hm q3 hL3) hy.1 dX5_listLegal_72 rfl (Nat.le_of_ble_eq_true rfl) (fun σ5 h5 => ?_)
      obtain ⟨h5, f5⟩ := h5
      refine ev_iinc_5 (v := 1) dX5_listLegal_75 (by decide) rfl rfl ?_
      refine ev_goto (tgt := 17) dX5_listLegal_78 (by decide) ?_
      refine ev_drop_6 ?_
      refine ev_drop_7 ?_
      exact Ev.to (by rw [nI_1, flt_succ hx, show okG g m = false from hok, if_neg (by decide), List.append_nil]) rfl rfl (ih (i + 1) (by omega) (by omega) σ5 ((hF.tr f3.X).tr f5.X) h5.1 h5.2 (by rw [flt_succ hx, show okG g m = false from hok, if_neg (by decide), List.append_nil]; exact (hS3.P f5 hsP).skip))
    · have hok : safeG (playsG g m) (tuN g) = true := b2i_t h49
      refine ev_aload_2 dX5_listLegal_52 ?_
      refine gf_X5_203 dX5_listLegal_53 hl.1 rfl ?_
      refine ev_iload_4 dX5_listLegal_56 ?_
      refine ev_iload_6 dX5_listLegal_58 ?_
      refine cl_X5_206 (c_setCell hl.2 (by decide)) dX5_listLegal_60 rfl (Nat.le_of_ble_eq_true rfl) ?_
      rw [setV_nI (by omega) (by omega)]
      have f4 : frL σ3 (mr σ3.1 (q + 1) (upd (σ3.1 (q + 1)) (((candG g).take i).filter (okG g)).length (nI m)), σ3.2) q := ⟨fun k _ b => mr_ne _ _ b, fun _ _ _ => rfl⟩
      have hS4 := hS3.keep (m := m) hkl
      refine ev_iinc_4 (v := 1) dX5_listLegal_63 (by decide) rfl rfl ?_
      skip
      refine ev_aload_0 dX5_listLegal_66 ?_
      refine ev_aload_1 dX5_listLegal_67 ?_
      refine ev_iload_6 dX5_listLegal_68 ?_
      refine ev_iload_7 dX5_listLegal_70 ?_
      refine cg_X5_210 (c_retract hy hp hsL hG hW hm (q3.frL f4 hsP) (hL3.frL f4 hsW)) hy.1 dX5_listLegal_72 rfl (Nat.le_of_ble_eq_true rfl) (fun σ5 h5 => ?_)
      obtain ⟨h5, f5⟩ := h5
      refine ev_iinc_5 (v := 1) dX5_listLegal_75 (by decide) rfl rfl ?_
      refine ev_goto (tgt := 17) dX5_listLegal_78 (by decide) ?_
      refine ev_drop_6 ?_
      refine ev_drop_7 ?_
      exact Ev.to (by rw [nI_1, nI_1, flt_succ hx, show okG g m = true from hok, if_pos rfl, List.length_append]; rfl) rfl rfl (ih (i + 1) (by omega) (by omega) σ5 (((hF.tr f3.X).tr (frL.X f4)).tr f5.X) h5.1 h5.2 (by rw [flt_succ hx, show okG g m = true from hok, if_pos rfl]; exact (hS4.P f5 hsP)))
set_option maxRecDepth 100000 in
set_option maxHeartbeats 4000000 in
theorem c_listLegal {ae ad : Nat → Nat} {sh : mSh} {σ : mSt} {y0 l p q : Nat} {g : Nat → Int32} (hy : mPlay ad sh y0 l) (hp : mPos ad sh p) (hl : mList ad sh q) (hsP : sepP q p) (hsW : sepW q l) (hsL : sepL l p) (hG : wfP g) (hW : wfL g) (hP : posR σ p g) (hR : ritR σ p g) (hL : lawR σ l g) : Ct yX5_listLegal cX5_listLegal 8 none 5 0 0 [.ref (ad y0), .ref (ad p), .ref (ad q)] ae ad sh σ (mPv ad sh (fun σ' => listR σ' q (legalG g) ∧ (posR σ' p g ∧ ritR σ' p g) ∧ frX σ σ' p q)) := by
  refine Ct.ofL (own := RX5) (ini := false) (ls := [some (.ref (ad y0)), some (.ref (ad p)), some (.ref (ad q)), none, none, none, none, none]) (by decide +kernel) rfl (fun h => by cases h) (Nat.le_of_ble_eq_true rfl) rfl ?_
  refine ev_aload_0 dX5_listLegal_0 ?_
  refine ev_aload_1 dX5_listLegal_1 ?_
  refine ev_aload_2 dX5_listLegal_2 ?_
  refine cg_X5_185 (c_listCandidates hy hp hl hsP hsW hG hW hP hR hL) hy.1 dX5_listLegal_3 rfl (Nat.le_of_ble_eq_true rfl) (fun σ1 h1 => ?_)
  obtain ⟨h1, f1⟩ := h1
  have hP1 := hP.frL f1 hsP
  have hR1 := hR.frL f1 hsP
  refine ev_aload_1 dX5_listLegal_6 ?_
  refine gf_X5_131 dX5_listLegal_7 hp.1 rfl ?_
  rw [hP1.turn hG]
  refine ev_istore_3 dX5_listLegal_10 rfl rfl ?_
  refine ev_iconst_0 dX5_listLegal_11 ?_
  refine ev_istore_4 dX5_listLegal_12 rfl rfl ?_
  refine ev_iconst_0 dX5_listLegal_14 ?_
  refine ev_istore_5 dX5_listLegal_15 rfl rfl ?_
  exact c_legal_17 hy hp hl hsP hsW hsL hG hW hP hR hL _ 0 rfl (Nat.zero_le _) σ1 f1.X hP1 hR1 ⟨h1.1, fun j m _ hx => h1.2.2 j m hx, fun j m hx => by cases hx⟩
