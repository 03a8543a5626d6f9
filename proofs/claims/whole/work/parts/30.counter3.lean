theorem posR_P {σ σ' : mSt} {p q : Nat} {g : Nat → Int32} (hP : posR σ p g) (hR : ritR σ p g) (hf : frP σ σ' q) (h1 : p + 2 < q ∨ q + 2 < p) : posR σ' p g ∧ ritR σ' p g := by
  have e0 := hf p (by omega) (by omega) (by omega)
  have e1 := (hf (p + 1) (by omega) (by omega) (by omega)).1
  have e2 := (hf (p + 2) (by omega) (by omega) (by omega)).1
  unfold posR ritR
  rw [e0.1, e0.2, e1, e2]
  exact ⟨hP, hR⟩
theorem c_copyR {ae ad : Nat → Nat} {sh : mSh} {σ : mSt} {p q : Nat} {g : Nat → Int32} (hp : mPos ad sh p) (hq : mPos ad sh q) (hne : p + 2 < q ∨ q + 2 < p) (hP : posR σ q g) (hR : ritR σ q g) : Ct yX6_copyFrom cX6_copyFrom 2 none 1 0 0 [.ref (ad p), .ref (ad q)] ae ad sh σ (mPv ad sh (fun σ' => posR σ' p g ∧ ritR σ' p g ∧ frP σ σ' p)) :=
  (c_posCopy hp hq hne).mono (fun v a s σ' h => ⟨h.1, h.2.1, h.2.2.1, copyR hne hP hR h.2.2.2⟩)
theorem posR_X {σ σ' : mSt} {p q r : Nat} {g : Nat → Int32} (hP : posR σ p g) (hR : ritR σ p g) (hf : frX σ σ' q r) (h1 : p + 2 < q ∨ q + 2 < p) (h2 : sepP r p) : posR σ' p g ∧ ritR σ' p g := by
  unfold sepP at h2
  have e0 := hf p (by omega) (by omega) (by omega) (by omega) (by omega)
  have e1 := (hf (p + 1) (by omega) (by omega) (by omega) (by omega) (by omega)).1
  have e2 := (hf (p + 2) (by omega) (by omega) (by omega) (by omega) (by omega)).1
  unfold posR ritR
  rw [e0.1, e0.2, e1, e2]
  exact ⟨hP, hR⟩
theorem frX.S2 {σ σ' : mSt} {r p a b q : Nat} (h : frX σ σ' p q) (h1 : a ≤ q) (h2 : q + 1 ≤ b) (h3 : a ≤ p) (h4 : p + 2 ≤ b) : frS σ σ' r a b := fun k _ _ _ e => h k (by omega) (by omega) (by omega) (by omega) (by omega)

set_option maxRecDepth 100000 in
set_option maxHeartbeats 4000000 in
theorem c_movesCopied_16 {ae ad : Nat → Nat} {sh : mSh} {σ : mSt} {c y0 l p : Nat} {g : Nat → Int32} (hc : mCounter ad sh c y0 l) (hp : mPos ad sh p) (hs0 : sepP (c + 3) p) (hs1 : p + 2 < c + 8 ∨ c + 10 < p) (hlw : l + 9 < c + 1 ∨ c + 10 < l) (hG : wfP g) (hW : wfL g) (hP : posR σ p g) (hR : ritR σ p g) (hL : lawR σ l g) : ∀ (n i : Nat), (candG g).length - i = n → i ≤ (candG g).length → ∀ σ2 : mSt, frX σ σ2 (c + 8) (c + 3) → listR σ2 (c + 3) (candG g) → Ev RX0 cX0_movesCopied 4 false (some .int) (mRm 5 0 0) ae (mPi ad sh (fun r σ' => r = nI (legalG g).length ∧ frX σ σ' (c + 8) (c + 3))) 16 [some (.ref (ad c)), some (.ref (ad p)), some (.int (nI ((((candG g).take i).filter (okG g)).length))), some (.int (nI i))] [] 0 0 ad sh σ2 := by
  have htu := tu_le hG
  have h445 : (candG g).length ≤ 445 := by unfold candG; rw [List.length_append, List.length_append]; exact cand_len hG
  intro n
  induction n with
  | zero =>
    intro i hn hi σ2 hF hS
    have e : i = (candG g).length := by omega
    subst e
    refine ev_iload_3 dX0_movesCopied_16 ?_
    refine ev_aload_0 dX0_movesCopied_17 ?_
    refine gf_X0_16 dX0_movesCopied_18 hc.1 rfl ?_
    refine gf_X0_43 dX0_movesCopied_21 hc.2.2.2.1.1 rfl ?_
    rw [hS.1]
    refine ev_icmp_ge (tgt := 82) dX0_movesCopied_24 (by decide) (fun h24 => ?_) (fun h24 => absurd (Int32.le_refl _) h24)
    refine ev_iload_2 dX0_movesCopied_82 ?_
    exact ev_pi dX0_movesCopied_83 ⟨by rw [List.take_length]; rfl, hF⟩
  | succ n ih =>
    intro i hn hi σ2 hF hS
    have hlt : i < (candG g).length := by omega
    obtain ⟨hP2, hR2⟩ := posR_X hP hR hF hs1 hs0
    have hL2 := hL.X hF (by unfold sepL; omega) (by unfold sepW; omega)
    obtain ⟨m, hx⟩ : ∃ m, (candG g)[i]? = some m := ⟨_, List.getElem?_eq_getElem hlt⟩
    have hm : mvOk g m := cand_ok hG hW (List.mem_of_getElem? hx)
    refine ev_iload_3 dX0_movesCopied_16 ?_
    refine ev_aload_0 dX0_movesCopied_17 ?_
    refine gf_X0_16 dX0_movesCopied_18 hc.1 rfl ?_
    refine gf_X0_43 dX0_movesCopied_21 hc.2.2.2.1.1 rfl ?_
    rw [hS.1]
    refine ev_icmp_ge (tgt := 82) dX0_movesCopied_24 (by decide) (fun h24 => absurd h24 (nI_ge hlt (by omega))) (fun h24 => ?_)
    refine ev_aload_0 dX0_movesCopied_27 ?_
    refine gf_X0_26 dX0_movesCopied_28 hc.1 rfl ?_
    refine ev_aload_1 dX0_movesCopied_31 ?_
    refine cg_X0_66 (c_copyR hc.2.2.2.2.2 hp (by omega) hP2 hR2) hc.2.2.2.2.2.1 dX0_movesCopied_32 rfl (Nat.le_of_ble_eq_true rfl) (fun σ3 h3 => ?_)
    obtain ⟨hP3, hR3, f3⟩ := h3
    have hL3 := hL2.fr f3 (by unfold sepL; omega)
    have hS3 := hS.P f3 (by unfold sepP; omega)
    obtain ⟨hP3p, hR3p⟩ := posR_P hP2 hR2 f3 (by omega)
    refine ev_aload_0 dX0_movesCopied_35 ?_
    refine gf_X0_29 dX0_movesCopied_36 hc.1 rfl ?_
    refine ev_aload_0 dX0_movesCopied_39 ?_
    refine gf_X0_26 dX0_movesCopied_40 hc.1 rfl ?_
    refine ev_aload_0 dX0_movesCopied_43 ?_
    refine gf_X0_16 dX0_movesCopied_44 hc.1 rfl ?_
    refine ev_iload_3 dX0_movesCopied_47 ?_
    refine cl_X0_46 (c_moveAt hc.2.2.2.1 hS3.1 h445) hc.2.2.2.1.1 dX0_movesCopied_48 rfl (Nat.le_of_ble_eq_true rfl) ?_
    rw [cellD_nI (by omega) hlt, hS3.2.2 i m hx]
    refine cg_X0_50 (c_apply hc.2.1 hc.2.2.2.2.2 (by unfold sepL; omega) hG hW hP3 hR3 hL3 hm) hc.2.1.1 dX0_movesCopied_51 rfl (Nat.le_of_ble_eq_true rfl) (fun r4 σ4 h4 => ?_)
    obtain ⟨e4, q4, f4⟩ := h4
    subst e4
    have hA := ap_R hG hW hm q4
    have hL4 := hL3.fr f4 (by unfold sepL; omega)
    have hS4 := hS3.P f4 (by unfold sepP; omega)
    obtain ⟨hP4p, hR4p⟩ := posR_P hP3p hR3p f4 (by omega)
    refine ev_pop dX0_movesCopied_54 rfl ?_
    refine ev_aload_0 dX0_movesCopied_55 ?_
    refine gf_X0_29 dX0_movesCopied_56 hc.1 rfl ?_
    refine ev_aload_0 dX0_movesCopied_59 ?_
    refine gf_X0_26 dX0_movesCopied_60 hc.1 rfl ?_
    refine ev_aload_1 dX0_movesCopied_63 ?_
    refine gf_X0_39 dX0_movesCopied_64 hp.1 rfl ?_
    rw [hP4p.turn hG]
    refine cl_X0_54 (c_isSafe hc.2.1 hc.2.2.2.2.2 (pl_wfP hG hW hm) hA.1 (hL4.pl m) (pl_wfL hG hW hm) htu) hc.2.1.1 dX0_movesCopied_67 rfl (Nat.le_of_ble_eq_true rfl) ?_
    refine ev_if_eq (tgt := 76) dX0_movesCopied_70 (by decide) (fun h70 => ?_) (fun h70 => ?_)
    · have hok : okG g m = false := (b2i_0 _).mp h70
      refine ev_iinc_3 (v := 1) dX0_movesCopied_76 (by decide) rfl rfl ?_
      refine ev_goto (tgt := 16) dX0_movesCopied_79 (by decide) ?_
      exact Ev.to (by rw [nI_1, flt_succ hx, hok, if_neg (by decide), List.append_nil]) rfl rfl (ih (i + 1) (by omega) (by omega) σ4 ((hF.tr f3.X).tr f4.X) hS4)
    · have hok : okG g m = true := b2i_t h70
      refine ev_iinc_2 (v := 1) dX0_movesCopied_73 (by decide) rfl rfl ?_
      skip
      refine ev_iinc_3 (v := 1) dX0_movesCopied_76 (by decide) rfl rfl ?_
      refine ev_goto (tgt := 16) dX0_movesCopied_79 (by decide) ?_
      exact Ev.to (by rw [nI_1, nI_1, flt_succ hx, hok, if_pos rfl, List.length_append]; rfl) rfl rfl (ih (i + 1) (by omega) (by omega) σ4 ((hF.tr f3.X).tr f4.X) hS4)
set_option maxRecDepth 100000 in
set_option maxHeartbeats 4000000 in
theorem c_movesCopied {ae ad : Nat → Nat} {sh : mSh} {σ : mSt} {c y0 l p : Nat} {g : Nat → Int32} (hc : mCounter ad sh c y0 l) (hp : mPos ad sh p) (hs0 : sepP (c + 3) p) (hs1 : p + 2 < c + 8 ∨ c + 10 < p) (hlw : l + 9 < c + 1 ∨ c + 10 < l) (hG : wfP g) (hW : wfL g) (hP : posR σ p g) (hR : ritR σ p g) (hL : lawR σ l g) : Ct yX0_movesCopied cX0_movesCopied 4 (some .int) 5 0 0 [.ref (ad c), .ref (ad p)] ae ad sh σ (mPi ad sh (fun r σ' => r = nI (legalG g).length ∧ frX σ σ' (c + 8) (c + 3))) := by
  refine Ct.ofL (own := RX0) (ini := false) (ls := [some (.ref (ad c)), some (.ref (ad p)), none, none]) (by decide +kernel) rfl (fun h => by cases h) (Nat.le_of_ble_eq_true rfl) rfl ?_
  refine ev_aload_0 dX0_movesCopied_0 ?_
  refine gf_X0_29 dX0_movesCopied_1 hc.1 rfl ?_
  refine ev_aload_1 dX0_movesCopied_4 ?_
  refine ev_aload_0 dX0_movesCopied_5 ?_
  refine gf_X0_16 dX0_movesCopied_6 hc.1 rfl ?_
  refine cg_X0_33 (c_listCandidates hc.2.1 hp hc.2.2.2.1 hs0 (by unfold sepW; omega) hG hW hP hR hL) hc.2.1.1 dX0_movesCopied_9 rfl (Nat.le_of_ble_eq_true rfl) (fun σ1 h1 => ?_)
  obtain ⟨h1, f1⟩ := h1
  refine ev_iconst_0 dX0_movesCopied_12 ?_
  refine ev_istore_2 dX0_movesCopied_13 rfl rfl ?_
  refine ev_iconst_0 dX0_movesCopied_14 ?_
  refine ev_istore_3 dX0_movesCopied_15 rfl rfl ?_
  exact c_movesCopied_16 hc hp hs0 hs1 hlw hG hW hP hR hL _ 0 rfl (Nat.zero_le _) σ1 f1.X h1
set_option maxRecDepth 100000 in
set_option maxHeartbeats 4000000 in
theorem c_pairsCopied_16 {ae ad : Nat → Nat} {sh : mSh} {σ : mSt} {c y0 l p : Nat} {g : Nat → Int32} (hc : mCounter ad sh c y0 l) (hp : mPos ad sh p) (hs0 : sepP (c + 1) p) (hs1 : p + 2 < c + 8 ∨ c + 10 < p) (hs2 : p + 2 < c + 1 ∨ c + 10 < p) (hlw : l + 9 < c + 1 ∨ c + 10 < l) (hG : wfP g) (hW : wfL g) (hP : posR σ p g) (hR : ritR σ p g) (hL : lawR σ l g) : ∀ (n i : Nat), (candG g).length - i = n → i ≤ (candG g).length → ∀ σ2 : mSt, frS σ σ2 (c + 5) (c + 1) (c + 10) → listR σ2 (c + 1) (candG g) → Ev RX0 cX0_pairsCopied 4 false (some .int) (mRm 6 0 0) ae (mPi ad sh (fun r σ' => r = nI (pairG g) ∧ frS σ σ' (c + 5) (c + 1) (c + 10))) 16 [some (.ref (ad c)), some (.ref (ad p)), some (.int (nI (pairN g ((candG g).take i)))), some (.int (nI i))] [] 0 0 ad sh σ2 := by
  have htu := tu_le hG
  have h445 : (candG g).length ≤ 445 := by unfold candG; rw [List.length_append, List.length_append]; exact cand_len hG
  intro n
  induction n with
  | zero =>
    intro i hn hi σ2 hF hS
    have e : i = (candG g).length := by omega
    subst e
    refine ev_iload_3 dX0_pairsCopied_16 ?_
    refine ev_aload_0 dX0_pairsCopied_17 ?_
    refine gf_X0_10 dX0_pairsCopied_18 hc.1 rfl ?_
    refine gf_X0_43 dX0_pairsCopied_21 hc.2.2.1.1 rfl ?_
    rw [hS.1]
    refine ev_icmp_ge (tgt := 90) dX0_pairsCopied_24 (by decide) (fun h24 => ?_) (fun h24 => absurd (Int32.le_refl _) h24)
    refine ev_iload_2 dX0_pairsCopied_90 ?_
    exact ev_pi dX0_pairsCopied_91 ⟨by rw [List.take_length]; rfl, hF⟩
  | succ n ih =>
    intro i hn hi σ2 hF hS
    have hlt : i < (candG g).length := by omega
    obtain ⟨hP2, hR2⟩ := posR_S hP hR hF (by omega) (by omega)
    have hL2 := hL.S hF (by unfold sepL; omega) (by omega)
    obtain ⟨m, hx⟩ : ∃ m, (candG g)[i]? = some m := ⟨_, List.getElem?_eq_getElem hlt⟩
    have hm : mvOk g m := cand_ok hG hW (List.mem_of_getElem? hx)
    refine ev_iload_3 dX0_pairsCopied_16 ?_
    refine ev_aload_0 dX0_pairsCopied_17 ?_
    refine gf_X0_10 dX0_pairsCopied_18 hc.1 rfl ?_
    refine gf_X0_43 dX0_pairsCopied_21 hc.2.2.1.1 rfl ?_
    rw [hS.1]
    refine ev_icmp_ge (tgt := 90) dX0_pairsCopied_24 (by decide) (fun h24 => absurd h24 (nI_ge hlt (by omega))) (fun h24 => ?_)
    refine ev_aload_0 dX0_pairsCopied_27 ?_
    refine gf_X0_22 dX0_pairsCopied_28 hc.1 rfl ?_
    refine ev_aload_1 dX0_pairsCopied_31 ?_
    refine cg_X0_66 (c_copyR hc.2.2.2.2.1 hp (by omega) hP2 hR2) hc.2.2.2.2.1.1 dX0_pairsCopied_32 rfl (Nat.le_of_ble_eq_true rfl) (fun σ3 h3 => ?_)
    obtain ⟨hP3, hR3, f3⟩ := h3
    have hL3 := hL2.fr f3 (by unfold sepL; omega)
    have hS3 := hS.P f3 (by unfold sepP; omega)
    obtain ⟨hP3p, hR3p⟩ := posR_P hP2 hR2 f3 (by omega)
    refine ev_aload_0 dX0_pairsCopied_35 ?_
    refine gf_X0_29 dX0_pairsCopied_36 hc.1 rfl ?_
    refine ev_aload_0 dX0_pairsCopied_39 ?_
    refine gf_X0_22 dX0_pairsCopied_40 hc.1 rfl ?_
    refine ev_aload_0 dX0_pairsCopied_43 ?_
    refine gf_X0_10 dX0_pairsCopied_44 hc.1 rfl ?_
    refine ev_iload_3 dX0_pairsCopied_47 ?_
    refine cl_X0_46 (c_moveAt hc.2.2.1 hS3.1 h445) hc.2.2.1.1 dX0_pairsCopied_48 rfl (Nat.le_of_ble_eq_true rfl) ?_
    rw [cellD_nI (by omega) hlt, hS3.2.2 i m hx]
    refine cg_X0_50 (c_apply hc.2.1 hc.2.2.2.2.1 (by unfold sepL; omega) hG hW hP3 hR3 hL3 hm) hc.2.1.1 dX0_pairsCopied_51 rfl (Nat.le_of_ble_eq_true rfl) (fun r4 σ4 h4 => ?_)
    obtain ⟨e4, q4, f4⟩ := h4
    subst e4
    have hA := ap_R hG hW hm q4
    have hL4 := hL3.fr f4 (by unfold sepL; omega)
    have hS4 := hS3.P f4 (by unfold sepP; omega)
    obtain ⟨hP4p, hR4p⟩ := posR_P hP3p hR3p f4 (by omega)
    refine ev_pop dX0_pairsCopied_54 rfl ?_
    refine ev_aload_0 dX0_pairsCopied_55 ?_
    refine gf_X0_29 dX0_pairsCopied_56 hc.1 rfl ?_
    refine ev_aload_0 dX0_pairsCopied_59 ?_
    refine gf_X0_22 dX0_pairsCopied_60 hc.1 rfl ?_
    refine ev_aload_1 dX0_pairsCopied_63 ?_
    refine gf_X0_39 dX0_pairsCopied_64 hp.1 rfl ?_
    rw [hP4p.turn hG]
    refine cl_X0_54 (c_isSafe hc.2.1 hc.2.2.2.2.1 (pl_wfP hG hW hm) hA.1 (hL4.pl m) (pl_wfL hG hW hm) htu) hc.2.1.1 dX0_pairsCopied_67 rfl (Nat.le_of_ble_eq_true rfl) ?_
    refine ev_if_eq (tgt := 84) dX0_pairsCopied_70 (by decide) (fun h70 => ?_) (fun h70 => ?_)
    · have hok : okG g m = false := (b2i_0 _).mp h70
      refine ev_iinc_3 (v := 1) dX0_pairsCopied_84 (by decide) rfl rfl ?_
      refine ev_goto (tgt := 16) dX0_pairsCopied_87 (by decide) ?_
      exact Ev.to (by rw [nI_1, pair_succ hx, hok]; rfl) rfl rfl (ih (i + 1) (by omega) (by omega) σ4 ((hF.tr f3.S).tr f4.S) hS4)
    · have hok : okG g m = true := b2i_t h70
      refine ev_iload_2 dX0_pairsCopied_73 ?_
      refine ev_aload_0 dX0_pairsCopied_74 ?_
      refine ev_aload_0 dX0_pairsCopied_75 ?_
      refine gf_X0_22 dX0_pairsCopied_76 hc.1 rfl ?_
      refine cg_X0_70 (c_movesCopied hc hc.2.2.2.2.1 (by unfold sepP; omega) (by omega) hlw (pl_wfP hG hW hm) (pl_wfL hG hW hm) hA.1 hA.2 (hL4.pl m)) hc.1 dX0_pairsCopied_79 rfl (Nat.le_of_ble_eq_true rfl) (fun r5 σ5 h5 => ?_)
      obtain ⟨e5, f5⟩ := h5
      subst e5
      have hS5 := hS4.X f5 (by unfold sepP; omega) (by omega)
      refine ev_iadd dX0_pairsCopied_82 ?_
      refine ev_istore_2 dX0_pairsCopied_83 rfl rfl ?_
      skip
      refine ev_iinc_3 (v := 1) dX0_pairsCopied_84 (by decide) rfl rfl ?_
      refine ev_goto (tgt := 16) dX0_pairsCopied_87 (by decide) ?_
      exact Ev.to (by rw [nI_1, nI_add, pair_succ hx, hok, if_pos rfl]) rfl rfl (ih (i + 1) (by omega) (by omega) σ5 (((hF.tr f3.S).tr f4.S).tr (f5.S2 (by omega) (by omega) (by omega) (by omega))) hS5)
set_option maxRecDepth 100000 in
set_option maxHeartbeats 4000000 in
theorem c_pairsCopied {ae ad : Nat → Nat} {sh : mSh} {σ : mSt} {c y0 l p : Nat} {g : Nat → Int32} (hc : mCounter ad sh c y0 l) (hp : mPos ad sh p) (hs0 : sepP (c + 1) p) (hs1 : p + 2 < c + 8 ∨ c + 10 < p) (hs2 : p + 2 < c + 1 ∨ c + 10 < p) (hlw : l + 9 < c + 1 ∨ c + 10 < l) (hG : wfP g) (hW : wfL g) (hP : posR σ p g) (hR : ritR σ p g) (hL : lawR σ l g) : Ct yX0_pairsCopied cX0_pairsCopied 4 (some .int) 6 0 0 [.ref (ad c), .ref (ad p)] ae ad sh σ (mPi ad sh (fun r σ' => r = nI (pairG g) ∧ frS σ σ' (c + 5) (c + 1) (c + 10))) := by
  refine Ct.ofL (own := RX0) (ini := false) (ls := [some (.ref (ad c)), some (.ref (ad p)), none, none]) (by decide +kernel) rfl (fun h => by cases h) (Nat.le_of_ble_eq_true rfl) rfl ?_
  refine ev_aload_0 dX0_pairsCopied_0 ?_
  refine gf_X0_29 dX0_pairsCopied_1 hc.1 rfl ?_
  refine ev_aload_1 dX0_pairsCopied_4 ?_
  refine ev_aload_0 dX0_pairsCopied_5 ?_
  refine gf_X0_10 dX0_pairsCopied_6 hc.1 rfl ?_
  refine cg_X0_33 (c_listCandidates hc.2.1 hp hc.2.2.1 hs0 (by unfold sepW; omega) hG hW hP hR hL) hc.2.1.1 dX0_pairsCopied_9 rfl (Nat.le_of_ble_eq_true rfl) (fun σ1 h1 => ?_)
  obtain ⟨h1, f1⟩ := h1
  refine ev_iconst_0 dX0_pairsCopied_12 ?_
  refine ev_istore_2 dX0_pairsCopied_13 rfl rfl ?_
  refine ev_iconst_0 dX0_pairsCopied_14 ?_
  refine ev_istore_3 dX0_pairsCopied_15 rfl rfl ?_
  exact c_pairsCopied_16 hc hp hs0 hs1 hs2 hlw hG hW hP hR hL _ 0 rfl (Nat.zero_le _) σ1 (f1.S (by omega) (by omega)) h1
