def mCounter (ad : Nat → Nat) (sh : mSh) (c y l : Nat) : Prop := sh[c]? = some (.inr (0, [.ref (ad y), .ref (ad (c + 1)), .ref (ad (c + 3)), .ref (ad (c + 5)), .ref (ad (c + 8))])) ∧ mPlay ad sh y l ∧ mList ad sh (c + 1) ∧ mList ad sh (c + 3) ∧ mPos ad sh (c + 5) ∧ mPos ad sh (c + 8)
theorem posQ.congB {σ : mSt} {p : Nat} {M Hd M' Hd' : Nat → Nat} {C R T RI : Int32} (h : posQ σ p M Hd C R T RI) (e1 : ∀ q, q < 36 → M q = M' q) (e2 : ∀ i, i < 12 → Hd i = Hd' i) : posQ σ p M' Hd' C R T RI := by
  obtain ⟨a1, a2, a3, a4, a5, a6, a7, a8⟩ := h
  refine ⟨fun q hq => e1 q hq ▸ a1 q hq, fun i hi => e2 i hi ▸ a2 i hi, a3, a4, a5, a6, fun q hq => (a7 q hq).trans ?_, fun q hq => (a8 q hq).trans ?_⟩
  · rw [decide_eq_decide]
    exact ⟨fun ⟨x, y⟩ => ⟨x, e1 q x ▸ y⟩, fun ⟨x, y⟩ => ⟨x, (e1 q x).symm ▸ y⟩⟩
  · rw [decide_eq_decide]
    exact ⟨fun ⟨x, y⟩ => ⟨x, e1 q x ▸ y⟩, fun ⟨x, y⟩ => ⟨x, (e1 q x).symm ▸ y⟩⟩
theorem pl_Q {σ : mSt} {p : Nat} {g : Nat → Int32} (hG : wfP g) (hW : wfL g) {m : Nat} (hm : mvOk g m) (hP : posR σ p (playsG g m)) (hR : ritR σ p (playsG g m)) : posQ σ p (sqP g m) (hdP g m) (g 53) (g 54) (nI (1 - tuN g)) (nI (rmN (playsG g m))) := by
  have h := (posR.Q (pl_wfP hG hW hm) hP hR).congB (fun q hq => pl_mN hG hW hm hq) (fun i hi => pl_hN hG hi)
  rw [pl_hi (by decide), pl_hi (by decide), pl_0] at h
  exact h
theorem listR.X {σ σ' : mSt} {p q r : Nat} {L : List Nat} (h : listR σ q L) (hf : frX σ σ' p r) (hs : sepP q p) (hd : q + 1 < r ∨ r + 1 < q) : listR σ' q L := by
  unfold sepP at hs
  have e0 := (hf q (by omega) (by omega) (by omega) (by omega) (by omega)).1
  have e1 := (hf (q + 1) (by omega) (by omega) (by omega) (by omega) (by omega)).1
  unfold listR
  rw [e0, e1]
  exact h
theorem listR.P {σ σ' : mSt} {p q : Nat} {L : List Nat} (h : listR σ q L) (hf : frP σ σ' p) (hs : sepP q p) : listR σ' q L := by
  unfold sepP at hs
  have e0 := (hf q (by omega) (by omega) (by omega)).1
  have e1 := (hf (q + 1) (by omega) (by omega) (by omega)).1
  unfold listR
  rw [e0, e1]
  exact h
/-- outside p's rows and the rows a..b nothing changes -/
def frS (σ σ' : mSt) (p a b : Nat) : Prop := ∀ k, k ≠ p → k ≠ p + 1 → k ≠ p + 2 → (k < a ∨ b < k) → σ'.1 k = σ.1 k ∧ σ'.2 k = σ.2 k
theorem frS.rf {σ : mSt} {p a b : Nat} : frS σ σ p a b := fun _ _ _ _ _ => ⟨rfl, rfl⟩
theorem frS.tr {σ σ1 σ2 : mSt} {p a b : Nat} (h1 : frS σ σ1 p a b) (h2 : frS σ1 σ2 p a b) : frS σ σ2 p a b := fun k x y z e => ⟨(h2 k x y z e).1.trans (h1 k x y z e).1, (h2 k x y z e).2.trans (h1 k x y z e).2⟩
theorem frP.S {σ σ' : mSt} {p a b : Nat} (h : frP σ σ' p) : frS σ σ' p a b := fun k x y z _ => h k x y z
theorem frP.Sin {σ σ' : mSt} {p a b q : Nat} (h : frP σ σ' q) (h1 : a ≤ q) (h2 : q + 2 ≤ b) : frS σ σ' p a b := fun k _ _ _ e => h k (by omega) (by omega) (by omega)
theorem frL.S {σ σ' : mSt} {p a b q : Nat} (h : frL σ σ' q) (h1 : a ≤ q) (h2 : q + 1 ≤ b) : frS σ σ' p a b := fun k _ _ _ e => ⟨h.1 k (by omega) (by omega), h.2 k (by omega) (by omega)⟩
theorem frX.S {σ σ' : mSt} {p a b q : Nat} (h : frX σ σ' p q) (h1 : a ≤ q) (h2 : q + 1 ≤ b) : frS σ σ' p a b := fun k x y z e => h k x y z (by omega) (by omega)
theorem lawR.S {σ σ' : mSt} {l p a b : Nat} {g : Nat → Int32} (hL : lawR σ l g) (hf : frS σ σ' p a b) (hs : sepL l p) (hw : l + 9 < a ∨ b < l) : lawR σ' l g := by
  unfold sepL at hs
  have e : ∀ i, i ≤ 9 → σ'.1 (l + i) = σ.1 (l + i) := fun i hi => (hf (l + i) (by omega) (by omega) (by omega) (by omega)).1
  have e0 := e 0 (by decide)
  rw [Nat.add_zero] at e0
  unfold lawR
  rw [e 1 (by decide), e 2 (by decide), e 3 (by decide), e 4 (by decide), e 5 (by decide), e 6 (by decide), e 7 (by decide), e 8 (by decide), e 9 (by decide), e0]
  exact hL
/-- sequences of two moves that begin with one of L -/
def pairN (g : Nat → Int32) (L : List Nat) : Nat := ((L.filter (okG g)).map (fun m => (legalG (playsG g m)).length)).sum
def pairG (g : Nat → Int32) : Nat := pairN g (candG g)
theorem pair_succ {g : Nat → Int32} {L : List Nat} {i m : Nat} (h : L[i]? = some m) : pairN g (L.take (i + 1)) = pairN g (L.take i) + (if okG g m then (legalG (playsG g m)).length else 0) := by
  unfold pairN
  rw [flt_succ h, List.map_append, List.sum_append]
  cases hc : okG g m <;> simp
theorem legal_len {g : Nat → Int32} (hG : wfP g) : (legalG g).length ≤ 445 := by
  have h := cand_len hG
  have h2 := List.length_filter_le (okG g) (candG g)
  have h3 : (candG g).length ≤ 445 := by unfold candG; rw [List.length_append, List.length_append]; exact h
  unfold legalG
  omega

set_option maxRecDepth 100000 in
set_option maxHeartbeats 4000000 in
theorem c_movesMade_22 {ae ad : Nat → Nat} {sh : mSh} {σ : mSt} {c y0 l p : Nat} {g : Nat → Int32} (hc : mCounter ad sh c y0 l) (hp : mPos ad sh p) (hsP : sepP (c + 3) p) (hsW : sepW (c + 3) l) (hsL : sepL l p) (hG : wfP g) (hW : wfL g) (hP : posR σ p g) (hR : ritR σ p g) (hL : lawR σ l g) : ∀ (n i : Nat), (candG g).length - i = n → i ≤ (candG g).length → ∀ σ2 : mSt, frX σ σ2 p (c + 3) → posR σ2 p g → ritR σ2 p g → listR σ2 (c + 3) (candG g) → Ev RX0 cX0_movesMade 6 false (some .int) (mRm 5 0 0) ae (mPi ad sh (fun r σ' => r = nI (legalG g).length ∧ (posR σ' p g ∧ ritR σ' p g) ∧ frX σ σ' p (c + 3))) 22 [some (.ref (ad c)), some (.ref (ad p)), some (.int (nI (tuN g))), some (.int (nI (((((candG g).take i).filter (okG g)).length)))), some (.int (nI i)), none] [] 0 0 ad sh σ2 := by
  have htu := tu_le hG
  have h445 : (candG g).length ≤ 445 := by unfold candG; rw [List.length_append, List.length_append]; exact cand_len hG
  intro n
  induction n with
  | zero =>
    intro i hn hi σ2 hF hP2 hR2 hS
    have e : i = (candG g).length := by omega
    subst e
    refine ev_iload_4 dX0_movesMade_22 ?_
    refine ev_aload_0 dX0_movesMade_24 ?_
    refine gf_X0_16 dX0_movesMade_25 hc.1 rfl ?_
    refine gf_X0_43 dX0_movesMade_28 hc.2.2.2.1.1 rfl ?_
    rw [hS.1]
    refine ev_icmp_ge (tgt := 93) dX0_movesMade_31 (by decide) (fun h31 => ?_) (fun h31 => absurd (Int32.le_refl _) h31)
    refine ev_iload_3 dX0_movesMade_93 ?_
    exact ev_pi dX0_movesMade_94 ⟨by rw [List.take_length]; rfl, ⟨hP2, hR2⟩, hF⟩
  | succ n ih =>
    intro i hn hi σ2 hF hP2 hR2 hS
    have hlt : i < (candG g).length := by omega
    have hL2 := hL.X hF hsL hsW
    obtain ⟨m, hx⟩ : ∃ m, (candG g)[i]? = some m := ⟨_, List.getElem?_eq_getElem hlt⟩
    have hm : mvOk g m := cand_ok hG hW (List.mem_of_getElem? hx)
    refine ev_iload_4 dX0_movesMade_22 ?_
    refine ev_aload_0 dX0_movesMade_24 ?_
    refine gf_X0_16 dX0_movesMade_25 hc.1 rfl ?_
    refine gf_X0_43 dX0_movesMade_28 hc.2.2.2.1.1 rfl ?_
    rw [hS.1]
    refine ev_icmp_ge (tgt := 93) dX0_movesMade_31 (by decide) (fun h31 => absurd h31 (nI_ge hlt (by omega))) (fun h31 => ?_)
    refine ev_aload_0 dX0_movesMade_34 ?_
    refine gf_X0_29 dX0_movesMade_35 hc.1 rfl ?_
    refine ev_aload_1 dX0_movesMade_38 ?_
    refine ev_aload_0 dX0_movesMade_39 ?_
    refine gf_X0_16 dX0_movesMade_40 hc.1 rfl ?_
    refine ev_iload_4 dX0_movesMade_43 ?_
    refine cl_X0_46 (c_moveAt hc.2.2.2.1 hS.1 h445) hc.2.2.2.1.1 dX0_movesMade_45 rfl (Nat.le_of_ble_eq_true rfl) ?_
    rw [cellD_nI (by omega) hlt, hS.2.2 i m hx]
    refine cg_X0_50 (c_apply hc.2.1 hp hsL hG hW hP2 hR2 hL2 hm) hc.2.1.1 dX0_movesMade_48 rfl (Nat.le_of_ble_eq_true rfl) (fun r3 σ3 h3 => ?_)
    obtain ⟨e3, q3, f3⟩ := h3
    subst e3
    have hA := ap_R hG hW hm q3
    have hL3 := hL2.fr f3 hsL
    have hS3 := hS.P f3 hsP
    refine ev_istore_5 dX0_movesMade_51 rfl rfl ?_
    refine ev_aload_0 dX0_movesMade_53 ?_
    refine gf_X0_29 dX0_movesMade_54 hc.1 rfl ?_
    refine ev_aload_1 dX0_movesMade_57 ?_
    refine ev_iload_2 dX0_movesMade_58 ?_
    refine cl_X0_54 (c_isSafe hc.2.1 hp (pl_wfP hG hW hm) hA.1 (hL3.pl m) (pl_wfL hG hW hm) htu) hc.2.1.1 dX0_movesMade_59 rfl (Nat.le_of_ble_eq_true rfl) ?_
    refine ev_if_eq (tgt := 68) dX0_movesMade_62 (by decide) (fun h62 => ?_) (fun h62 => ?_)
    · have hok : okG g m = false := (b2i_0 _).mp h62
      refine ev_aload_0 dX0_movesMade_68 ?_
      refine gf_X0_29 dX0_movesMade_69 hc.1 rfl ?_
      refine ev_aload_1 dX0_movesMade_72 ?_
      refine ev_aload_0 dX0_movesMade_73 ?_
      refine gf_X0_16 dX0_movesMade_74 hc.1 rfl ?_
      refine ev_iload_4 dX0_movesMade_77 ?_
      refine cl_X0_46 (c_moveAt hc.2.2.2.1 hS3.1 h445) hc.2.2.2.1.1 dX0_movesMade_79 rfl (Nat.le_of_ble_eq_true rfl) ?_
      rw [cellD_nI (by omega) hlt, hS3.2.2 i m hx]
      refine ev_iload_5 dX0_movesMade_82 ?_
      refine cg_X0_58 (c_retract hc.2.1 hp hsL hG hW hm q3 hL3) hc.2.1.1 dX0_movesMade_84 rfl (Nat.le_of_ble_eq_true rfl) (fun σ5 h5 => ?_)
      obtain ⟨h5, f5⟩ := h5
      refine ev_iinc_4 (v := 1) dX0_movesMade_87 (by decide) rfl rfl ?_
      refine ev_goto (tgt := 22) dX0_movesMade_90 (by decide) ?_
      refine ev_drop_5 ?_
      exact Ev.to (by rw [nI_1, flt_succ hx, hok, if_neg (by decide), List.append_nil]) rfl rfl (ih (i + 1) (by omega) (by omega) σ5 ((hF.tr f3.X).tr f5.X) h5.1 h5.2 (hS3.P f5 hsP))
    · have hok : okG g m = true := b2i_t h62
      refine ev_iinc_3 (v := 1) dX0_movesMade_65 (by decide) rfl rfl ?_
      skip
      refine ev_aload_0 dX0_movesMade_68 ?_
      refine gf_X0_29 dX0_movesMade_69 hc.1 rfl ?_
      refine ev_aload_1 dX0_movesMade_72 ?_
      refine ev_aload_0 dX0_movesMade_73 ?_
      refine gf_X0_16 dX0_movesMade_74 hc.1 rfl ?_
      refine ev_iload_4 dX0_movesMade_77 ?_
      refine cl_X0_46 (c_moveAt hc.2.2.2.1 hS3.1 h445) hc.2.2.2.1.1 dX0_movesMade_79 rfl (Nat.le_of_ble_eq_true rfl) ?_
      rw [cellD_nI (by omega) hlt, hS3.2.2 i m hx]
      refine ev_iload_5 dX0_movesMade_82 ?_
      refine cg_X0_58 (c_retract hc.2.1 hp hsL hG hW hm q3 hL3) hc.2.1.1 dX0_movesMade_84 rfl (Nat.le_of_ble_eq_true rfl) (fun σ5 h5 => ?_)
      obtain ⟨h5, f5⟩ := h5
      refine ev_iinc_4 (v := 1) dX0_movesMade_87 (by decide) rfl rfl ?_
      refine ev_goto (tgt := 22) dX0_movesMade_90 (by decide) ?_
      refine ev_drop_5 ?_
      exact Ev.to (by rw [nI_1, nI_1, flt_succ hx, hok, if_pos rfl, List.length_append]; rfl) rfl rfl (ih (i + 1) (by omega) (by omega) σ5 ((hF.tr f3.X).tr f5.X) h5.1 h5.2 (hS3.P f5 hsP))
set_option maxRecDepth 100000 in
set_option maxHeartbeats 4000000 in
theorem c_movesMade {ae ad : Nat → Nat} {sh : mSh} {σ : mSt} {c y0 l p : Nat} {g : Nat → Int32} (hc : mCounter ad sh c y0 l) (hp : mPos ad sh p) (hsP : sepP (c + 3) p) (hsW : sepW (c + 3) l) (hsL : sepL l p) (hG : wfP g) (hW : wfL g) (hP : posR σ p g) (hR : ritR σ p g) (hL : lawR σ l g) : Ct yX0_movesMade cX0_movesMade 6 (some .int) 5 0 0 [.ref (ad c), .ref (ad p)] ae ad sh σ (mPi ad sh (fun r σ' => r = nI (legalG g).length ∧ (posR σ' p g ∧ ritR σ' p g) ∧ frX σ σ' p (c + 3))) := by
  refine Ct.ofL (own := RX0) (ini := false) (ls := [some (.ref (ad c)), some (.ref (ad p)), none, none, none, none]) (by decide +kernel) rfl (fun h => by cases h) (Nat.le_of_ble_eq_true rfl) rfl ?_
  refine ev_aload_0 dX0_movesMade_0 ?_
  refine gf_X0_29 dX0_movesMade_1 hc.1 rfl ?_
  refine ev_aload_1 dX0_movesMade_4 ?_
  refine ev_aload_0 dX0_movesMade_5 ?_
  refine gf_X0_16 dX0_movesMade_6 hc.1 rfl ?_
  refine cg_X0_33 (c_listCandidates hc.2.1 hp hc.2.2.2.1 hsP hsW hG hW hP hR hL) hc.2.1.1 dX0_movesMade_9 rfl (Nat.le_of_ble_eq_true rfl) (fun σ1 h1 => ?_)
  obtain ⟨h1, f1⟩ := h1
  have hP1 := hP.frL f1 hsP
  have hR1 := hR.frL f1 hsP
  refine ev_aload_1 dX0_movesMade_12 ?_
  refine gf_X0_39 dX0_movesMade_13 hp.1 rfl ?_
  rw [hP1.turn hG]
  refine ev_istore_2 dX0_movesMade_16 rfl rfl ?_
  refine ev_iconst_0 dX0_movesMade_17 ?_
  refine ev_istore_3 dX0_movesMade_18 rfl rfl ?_
  refine ev_iconst_0 dX0_movesMade_19 ?_
  refine ev_istore_4 dX0_movesMade_20 rfl rfl ?_
  exact c_movesMade_22 hc hp hsP hsW hsL hG hW hP hR hL _ 0 rfl (Nat.zero_le _) σ1 f1.X hP1 hR1 h1
