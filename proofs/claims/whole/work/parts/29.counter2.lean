set_option maxRecDepth 100000 in
set_option maxHeartbeats 4000000 in
theorem c_pairsMade_22 {ae ad : Nat → Nat} {sh : mSh} {σ : mSt} {c y0 l p : Nat} {g : Nat → Int32} (hc : mCounter ad sh c y0 l) (hp : mPos ad sh p) (hs1 : sepP (c + 1) p) (hsP : sepP (c + 3) p) (hw1 : sepW (c + 1) l) (hsW : sepW (c + 3) l) (hsL : sepL l p) (hlw : l + 9 < c + 1 ∨ c + 4 < l) (hG : wfP g) (hW : wfL g) (hP : posR σ p g) (hR : ritR σ p g) (hL : lawR σ l g) : ∀ (n i : Nat), (candG g).length - i = n → i ≤ (candG g).length → ∀ σ2 : mSt, frS σ σ2 p (c + 1) (c + 4) → posR σ2 p g → ritR σ2 p g → listR σ2 (c + 1) (candG g) → Ev RX0 cX0_pairsMade 6 false (some .int) (mRm 6 0 0) ae (mPi ad sh (fun r σ' => r = nI (pairG g) ∧ (posR σ' p g ∧ ritR σ' p g) ∧ frS σ σ' p (c + 1) (c + 4))) 22 [some (.ref (ad c)), some (.ref (ad p)), some (.int (nI (tuN g))), some (.int (nI (pairN g ((candG g).take i)))), some (.int (nI i)), none] [] 0 0 ad sh σ2 := by
  have htu := tu_le hG
  have h445 : (candG g).length ≤ 445 := by unfold candG; rw [List.length_append, List.length_append]; exact cand_len hG
  intro n
  induction n with
  | zero =>
    intro i hn hi σ2 hF hP2 hR2 hS
    have e : i = (candG g).length := by omega
    subst e
    refine ev_iload_4 dX0_pairsMade_22 ?_
    refine ev_aload_0 dX0_pairsMade_24 ?_
    refine gf_X0_10 dX0_pairsMade_25 hc.1 rfl ?_
    refine gf_X0_43 dX0_pairsMade_28 hc.2.2.1.1 rfl ?_
    rw [hS.1]
    refine ev_icmp_ge (tgt := 98) dX0_pairsMade_31 (by decide) (fun h31 => ?_) (fun h31 => absurd (Int32.le_refl _) h31)
    refine ev_iload_3 dX0_pairsMade_98 ?_
    exact ev_pi dX0_pairsMade_99 ⟨by rw [List.take_length]; rfl, ⟨hP2, hR2⟩, hF⟩
  | succ n ih =>
    intro i hn hi σ2 hF hP2 hR2 hS
    have hlt : i < (candG g).length := by omega
    have hL2 := hL.S hF hsL hlw
    obtain ⟨m, hx⟩ : ∃ m, (candG g)[i]? = some m := ⟨_, List.getElem?_eq_getElem hlt⟩
    have hm : mvOk g m := cand_ok hG hW (List.mem_of_getElem? hx)
    refine ev_iload_4 dX0_pairsMade_22 ?_
    refine ev_aload_0 dX0_pairsMade_24 ?_
    refine gf_X0_10 dX0_pairsMade_25 hc.1 rfl ?_
    refine gf_X0_43 dX0_pairsMade_28 hc.2.2.1.1 rfl ?_
    rw [hS.1]
    refine ev_icmp_ge (tgt := 98) dX0_pairsMade_31 (by decide) (fun h31 => absurd h31 (nI_ge hlt (by omega))) (fun h31 => ?_)
    refine ev_aload_0 dX0_pairsMade_34 ?_
    refine gf_X0_29 dX0_pairsMade_35 hc.1 rfl ?_
    refine ev_aload_1 dX0_pairsMade_38 ?_
    refine ev_aload_0 dX0_pairsMade_39 ?_
    refine gf_X0_10 dX0_pairsMade_40 hc.1 rfl ?_
    refine ev_iload_4 dX0_pairsMade_43 ?_
    refine cl_X0_46 (c_moveAt hc.2.2.1 hS.1 h445) hc.2.2.1.1 dX0_pairsMade_45 rfl (Nat.le_of_ble_eq_true rfl) ?_
    rw [cellD_nI (by omega) hlt, hS.2.2 i m hx]
    refine cg_X0_50 (c_apply hc.2.1 hp hsL hG hW hP2 hR2 hL2 hm) hc.2.1.1 dX0_pairsMade_48 rfl (Nat.le_of_ble_eq_true rfl) (fun r3 σ3 h3 => ?_)
    obtain ⟨e3, q3, f3⟩ := h3
    subst e3
    have hA := ap_R hG hW hm q3
    have hL3 := hL2.fr f3 hsL
    have hS3 := hS.P f3 hs1
    refine ev_istore_5 dX0_pairsMade_51 rfl rfl ?_
    refine ev_aload_0 dX0_pairsMade_53 ?_
    refine gf_X0_29 dX0_pairsMade_54 hc.1 rfl ?_
    refine ev_aload_1 dX0_pairsMade_57 ?_
    refine ev_iload_2 dX0_pairsMade_58 ?_
    refine cl_X0_54 (c_isSafe hc.2.1 hp (pl_wfP hG hW hm) hA.1 (hL3.pl m) (pl_wfL hG hW hm) htu) hc.2.1.1 dX0_pairsMade_59 rfl (Nat.le_of_ble_eq_true rfl) ?_
    refine ev_if_eq (tgt := 73) dX0_pairsMade_62 (by decide) (fun h62 => ?_) (fun h62 => ?_)
    · have hok : okG g m = false := (b2i_0 _).mp h62
      refine ev_aload_0 dX0_pairsMade_73 ?_
      refine gf_X0_29 dX0_pairsMade_74 hc.1 rfl ?_
      refine ev_aload_1 dX0_pairsMade_77 ?_
      refine ev_aload_0 dX0_pairsMade_78 ?_
      refine gf_X0_10 dX0_pairsMade_79 hc.1 rfl ?_
      refine ev_iload_4 dX0_pairsMade_82 ?_
      refine cl_X0_46 (c_moveAt hc.2.2.1 hS3.1 h445) hc.2.2.1.1 dX0_pairsMade_84 rfl (Nat.le_of_ble_eq_true rfl) ?_
      rw [cellD_nI (by omega) hlt, hS3.2.2 i m hx]
      refine ev_iload_5 dX0_pairsMade_87 ?_
      refine cg_X0_58 (c_retract hc.2.1 hp hsL hG hW hm q3 hL3) hc.2.1.1 dX0_pairsMade_89 rfl (Nat.le_of_ble_eq_true rfl) (fun σ5 h5 => ?_)
      obtain ⟨h5, f5⟩ := h5
      refine ev_iinc_4 (v := 1) dX0_pairsMade_92 (by decide) rfl rfl ?_
      refine ev_goto (tgt := 22) dX0_pairsMade_95 (by decide) ?_
      refine ev_drop_5 ?_
      exact Ev.to (by rw [nI_1, pair_succ hx, hok]; rfl) rfl rfl (ih (i + 1) (by omega) (by omega) σ5 ((hF.tr f3.S).tr f5.S) h5.1 h5.2 (hS3.P f5 hs1))
    · have hok : okG g m = true := b2i_t h62
      refine ev_iload_3 dX0_pairsMade_65 ?_
      refine ev_aload_0 dX0_pairsMade_66 ?_
      refine ev_aload_1 dX0_pairsMade_67 ?_
      refine cg_X0_62 (c_movesMade hc hp hsP hsW hsL (pl_wfP hG hW hm) (pl_wfL hG hW hm) hA.1 hA.2 (hL3.pl m)) hc.1 dX0_pairsMade_68 rfl (Nat.le_of_ble_eq_true rfl) (fun r4 σ4 h4 => ?_)
      obtain ⟨e4, h4, f4⟩ := h4
      subst e4
      have hS4 := hS3.X f4 hs1 (by omega)
      have hL4 := (hL3.X f4 hsL hsW)
      refine ev_iadd dX0_pairsMade_71 ?_
      refine ev_istore_3 dX0_pairsMade_72 rfl rfl ?_
      skip
      refine ev_aload_0 dX0_pairsMade_73 ?_
      refine gf_X0_29 dX0_pairsMade_74 hc.1 rfl ?_
      refine ev_aload_1 dX0_pairsMade_77 ?_
      refine ev_aload_0 dX0_pairsMade_78 ?_
      refine gf_X0_10 dX0_pairsMade_79 hc.1 rfl ?_
      refine ev_iload_4 dX0_pairsMade_82 ?_
      refine cl_X0_46 (c_moveAt hc.2.2.1 hS4.1 h445) hc.2.2.1.1 dX0_pairsMade_84 rfl (Nat.le_of_ble_eq_true rfl) ?_
      rw [cellD_nI (by omega) hlt, hS4.2.2 i m hx]
      refine ev_iload_5 dX0_pairsMade_87 ?_
      refine cg_X0_58 (c_retract hc.2.1 hp hsL hG hW hm (pl_Q hG hW hm h4.1 h4.2) hL4) hc.2.1.1 dX0_pairsMade_89 rfl (Nat.le_of_ble_eq_true rfl) (fun σ5 h5 => ?_)
      obtain ⟨h5, f5⟩ := h5
      refine ev_iinc_4 (v := 1) dX0_pairsMade_92 (by decide) rfl rfl ?_
      refine ev_goto (tgt := 22) dX0_pairsMade_95 (by decide) ?_
      refine ev_drop_5 ?_
      exact Ev.to (by rw [nI_1, nI_add, pair_succ hx, hok, if_pos rfl]) rfl rfl (ih (i + 1) (by omega) (by omega) σ5 (((hF.tr f3.S).tr (f4.S (by omega) (by omega))).tr f5.S) h5.1 h5.2 (hS4.P f5 hs1))
set_option maxRecDepth 100000 in
set_option maxHeartbeats 4000000 in
theorem c_pairsMade {ae ad : Nat → Nat} {sh : mSh} {σ : mSt} {c y0 l p : Nat} {g : Nat → Int32} (hc : mCounter ad sh c y0 l) (hp : mPos ad sh p) (hs1 : sepP (c + 1) p) (hsP : sepP (c + 3) p) (hw1 : sepW (c + 1) l) (hsW : sepW (c + 3) l) (hsL : sepL l p) (hlw : l + 9 < c + 1 ∨ c + 4 < l) (hG : wfP g) (hW : wfL g) (hP : posR σ p g) (hR : ritR σ p g) (hL : lawR σ l g) : Ct yX0_pairsMade cX0_pairsMade 6 (some .int) 6 0 0 [.ref (ad c), .ref (ad p)] ae ad sh σ (mPi ad sh (fun r σ' => r = nI (pairG g) ∧ (posR σ' p g ∧ ritR σ' p g) ∧ frS σ σ' p (c + 1) (c + 4))) := by
  refine Ct.ofL (own := RX0) (ini := false) (ls := [some (.ref (ad c)), some (.ref (ad p)), none, none, none, none]) (by decide +kernel) rfl (fun h => by cases h) (Nat.le_of_ble_eq_true rfl) rfl ?_
  refine ev_aload_0 dX0_pairsMade_0 ?_
  refine gf_X0_29 dX0_pairsMade_1 hc.1 rfl ?_
  refine ev_aload_1 dX0_pairsMade_4 ?_
  refine ev_aload_0 dX0_pairsMade_5 ?_
  refine gf_X0_10 dX0_pairsMade_6 hc.1 rfl ?_
  refine cg_X0_33 (c_listCandidates hc.2.1 hp hc.2.2.1 hs1 hw1 hG hW hP hR hL) hc.2.1.1 dX0_pairsMade_9 rfl (Nat.le_of_ble_eq_true rfl) (fun σ1 h1 => ?_)
  obtain ⟨h1, f1⟩ := h1
  have hP1 := hP.frL f1 hs1
  have hR1 := hR.frL f1 hs1
  refine ev_aload_1 dX0_pairsMade_12 ?_
  refine gf_X0_39 dX0_pairsMade_13 hp.1 rfl ?_
  rw [hP1.turn hG]
  refine ev_istore_2 dX0_pairsMade_16 rfl rfl ?_
  refine ev_iconst_0 dX0_pairsMade_17 ?_
  refine ev_istore_3 dX0_pairsMade_18 rfl rfl ?_
  refine ev_iconst_0 dX0_pairsMade_19 ?_
  refine ev_istore_4 dX0_pairsMade_20 rfl rfl ?_
  exact c_pairsMade_22 hc hp hs1 hsP hw1 hsW hsL hlw hG hW hP hR hL _ 0 rfl (Nat.zero_le _) σ1 (f1.S (by omega) (by omega)) hP1 hR1 h1
theorem copyR {σ : mSt} {p q : Nat} {g : Nat → Int32} (hne : p + 2 < q ∨ q + 2 < p) (hP : posR σ q g) (hR : ritR σ q g) {σ' : mSt} (e : σ' = (mu (mu (mu (mu (mr (mr σ.1 (p + 1) (fa_fill (σ.1 (q + 1)) (σ.1 (p + 1)) 36)) (p + 2) (fa_fill (σ.1 (q + 2)) (σ.1 (p + 2)) 12)) p 2 (σ.1 q 2)) p 3 (σ.1 q 3)) p 4 (σ.1 q 4)) p 5 (σ.1 q 5), mul (mul σ.2 p 6 (σ.2 q 6)) p 7 (σ.2 q 7))) : posR σ' p g ∧ ritR σ' p g ∧ frP σ σ' p := by
  subst e
  obtain ⟨a1, a2, a3, a4, a5, _, a7, a8⟩ := hP
  have e1 : (mu (mu (mu (mu (mr (mr σ.1 (p + 1) (fa_fill (σ.1 (q + 1)) (σ.1 (p + 1)) 36)) (p + 2) (fa_fill (σ.1 (q + 2)) (σ.1 (p + 2)) 12)) p 2 (σ.1 q 2)) p 3 (σ.1 q 3)) p 4 (σ.1 q 4)) p 5 (σ.1 q 5)) (p + 1) = fa_fill (σ.1 (q + 1)) (σ.1 (p + 1)) 36 := by
    rw [mu_ne _ (by omega), mu_ne _ (by omega), mu_ne _ (by omega), mu_ne _ (by omega), mr_ne _ _ (by omega), mr_at]
  have e2 : (mu (mu (mu (mu (mr (mr σ.1 (p + 1) (fa_fill (σ.1 (q + 1)) (σ.1 (p + 1)) 36)) (p + 2) (fa_fill (σ.1 (q + 2)) (σ.1 (p + 2)) 12)) p 2 (σ.1 q 2)) p 3 (σ.1 q 3)) p 4 (σ.1 q 4)) p 5 (σ.1 q 5)) (p + 2) = fa_fill (σ.1 (q + 2)) (σ.1 (p + 2)) 12 := by
    rw [mu_ne _ (by omega), mu_ne _ (by omega), mu_ne _ (by omega), mu_ne _ (by omega), mr_at]
  refine ⟨⟨fun k hk => ?_, fun i hi => ?_, ?_, ?_, ?_, trivial, fun k hk => ?_, fun k hk => ?_⟩, fun k hk => ?_, fun k b0 b1 b2 => ⟨?_, ?_⟩⟩
  · dsimp only; rw [e1, fa_fill_in hk]; exact a1 k hk
  · dsimp only; rw [e2, fa_fill_in hi]; exact a2 i hi
  · simp [mu, upd]; exact a3
  · simp [mu, upd]; exact a4
  · simp [mu, upd]; exact a5
  · simp [mul, upd]; exact a7 k hk
  · simp [mul, upd]; exact a8 k hk
  · simp [mu, upd, -Bool.decide_and]; exact hR k hk
  · dsimp only
    rw [mu_ne _ b0, mu_ne _ b0, mu_ne _ b0, mu_ne _ b0, mr_ne _ _ b2, mr_ne _ _ b1]
  · dsimp only
    simp [mul, b0]
theorem posR_S {σ σ' : mSt} {p q a b : Nat} {g : Nat → Int32} (hP : posR σ p g) (hR : ritR σ p g) (hf : frS σ σ' q a b) (h1 : p + 2 < q ∨ q + 2 < p) (h2 : p + 2 < a ∨ b < p) : posR σ' p g ∧ ritR σ' p g := by
  have e0 := hf p (by omega) (by omega) (by omega) (by omega)
  have e1 := (hf (p + 1) (by omega) (by omega) (by omega) (by omega)).1
  have e2 := (hf (p + 2) (by omega) (by omega) (by omega) (by omega)).1
  unfold posR ritR
  rw [e0.1, e0.2, e1, e2]
  exact ⟨hP, hR⟩
theorem listR.S {σ σ' : mSt} {p q a b : Nat} {L : List Nat} (h : listR σ q L) (hf : frS σ σ' p a b) (hs : sepP q p) (hd : q + 1 < a ∨ b < q) : listR σ' q L := by
  unfold sepP at hs
  have e0 := (hf q (by omega) (by omega) (by omega) (by omega)).1
  have e1 := (hf (q + 1) (by omega) (by omega) (by omega) (by omega)).1
  unfold listR
  rw [e0, e1]
  exact h

