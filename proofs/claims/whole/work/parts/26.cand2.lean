theorem cdD_no {g : Nat → Int32} (h : ¬ clN g 55 = 1) : ∀ n, ftm (cdD g) n = [] := by
  intro n
  induction n with
  | zero => rfl
  | succ n ih => rw [ftm, ih, cdD, if_neg (fun z => h z.1)]; rfl
theorem hand_nI {σ : mSt} {p : Nat} {g : Nat → Int32} (hG : wfP g) (hP : posR σ p g) {s t : Nat} (hs : s ≤ 1) (ht : t < 6) : cellV (σ.1 (p + 2)) 12 (nI s * 6 + nI t) = nI (hN g (6 * s + t)) := by
  rw [lI6, nI_mul, nI_add, show s * 6 + t = 6 * s + t by omega, cellV_nI (by omega) (by omega), hP.2.1 _ (by omega)]
  exact (hG.2.2.2.1 _ (by omega)).1
theorem listR.nil {σ : mSt} {q : Nat} : listR (mu σ.1 q 1 0, σ.2) q [] := ⟨by simp [mu, upd]; rfl, Nat.zero_le _, fun i m h => by cases h⟩
theorem frL.len {σ : mSt} {q : Nat} {x : Int32} : frL σ (mu σ.1 q 1 x, σ.2) q := ⟨fun k a _ => mu_ne _ a, fun _ _ _ => rfl⟩
set_option maxRecDepth 100000 in
set_option maxHeartbeats 4000000 in
theorem c_cand_77 {ae ad : Nat → Nat} {sh : mSh} {σ : mSt} {y0 l p q : Nat} {g : Nat → Int32} (hy : mPlay ad sh y0 l) (hp : mPos ad sh p) (hl : mList ad sh q) (hsP : sepP q p) (hsW : sepW q l) (hG : wfP g) (hW : wfL g) (hP : posR σ p g) (hR : ritR σ p g) (hL : lawR σ l g) : ∀ (n i : Nat), 6 - i = n → i ≤ 6 → ∀ σ2 : mSt, frL σ σ2 q → listR σ2 q (ftm (cdM g) (cN g * rN g) ++ ftm (cdC g) 4 ++ ftm (cdD g) i) → Ev RX5 cX5_listCandidates 4 false none (mRm 4 0 0) ae (mPv ad sh (fun σ' => listR σ' q (candG g) ∧ frL σ σ' q)) 77 [some (.ref (ad y0)), some (.ref (ad p)), some (.ref (ad q)), some (.int (nI i))] [] 0 0 ad sh σ2 := by
  have h36 := wf_sq hG
  have htu := tu_le hG
  have h445 := cand_len hG
  intro n
  induction n with
  | zero =>
    intro i hn hi σ2 hF hR2
    have e : i = 6 := by omega
    subst e
    have hP2 := hP.frL hF hsP
    have hL2 := hL.frL hF hsW
    refine ev_iload_3 dX5_listCandidates_77 ?_
    refine ev_bipush_6 dX5_listCandidates_78 ?_
    refine ev_icmp_ge (tgt := 119) dX5_listCandidates_80 (by decide) (fun h80 => ?_) (fun h80 => absurd (by decide) h80)
    exact ev_pv dX5_listCandidates_119 ⟨hR2, hF⟩
  | succ n ih =>
    intro i hn hi σ2 hF hR2
    have hlt : i < 6 := by omega
    have hP2 := hP.frL hF hsP
    have hL2 := hL.frL hF hsW
    have hR9 := hR.frL hF hsP
    have hle := ftm_lt (cdD g) hlt
    refine ev_iload_3 dX5_listCandidates_77 ?_
    refine ev_bipush_6 dX5_listCandidates_78 ?_
    refine ev_icmp_ge (tgt := 119) dX5_listCandidates_80 (by decide) (fun h80 => absurd h80 (nI_ge (b := 6) hlt (by decide))) (fun h80 => ?_)
    refine ev_aload_0 dX5_listCandidates_83 ?_
    refine gf_X5_9 dX5_listCandidates_84 hy.1 rfl ?_
    refine gf_X5_175 dX5_listCandidates_87 hy.2.1 rfl ?_
    rw [hL2.2.2.2.2.2.2.2.2.1, hW.1.1]
    refine ev_iconst_1 dX5_listCandidates_90 ?_
    refine ev_icmp_ne (tgt := 119) dX5_listCandidates_91 (by decide) (fun h91 => ?_) (fun h91 => ?_)
    · exact ev_pv dX5_listCandidates_119 ⟨by
        have hd : ¬ clN g 55 = 1 := fun z => h91 (by rw [z]; rfl)
        have z := hR2
        rw [cdD_no hd i] at z
        rw [candG, cdD_no hd 6]
        exact z, hF⟩
    · have hd1 : clN g 55 = 1 := (nI_eq (b := 1) (by have := hW.1.2; omega) (by decide)).mp (by first | exact h91 | exact Decidable.not_not.mp h91)
      have hh9 := (hG.2.2.2.1 (6 * tuN g + i) (by omega)).2
      refine ev_aload_1 dX5_listCandidates_94 ?_
      refine ev_aload_1 dX5_listCandidates_95 ?_
      refine gf_X5_131 dX5_listCandidates_96 hp.1 rfl ?_
      rw [hP2.turn hG]
      refine ev_iload_3 dX5_listCandidates_99 ?_
      refine cl_X5_178 (c_inHand hp) hp.1 dX5_listCandidates_100 rfl (Nat.le_of_ble_eq_true rfl) ?_
      rw [hand_nI hG hP2 htu hlt]
      refine ev_if_le (tgt := 113) dX5_listCandidates_103 (by decide) (fun h103 => ?_) (fun h103 => ?_)
      · refine ev_iinc_3 (v := 1) dX5_listCandidates_113 (by decide) rfl rfl ?_
        refine ev_goto (tgt := 77) dX5_listCandidates_116 (by decide) ?_
        first
          | exact Ev.to (by rw [nI_1]) rfl rfl (ih (i + 1) (by omega) (by omega) σ3 (hF.tr h3.2) (by rw [show ftm (cdD g) (i + 1) = ftm (cdD g) i ++ cdD g i from rfl, hD, ← List.append_assoc]; exact h3.1))
          | exact Ev.to (by rw [nI_1]) rfl rfl (ih (i + 1) (by omega) (by omega) σ2 hF (by
              have hz : ¬ 1 ≤ hN g (6 * tuN g + i) := fun z => absurd ((nI_leI (b := 0) (by omega) (by decide)).mp h103) (by omega)
              rw [show ftm (cdD g) (i + 1) = ftm (cdD g) i ++ cdD g i from rfl, show cdD g i = [] from if_neg (fun z => hz z.2), List.append_nil]; exact hR2))
      · have hh1 : 1 ≤ hN g (6 * tuN g + i) := Nat.pos_of_ne_zero (fun z => h103 (by rw [z]; decide))
        have hD : cdD g i = ftm (drF g i) (cN g * rN g) := if_pos ⟨hd1, hh1⟩
        rw [hD] at hle
        have hlen : (ftm (cdM g) (cN g * rN g) ++ ftm (cdC g) 4 ++ ftm (cdD g) i).length + (ftm (drF g i) (cN g * rN g)).length ≤ 445 := by rw [List.length_append, List.length_append]; omega
        refine ev_aload_0 dX5_listCandidates_106 ?_
        refine ev_aload_1 dX5_listCandidates_107 ?_
        refine ev_iload_3 dX5_listCandidates_108 ?_
        refine ev_aload_2 dX5_listCandidates_109 ?_
        refine cg_X5_229 (c_addDrops hy hp hl hsP hsW hG hP2 hL2 hW hlt hR2 hlen) hy.1 dX5_listCandidates_110 rfl (Nat.le_of_ble_eq_true rfl) (fun σ3 h3 => ?_)
        refine ev_iinc_3 (v := 1) dX5_listCandidates_113 (by decide) rfl rfl ?_
        refine ev_goto (tgt := 77) dX5_listCandidates_116 (by decide) ?_
        first
          | exact Ev.to (by rw [nI_1]) rfl rfl (ih (i + 1) (by omega) (by omega) σ3 (hF.tr h3.2) (by rw [show ftm (cdD g) (i + 1) = ftm (cdD g) i ++ cdD g i from rfl, hD, ← List.append_assoc]; exact h3.1))
          | exact Ev.to (by rw [nI_1]) rfl rfl (ih (i + 1) (by omega) (by omega) σ2 hF (by
              have hz : ¬ 1 ≤ hN g (6 * tuN g + i) := fun z => absurd ((nI_leI (b := 0) (by omega) (by decide)).mp h103) (by omega)
              rw [show ftm (cdD g) (i + 1) = ftm (cdD g) i ++ cdD g i from rfl, show cdD g i = [] from if_neg (fun z => hz z.2), List.append_nil]; exact hR2))
set_option maxRecDepth 100000 in
set_option maxHeartbeats 4000000 in
theorem c_cand_45 {ae ad : Nat → Nat} {sh : mSh} {σ : mSt} {y0 l p q : Nat} {g : Nat → Int32} (hy : mPlay ad sh y0 l) (hp : mPos ad sh p) (hl : mList ad sh q) (hsP : sepP q p) (hsW : sepW q l) (hG : wfP g) (hW : wfL g) (hP : posR σ p g) (hR : ritR σ p g) (hL : lawR σ l g) : ∀ (n i : Nat), 4 - i = n → i ≤ 4 → ∀ σ2 : mSt, frL σ σ2 q → listR σ2 q (ftm (cdM g) (cN g * rN g) ++ ftm (cdC g) i) → Ev RX5 cX5_listCandidates 4 false none (mRm 4 0 0) ae (mPv ad sh (fun σ' => listR σ' q (candG g) ∧ frL σ σ' q)) 45 [some (.ref (ad y0)), some (.ref (ad p)), some (.ref (ad q)), some (.int (nI i))] [] 0 0 ad sh σ2 := by
  have h36 := wf_sq hG
  have htu := tu_le hG
  have h445 := cand_len hG
  intro n
  induction n with
  | zero =>
    intro i hn hi σ2 hF hR2
    have e : i = 4 := by omega
    subst e
    have hP2 := hP.frL hF hsP
    have hL2 := hL.frL hF hsW
    refine ev_iload_3 dX5_listCandidates_45 ?_
    refine ev_iconst_4 dX5_listCandidates_46 ?_
    refine ev_icmp_ge (tgt := 75) dX5_listCandidates_47 (by decide) (fun h47 => ?_) (fun h47 => absurd (by decide) h47)
    refine ev_iconst_0 dX5_listCandidates_75 ?_
    refine ev_istore_3 dX5_listCandidates_76 rfl rfl ?_
    exact c_cand_77 hy hp hl hsP hsW hG hW hP hR hL 6 0 rfl (by decide) σ2 hF (by rw [show ftm (cdD g) 0 = [] from rfl, List.append_nil]; exact hR2)
  | succ n ih =>
    intro i hn hi σ2 hF hR2
    have hlt : i < 4 := by omega
    have hP2 := hP.frL hF hsP
    have hL2 := hL.frL hF hsW
    have hR9 := hR.frL hF hsP
    have hle := ftm_lt (cdC g) hlt
    refine ev_iload_3 dX5_listCandidates_45 ?_
    refine ev_iconst_4 dX5_listCandidates_46 ?_
    refine ev_icmp_ge (tgt := 75) dX5_listCandidates_47 (by decide) (fun h47 => absurd h47 (nI_ge (b := 4) hlt (by decide))) (fun h47 => ?_)
    refine ev_aload_0 dX5_listCandidates_50 ?_
    refine ev_aload_1 dX5_listCandidates_51 ?_
    refine ev_iload_3 dX5_listCandidates_52 ?_
    refine cl_X5_218 (c_isPossible hy hp hG hW hP2 hR9 hL2 hlt) hy.1 dX5_listCandidates_53 rfl (Nat.le_of_ble_eq_true rfl) ?_
    refine ev_if_eq (tgt := 69) dX5_listCandidates_56 (by decide) (fun h56 => ?_) (fun h56 => ?_)
    · refine ev_iinc_3 (v := 1) dX5_listCandidates_69 (by decide) rfl rfl ?_
      refine ev_goto (tgt := 45) dX5_listCandidates_72 (by decide) ?_
      first
        | exact Ev.to (by rw [nI_1]) rfl rfl (ih (i + 1) (by omega) (by omega) _ (hF.tr frL.add) (by rw [show ftm (cdC g) (i + 1) = ftm (cdC g) i ++ cdC g i from rfl, hC, ← List.append_assoc]; exact hR2.add hlen))
        | exact Ev.to (by rw [nI_1]) rfl rfl (ih (i + 1) (by omega) (by omega) σ2 hF (by rw [show ftm (cdC g) (i + 1) = ftm (cdC g) i ++ cdC g i from rfl, show cdC g i = [] from if_neg (by rw [(b2i_0 _).mp h56]; decide), List.append_nil]; exact hR2))
    · have hC : cdC g i = [1 * 4096 + i * 64 + 0] := if_pos (b2i_t h56)
      rw [hC, List.length_singleton] at hle
      have hlen : (ftm (cdM g) (cN g * rN g) ++ ftm (cdC g) i).length < 445 := by rw [List.length_append]; omega
      refine ev_aload_2 dX5_listCandidates_59 ?_
      refine ev_iconst_1 dX5_listCandidates_60 ?_
      refine ev_iload_3 dX5_listCandidates_61 ?_
      refine ev_iconst_0 dX5_listCandidates_62 ?_
      refine cl_X5_221 c_coded dX5_listCandidates_63 rfl (Nat.le_of_ble_eq_true rfl) ?_
      rw [show coR 1 (nI i) 0 = nI (1 * 4096 + i * 64 + 0) from coR_nI (k := 1) (b := 0) (by omega) (by decide)]
      refine cl_X5_225 (c_listAdd hl hR2.1 hlen) hl.1 dX5_listCandidates_66 rfl (Nat.le_of_ble_eq_true rfl) ?_
      refine ev_iinc_3 (v := 1) dX5_listCandidates_69 (by decide) rfl rfl ?_
      refine ev_goto (tgt := 45) dX5_listCandidates_72 (by decide) ?_
      first
        | exact Ev.to (by rw [nI_1]) rfl rfl (ih (i + 1) (by omega) (by omega) _ (hF.tr frL.add) (by rw [show ftm (cdC g) (i + 1) = ftm (cdC g) i ++ cdC g i from rfl, hC, ← List.append_assoc]; exact hR2.add hlen))
        | exact Ev.to (by rw [nI_1]) rfl rfl (ih (i + 1) (by omega) (by omega) σ2 hF (by rw [show ftm (cdC g) (i + 1) = ftm (cdC g) i ++ cdC g i from rfl, show cdC g i = [] from if_neg (by rw [(b2i_0 _).mp h56]; decide), List.append_nil]; exact hR2))
set_option maxRecDepth 100000 in
set_option maxHeartbeats 4000000 in
theorem c_cand_7 {ae ad : Nat → Nat} {sh : mSh} {σ : mSt} {y0 l p q : Nat} {g : Nat → Int32} (hy : mPlay ad sh y0 l) (hp : mPos ad sh p) (hl : mList ad sh q) (hsP : sepP q p) (hsW : sepW q l) (hG : wfP g) (hW : wfL g) (hP : posR σ p g) (hR : ritR σ p g) (hL : lawR σ l g) : ∀ (n i : Nat), (cN g * rN g) - i = n → i ≤ (cN g * rN g) → ∀ σ2 : mSt, frL σ σ2 q → listR σ2 q (ftm (cdM g) i) → Ev RX5 cX5_listCandidates 4 false none (mRm 4 0 0) ae (mPv ad sh (fun σ' => listR σ' q (candG g) ∧ frL σ σ' q)) 7 [some (.ref (ad y0)), some (.ref (ad p)), some (.ref (ad q)), some (.int (nI i))] [] 0 0 ad sh σ2 := by
  have h36 := wf_sq hG
  have htu := tu_le hG
  have h445 := cand_len hG
  intro n
  induction n with
  | zero =>
    intro i hn hi σ2 hF hR2
    have e : i = (cN g * rN g) := by omega
    subst e
    have hP2 := hP.frL hF hsP
    have hL2 := hL.frL hF hsW
    refine ev_iload_3 dX5_listCandidates_7 ?_
    refine ev_aload_1 dX5_listCandidates_8 ?_
    refine cl_X5_95 (c_squares hp) hp.1 dX5_listCandidates_9 rfl (Nat.le_of_ble_eq_true rfl) ?_
    rw [hP2.sq hG]
    refine ev_icmp_ge (tgt := 43) dX5_listCandidates_12 (by decide) (fun h12 => ?_) (fun h12 => absurd (Int32.le_refl _) h12)
    refine ev_iconst_0 dX5_listCandidates_43 ?_
    refine ev_istore_3 dX5_listCandidates_44 rfl rfl ?_
    exact c_cand_45 hy hp hl hsP hsW hG hW hP hR hL 4 0 rfl (by decide) σ2 hF (by rw [show ftm (cdC g) 0 = [] from rfl, List.append_nil]; exact hR2)
  | succ n ih =>
    intro i hn hi σ2 hF hR2
    have hlt : i < (cN g * rN g) := by omega
    have hP2 := hP.frL hF hsP
    have hL2 := hL.frL hF hsW
    have hR9 := hR.frL hF hsP
    have hle := ftm_lt (cdM g) hlt
    refine ev_iload_3 dX5_listCandidates_7 ?_
    refine ev_aload_1 dX5_listCandidates_8 ?_
    refine cl_X5_95 (c_squares hp) hp.1 dX5_listCandidates_9 rfl (Nat.le_of_ble_eq_true rfl) ?_
    rw [hP2.sq hG]
    refine ev_icmp_ge (tgt := 43) dX5_listCandidates_12 (by decide) (fun h12 => absurd h12 (nI_ge hlt (by omega))) (fun h12 => ?_)
    refine ev_aload_1 dX5_listCandidates_15 ?_
    refine ev_aload_1 dX5_listCandidates_16 ?_
    refine gf_X5_131 dX5_listCandidates_17 hp.1 rfl ?_
    rw [hP2.turn hG]
    refine cl_X5_33 (c_menOf hp) hp.1 dX5_listCandidates_20 rfl (Nat.le_of_ble_eq_true rfl) ?_
    refine ev_iload_3 dX5_listCandidates_23 ?_
    refine cl_X5_99 c_has dX5_listCandidates_24 rfl (Nat.le_of_ble_eq_true rfl) ?_
    rw [hasR_nI (k := i) (by omega), hP2.side htu (q := i) (by omega)]
    refine ev_if_eq (tgt := 37) dX5_listCandidates_27 (by decide) (fun h27 => ?_) (fun h27 => ?_)
    · refine ev_iinc_3 (v := 1) dX5_listCandidates_37 (by decide) rfl rfl ?_
      refine ev_goto (tgt := 7) dX5_listCandidates_40 (by decide) ?_
      first
        | exact Ev.to (by rw [nI_1]) rfl rfl (ih (i + 1) (by omega) (by omega) σ3 (hF.tr h3.2) (by rw [show ftm (cdM g) (i + 1) = ftm (cdM g) i ++ cdM g i from rfl, hM]; exact h3.1))
        | exact Ev.to (by rw [nI_1]) rfl rfl (ih (i + 1) (by omega) (by omega) σ2 hF (by rw [show ftm (cdM g) (i + 1) = ftm (cdM g) i ++ cdM g i from rfl, show cdM g i = [] from if_neg (by rw [(b2i_0 _).mp h27]; decide), List.append_nil]; exact hR2))
    · have hM : cdM g i = ftm (tgF g i) (cN g * rN g) := if_pos (b2i_t h27)
      rw [hM] at hle
      have q1 := isOf_1 (b2i_t h27)
      have hlen : (ftm (cdM g) i).length + (ftm (tgF g i) (cN g * rN g)).length ≤ 445 := by omega
      refine ev_aload_0 dX5_listCandidates_30 ?_
      refine ev_aload_1 dX5_listCandidates_31 ?_
      refine ev_iload_3 dX5_listCandidates_32 ?_
      refine ev_aload_2 dX5_listCandidates_33 ?_
      refine cg_X5_214 (c_addTargets hy hp hl hsP hsW hG hP2 hL2 q1.1 q1.2.1 hR2 hlen) hy.1 dX5_listCandidates_34 rfl (Nat.le_of_ble_eq_true rfl) (fun σ3 h3 => ?_)
      refine ev_iinc_3 (v := 1) dX5_listCandidates_37 (by decide) rfl rfl ?_
      refine ev_goto (tgt := 7) dX5_listCandidates_40 (by decide) ?_
      first
        | exact Ev.to (by rw [nI_1]) rfl rfl (ih (i + 1) (by omega) (by omega) σ3 (hF.tr h3.2) (by rw [show ftm (cdM g) (i + 1) = ftm (cdM g) i ++ cdM g i from rfl, hM]; exact h3.1))
        | exact Ev.to (by rw [nI_1]) rfl rfl (ih (i + 1) (by omega) (by omega) σ2 hF (by rw [show ftm (cdM g) (i + 1) = ftm (cdM g) i ++ cdM g i from rfl, show cdM g i = [] from if_neg (by rw [(b2i_0 _).mp h27]; decide), List.append_nil]; exact hR2))
set_option maxRecDepth 100000 in
set_option maxHeartbeats 4000000 in
theorem c_listCandidates {ae ad : Nat → Nat} {sh : mSh} {σ : mSt} {y0 l p q : Nat} {g : Nat → Int32} (hy : mPlay ad sh y0 l) (hp : mPos ad sh p) (hl : mList ad sh q) (hsP : sepP q p) (hsW : sepW q l) (hG : wfP g) (hW : wfL g) (hP : posR σ p g) (hR : ritR σ p g) (hL : lawR σ l g) : Ct yX5_listCandidates cX5_listCandidates 4 none 4 0 0 [.ref (ad y0), .ref (ad p), .ref (ad q)] ae ad sh σ (mPv ad sh (fun σ' => listR σ' q (candG g) ∧ frL σ σ' q)) := by
  refine Ct.ofL (own := RX5) (ini := false) (ls := [some (.ref (ad y0)), some (.ref (ad p)), some (.ref (ad q)), none]) (by decide +kernel) rfl (fun h => by cases h) (Nat.le_of_ble_eq_true rfl) rfl ?_
  refine ev_aload_2 dX5_listCandidates_0 ?_
  refine ev_iconst_0 dX5_listCandidates_1 ?_
  refine pf_X5_189 dX5_listCandidates_2 hl.1 rfl ?_
  refine ev_iconst_0 dX5_listCandidates_5 ?_
  refine ev_istore_3 dX5_listCandidates_6 rfl rfl ?_
  exact c_cand_7 hy hp hl hsP hsW hG hW hP hR hL _ 0 rfl (Nat.zero_le _) _ frL.len listR.nil
