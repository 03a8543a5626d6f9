theorem mak_fun {g : Nat → Int32} (hG : wfP g) (hW : wfL g) {m D : Nat} (hm : mvOk g m) (hD : D < 40) : upd (upd (playsG (lnF g D 53) m) 57 (nI (D + 1))) (2328 + (D + 1)) (dgG (playsG g m)) = makG g m D := by
  obtain ⟨p1, _⟩ := playsG_lw hG hW hm (g' := lnF g D 53) ln_55
  funext i
  by_cases a : i = 2328 + (D + 1)
  · rw [a, upd_at, show 2328 + (D + 1) = 2328 + D + 1 by omega, mak_dg hD]
  rw [upd_ne a]
  by_cases b : i = 57
  · rw [b, upd_at, mak_57]
  rw [upd_ne b]
  by_cases c : i < 53
  · rw [p1 i c, mak_lo c]
  rw [pl_hi (by omega)]
  unfold lnF makG
  rw [if_neg c, if_neg b]
  by_cases d : 208 + 53 * D ≤ i ∧ i < 208 + 53 * D + 53
  · rw [if_pos d, if_pos d]
  · rw [if_neg d, if_neg d, if_neg (by omega)]
theorem bak_fun {g : Nat → Int32} {D : Nat} (hD : 1 ≤ D) : fa_fill (fun k => g (208 + 53 * (D - 1) + k)) (upd g 57 (nI (D - 1))) 53 = bakG g D := by
  funext i
  by_cases a : i < 53
  · rw [fa_fill_in a]; unfold bakG; rw [if_pos a]
  · rw [fa_fill_out (by omega)]
    by_cases b : i = 57
    · rw [b, upd_at]; unfold bakG; rw [if_neg (by omega), if_pos rfl]
    · rw [upd_ne b, bak_hi (by omega) b]

set_option maxRecDepth 100000 in
set_option maxHeartbeats 4000000 in
theorem c_mMake_78 {ae ad : Nat → Nat} {sh : mSh} {σ σ1 σ2 : mSt} (hm : mModel ad sh) {g : Nat → Int32} (hG : wfP g) (hW : wfL g) (hk : mdR σ1 g) (f1 : frM σ σ1) {kk m D : Nat} (hkk : (legalG g)[kk]? = some m) (hD : g 57 = nI D) (hD4 : D < 40) (hn : σ2.1 62 = lnF g D 53 ∧ (∀ j, j ≠ 62 → σ2.1 j = σ1.1 j) ∧ σ2.2 = σ1.2) : Ev RX10 cX10_make 3 false (some .int) (mRm 10 0 0) ae (mPi ad sh (fun x σ' => x = nI (ocG (makG g m D) (D + 1)) ∧ ∃ σ1 : mSt, frM σ σ1 ∧ begR σ1 σ' (makG g m D))) 78 [some (.ref (ad 61)), some (.int (nI kk)), none] [] 0 0 ad sh σ2 := by
  have hm0 := legal_ok hG hW (List.mem_of_getElem? hkk)
  have h445 := legal_len hG
  have hkl : kk < (legalG g).length := (List.getElem?_eq_some_iff.mp hkk).1
  obtain ⟨r1, r2, r3, r4⟩ := mli0 hk.2 hkk
  obtain ⟨w1, w2, w3, w4, w5, w6, w7⟩ := playsG_lw hG hW hm0 (g' := lnF g D 53) ln_55
  have e57 : playsG (lnF g D 53) m 57 = nI D := by rw [pl_hi (by decide), ln_lo (by decide), hD]
  have d55 : ∀ i, i < 55 → upd (playsG (lnF g D 53) m) 57 (nI (D + 1)) i = playsG g m i := fun i hi => by
    rw [upd_ne (by omega)]
    by_cases z : i < 53
    · exact w1 i z
    · rw [pl_hi (by omega), pl_hi (by omega), ln_lo (by omega)]
  have hGp := pl_wfP hG hW hm0
  have hWp := pl_wfL hG hW hm0
  have hG2 : wfP (upd (playsG (lnF g D 53) m) 57 (nI (D + 1))) := wfP_lw d55 hGp
  have hW2 : wfL (upd (playsG (lnF g D 53) m) 57 (nI (D + 1))) := up_wfL (pl_wfL w2 w3 w4) (Or.inl rfl)
  have edg : dgG (upd (playsG (lnF g D 53) m) 57 (nI (D + 1))) = dgG (playsG g m) := dg_lw hGp d55
  have hG3 : ∀ i, i < 55 → makG g m D i = playsG g m i := mak_55 hD4
  refine ev_aload_0 dX10_make_78 ?_
  refine ev_aload_0 dX10_make_79 ?_
  refine gf_X10_24 dX10_make_80 hm.1 rfl ?_
  refine ev_iload_1 dX10_make_83 ?_
  refine ev_ldk (k := kk) hm.2.2.2.2.2.1 (hn.2.1 66 (by decide)) rfl (by omega) (by decide) dX10_make_84 ?_
  rw [r1]
  refine ev_aload_0 dX10_make_85 ?_
  refine gf_X10_27 dX10_make_86 hm.1 rfl ?_
  refine ev_iload_1 dX10_make_89 ?_
  refine ev_ldk (k := kk) hm.2.2.2.2.2.2.1 (hn.2.1 67 (by decide)) rfl (by omega) (by decide) dX10_make_90 ?_
  rw [r2, ← w5]
  refine ev_aload_0 dX10_make_91 ?_
  refine gf_X10_30 dX10_make_92 hm.1 rfl ?_
  refine ev_iload_1 dX10_make_95 ?_
  refine ev_ldk (k := kk) hm.2.2.2.2.2.2.2.1 (hn.2.1 68 (by decide)) rfl (by omega) (by decide) dX10_make_96 ?_
  rw [r3, ← w6]
  refine ev_aload_0 dX10_make_97 ?_
  refine gf_X10_33 dX10_make_98 hm.1 rfl ?_
  refine ev_iload_1 dX10_make_101 ?_
  refine ev_ldk (k := kk) hm.2.2.2.2.2.2.2.2.1 (hn.2.1 69 (by decide)) rfl (by omega) (by decide) dX10_make_102 ?_
  rw [r4, ← w7]
  refine cg_X10_213 (c_mPlays hm hn.1 w2 w3 w4) hm.1 dX10_make_103 rfl (Nat.le_of_ble_eq_true rfl) (fun σp hp1 => ?_)
  obtain ⟨p1, p2, p3⟩ := hp1
  have zkinds_103 := (p2 66 (by decide)).trans (hn.2.1 66 (by decide))
  have zfroms_103 := (p2 67 (by decide)).trans (hn.2.1 67 (by decide))
  have ztos_103 := (p2 68 (by decide)).trans (hn.2.1 68 (by decide))
  have zwhats_103 := (p2 69 (by decide)).trans (hn.2.1 69 (by decide))
  refine ev_aload_0 dX10_make_106 ?_
  refine gf_X10_11 dX10_make_107 hm.1 rfl ?_
  refine ev_bipush_57 dX10_make_110 ?_
  refine ev_dup2 dX10_make_112 rfl rfl ?_
  refine ev_ldk (k := 57) hm.2.1 p1 rfl (by omega) (by decide) dX10_make_113 ?_
  rw [e57]
  refine ev_iconst_1 dX10_make_114 ?_
  refine ev_iadd dX10_make_115 ?_
  rw [show nI D + (1 : Int32) = nI (D + 1) from nI_add (D) (1)]
  refine ev_stk (k := 57) hm.2.1 p1 rfl (by omega) (by decide) dX10_make_116 (fun σ116 hw116 hf116 hl116 => ?_)
  have zkinds_116 := (hf116 66 (by decide)).trans zkinds_103
  have zfroms_116 := (hf116 67 (by decide)).trans zfroms_103
  have ztos_116 := (hf116 68 (by decide)).trans ztos_103
  have zwhats_116 := (hf116 69 (by decide)).trans zwhats_103
  refine ev_aload_0 dX10_make_117 ?_
  refine gf_X10_11 dX10_make_118 hm.1 rfl ?_
  refine ev_sipush_2328 dX10_make_121 ?_
  refine ev_aload_0 dX10_make_124 ?_
  refine gf_X10_11 dX10_make_125 hm.1 rfl ?_
  refine ev_bipush_57 dX10_make_128 ?_
  refine ev_ldk (k := 57) hm.2.1 hw116 rfl (by omega) (by decide) dX10_make_130 ?_
  rw [upd_at]
  refine ev_iadd dX10_make_131 ?_
  rw [show (2328 : Int32) + nI (D + 1) = nI (2328 + (D + 1)) from nI_add (2328) (D + 1)]
  refine ev_aload_0 dX10_make_132 ?_
  refine cl_X10_82 (c_mDigest hm hw116 hG2 hW2) hm.1 dX10_make_133 rfl (Nat.le_of_ble_eq_true rfl) ?_
  refine ev_stk (k := 2328 + (D + 1)) hm.2.1 hw116 rfl (by omega) (by decide) dX10_make_136 (fun σ136 hw136 hf136 hl136 => ?_)
  have zkinds_136 := (hf136 66 (by decide)).trans zkinds_116
  have zfroms_136 := (hf136 67 (by decide)).trans zfroms_116
  have ztos_136 := (hf136 68 (by decide)).trans ztos_116
  have zwhats_136 := (hf136 69 (by decide)).trans zwhats_116
  have hz := hw136
  rw [edg, mak_fun hG hW hm0 hD4] at hz
  refine ev_aload_0 dX10_make_137 ?_
  refine cg_X10_79 (c_mStirs hm) hm.1 dX10_make_138 rfl (Nat.le_of_ble_eq_true rfl) (fun σs hs138 => ?_)
  obtain ⟨s1, s2, s3, s4⟩ := hs138
  have znow_138 := (s3 62 (by decide) (by decide)).trans hz
  refine ev_aload_0 dX10_make_141 ?_
  refine cl_X10_255 (c_mOcc hm znow_138 (D := D + 1) mak_57 (by omega)) hm.1 dX10_make_142 rfl (Nat.le_of_ble_eq_true rfl) ?_
  refine ev_pi dX10_make_145 ⟨rfl, σ1, f1, znow_138, ?_, s2, fun j x61 x62 x72 => ?_, ?_⟩
  · rw [s1, hf136 61 (by decide), hf116 61 (by decide), p2 61 (by decide), hn.2.1 61 (by decide)]
  · rw [s3 j x61 x72, hf136 j x62, hf116 j x62, p2 j x62]
    exact hn.2.1 j x62
  · rw [s4, hl136, hl116, p3]
    exact hn.2.2
set_option maxRecDepth 100000 in
set_option maxHeartbeats 4000000 in
theorem c_mMakeS {ae ad : Nat → Nat} {sh : mSh} {σ : mSt} (hm : mModel ad sh) {g : Nat → Int32} (hg : σ.1 62 = g) (hG : wfP g) (hW : wfL g) (hk0 : lkR σ g) {kk m D : Nat} (hkk : (legalG g)[kk]? = some m) (hin : inB (nI kk) 0 (nI (legalG g).length - 1) = true) (hD : g 57 = nI D) (hD4 : D < 40) : Ct yX10_make cX10_make 3 (some .int) 10 0 0 [.ref (ad 61), .int (nI kk)] ae ad sh σ (mPi ad sh (fun x σ' => x = nI (ocG (makG g m D) (D + 1)) ∧ ∃ σ1 : mSt, frM σ σ1 ∧ begR σ1 σ' (makG g m D))) := by
  refine Ct.ofL (own := RX10) (ini := false) (ls := [some (.ref (ad 61)), some (.int (nI kk)), none]) (by decide +kernel) rfl (fun h => by cases h) (Nat.le_of_ble_eq_true rfl) rfl ?_
  refine ev_aload_0 dX10_make_0 ?_
  refine cg_X10_239 (c_mLooks hm hg hG hW hk0) hm.1 dX10_make_1 rfl (Nat.le_of_ble_eq_true rfl) (fun σ1 h11 => ?_)
  obtain ⟨hk, f1, f72⟩ := h11
  have g11 := f1.now hg
  refine ev_iload_1 dX10_make_4 ?_
  refine ev_iconst_0 dX10_make_5 ?_
  refine ev_aload_0 dX10_make_6 ?_
  refine gf_X10_36 dX10_make_7 hm.1 rfl ?_
  refine ev_iconst_0 dX10_make_10 ?_
  refine ev_ldk (k := 0) hm.2.2.2.2.2.2.2.2.2.1 rfl rfl (by omega) (by decide) dX10_make_11 ?_
  rw [hk.2.1]
  refine ev_iconst_1 dX10_make_12 ?_
  refine ev_isub dX10_make_13 ?_
  refine cl_X10_61 c_mIn dX10_make_14 rfl (Nat.le_of_ble_eq_true rfl) ?_
  rw [hin]
  refine ev_if_ne (tgt := 22) dX10_make_17 (by decide) (fun h17 => ?_) (fun h17 => ?_)
  · refine ev_aload_0 dX10_make_22 ?_
    refine gf_X10_11 dX10_make_23 hm.1 rfl ?_
    refine ev_bipush_57 dX10_make_26 ?_
    refine ev_ldk (k := 57) hm.2.1 g11 rfl (by omega) (by decide) dX10_make_28 ?_
    rw [hD]
    refine ev_bipush_40 dX10_make_29 ?_
    refine ev_icmp_ne (tgt := 37) dX10_make_31 (by decide) (fun h31 => ?_) (fun h31 => ?_)
    · refine ev_iconst_0 dX10_make_37 ?_
      refine ev_istore_2 dX10_make_38 rfl rfl ?_
      refine Ev.to (by rfl) rfl rfl (c_mMake_39 (σ := σ1) hm hD hD4 (fun σ3 hn => c_mMake_78 hm hG hW hk f1 hkk hD hD4 hn) _ 0 rfl (Nat.zero_le _) _ ⟨g11.trans ln_0.symm, fun _ _ => rfl, rfl⟩)
    · exact absurd ((nI_eq (b := 40) (by omega) (by decide)).mp h31) (by omega)
  · exact absurd h17 (by decide)
set_option maxRecDepth 100000 in
set_option maxHeartbeats 4000000 in
theorem c_mBackNo {ae ad : Nat → Nat} {sh : mSh} {σ : mSt} (hm : mModel ad sh) {g : Nat → Int32} (hg : σ.1 62 = g) (hG : wfP g) (hW : wfL g) (hD : g 57 = 0) : Ct yX10_back cX10_back 2 (some .int) 2 0 0 [.ref (ad 61)] ae ad sh σ (mEq (some (.int (-3))) ad sh σ) := by
  refine Ct.ofL (own := RX10) (ini := false) (ls := [some (.ref (ad 61)), none]) (by decide +kernel) rfl (fun h => by cases h) (Nat.le_of_ble_eq_true rfl) rfl ?_
  refine ev_aload_0 dX10_back_0 ?_
  refine gf_X10_11 dX10_back_1 hm.1 rfl ?_
  refine ev_bipush_57 dX10_back_4 ?_
  refine ev_ldk (k := 57) hm.2.1 hg rfl (by omega) (by decide) dX10_back_6 ?_
  rw [hD]
  refine ev_if_ne (tgt := 13) dX10_back_7 (by decide) (fun h7 => ?_) (fun h7 => ?_)
  · exact absurd rfl h7
  · refine ev_bipush_m3 dX10_back_10 ?_
    exact ev_ireturn dX10_back_12
set_option maxRecDepth 100000 in
set_option maxHeartbeats 4000000 in
theorem c_mBack_65 {ae ad : Nat → Nat} {sh : mSh} {σ σ2 : mSt} (hm : mModel ad sh) {g : Nat → Int32} {D : Nat} (hn : σ2.1 62 = bakG g D ∧ (∀ j, j ≠ 62 → σ2.1 j = σ.1 j) ∧ σ2.2 = σ.2) : Ev RX10 cX10_back 2 false (some .int) (mRm 2 0 0) ae (mPi ad sh (fun x σ' => x = nI (D - 1) ∧ begR σ σ' (bakG g D))) 65 [some (.ref (ad 61)), none] [] 0 0 ad sh σ2 := by
  refine ev_aload_0 dX10_back_65 ?_
  refine cg_X10_79 (c_mStirs hm) hm.1 dX10_back_66 rfl (Nat.le_of_ble_eq_true rfl) (fun σs hs66 => ?_)
  obtain ⟨s1, s2, s3, s4⟩ := hs66
  have znow_66 := (s3 62 (by decide) (by decide)).trans hn.1
  refine ev_aload_0 dX10_back_69 ?_
  refine gf_X10_11 dX10_back_70 hm.1 rfl ?_
  refine ev_bipush_57 dX10_back_73 ?_
  refine ev_ldk (k := 57) hm.2.1 znow_66 rfl (by omega) (by decide) dX10_back_75 ?_
  refine ev_pi dX10_back_76 ⟨by unfold bakG; rw [if_neg (by omega), if_pos rfl], znow_66, ?_, s2, fun j x61 x62 x72 => ?_, ?_⟩
  · rw [s1, hn.2.1 61 (by decide)]
  · rw [s3 j x61 x72]
    exact hn.2.1 j x62
  · rw [s4]
    exact hn.2.2
set_option maxRecDepth 100000 in
set_option maxHeartbeats 4000000 in
theorem c_mBack_26 {ae ad : Nat → Nat} {sh : mSh} {σ : mSt} (hm : mModel ad sh) {g : Nat → Int32} {D : Nat} (hD1 : 1 ≤ D) (hD4 : D ≤ 40) : ∀ (n i : Nat), 53 - i = n → i ≤ 53 → ∀ σ2 : mSt, (σ2.1 62 = fa_fill (fun k => g (208 + 53 * (D - 1) + k)) (upd g 57 (nI (D - 1))) i ∧ (∀ j, j ≠ 62 → σ2.1 j = σ.1 j) ∧ σ2.2 = σ.2) → Ev RX10 cX10_back 2 false (some .int) (mRm 2 0 0) ae (mPi ad sh (fun x σ' => x = nI (D - 1) ∧ begR σ σ' (bakG g D))) 26 [some (.ref (ad 61)), some (.int (nI i))] [] 0 0 ad sh σ2 := by
  intro n
  induction n with
  | zero =>
    intro i hn0 hi σ2 hn
    have e : i = 53 := by omega
    subst e
    refine ev_iload_1 dX10_back_26 ?_
    refine ev_bipush_53 dX10_back_27 ?_
    refine ev_icmp_ge (tgt := 65) dX10_back_29 (by decide) (fun h29 => ?_) (fun h29 => absurd (Int32.le_refl _) h29)
    refine ev_drop_1 ?_
    exact c_mBack_65 hm ⟨hn.1.trans (bak_fun hD1), hn.2⟩
  | succ n ih =>
    intro i hn0 hi σ2 hn
    have hlt : i < 53 := by omega
    refine ev_iload_1 dX10_back_26 ?_
    refine ev_bipush_53 dX10_back_27 ?_
    refine ev_icmp_ge (tgt := 65) dX10_back_29 (by decide) (fun h29 => absurd h29 (nI_ge (b := 53) hlt (by decide))) (fun h29 => ?_)
    refine ev_aload_0 dX10_back_32 ?_
    refine gf_X10_11 dX10_back_33 hm.1 rfl ?_
    refine ev_iload_1 dX10_back_36 ?_
    refine ev_aload_0 dX10_back_37 ?_
    refine gf_X10_11 dX10_back_38 hm.1 rfl ?_
    refine ev_sipush_208 dX10_back_41 ?_
    refine ev_bipush_53 dX10_back_44 ?_
    refine ev_aload_0 dX10_back_46 ?_
    refine gf_X10_11 dX10_back_47 hm.1 rfl ?_
    refine ev_bipush_57 dX10_back_50 ?_
    refine ev_ldk (k := 57) hm.2.1 hn.1 rfl (by omega) (by decide) dX10_back_52 ?_
    rw [fa_fill_out (by omega), upd_at]
    refine ev_imul dX10_back_53 ?_
    rw [show (53 : Int32) * nI ((D - 1)) = nI (53 * ((D - 1))) from nI_mul (53) ((D - 1))]
    refine ev_iadd dX10_back_54 ?_
    rw [show (208 : Int32) + nI (53 * ((D - 1))) = nI (208 + (53 * ((D - 1)))) from nI_add (208) (53 * ((D - 1)))]
    refine ev_iload_1 dX10_back_55 ?_
    refine ev_iadd dX10_back_56 ?_
    rw [show nI (208 + (53 * ((D - 1)))) + nI i = nI (208 + (53 * ((D - 1))) + i) from nI_add (208 + (53 * ((D - 1)))) (i)]
    refine ev_ldk (k := 208 + (53 * ((D - 1))) + i) hm.2.1 hn.1 rfl (by omega) (by decide) dX10_back_57 ?_
    rw [fa_fill_out (by omega), upd_ne (by omega)]
    refine ev_stk (k := i) hm.2.1 hn.1 rfl (by omega) (by decide) dX10_back_58 (fun σ58 hw58 hf58 hl58 => ?_)
    refine ev_iinc_1 (v := 1) dX10_back_59 (by decide) rfl rfl ?_
    rw [show nI i + 1 = nI (i + 1) from nI_add (i) 1]
    refine ev_goto (tgt := 26) dX10_back_62 (by decide) ?_
    exact ih (i + 1) (by omega) (by omega) _ ⟨hw58.trans (fa_fill_succ (fun k => g (208 + 53 * (D - 1) + k)) _ _), fun j xx => (hf58 j xx).trans (hn.2.1 j xx), hl58.trans hn.2.2⟩
set_option maxRecDepth 100000 in
set_option maxHeartbeats 4000000 in
theorem c_mBackS {ae ad : Nat → Nat} {sh : mSh} {σ : mSt} (hm : mModel ad sh) {g : Nat → Int32} (hg : σ.1 62 = g) (hG : wfP g) (hW : wfL g) {D : Nat} (hD : g 57 = nI D) (hD1 : 1 ≤ D) (hD4 : D ≤ 40) : Ct yX10_back cX10_back 2 (some .int) 2 0 0 [.ref (ad 61)] ae ad sh σ (mPi ad sh (fun x σ' => x = nI (D - 1) ∧ begR σ σ' (bakG g D))) := by
  refine Ct.ofL (own := RX10) (ini := false) (ls := [some (.ref (ad 61)), none]) (by decide +kernel) rfl (fun h => by cases h) (Nat.le_of_ble_eq_true rfl) rfl ?_
  refine ev_aload_0 dX10_back_0 ?_
  refine gf_X10_11 dX10_back_1 hm.1 rfl ?_
  refine ev_bipush_57 dX10_back_4 ?_
  refine ev_ldk (k := 57) hm.2.1 hg rfl (by omega) (by decide) dX10_back_6 ?_
  rw [hD]
  refine ev_if_ne (tgt := 13) dX10_back_7 (by decide) (fun h7 => ?_) (fun h7 => ?_)
  · refine ev_aload_0 dX10_back_13 ?_
    refine gf_X10_11 dX10_back_14 hm.1 rfl ?_
    refine ev_bipush_57 dX10_back_17 ?_
    refine ev_dup2 dX10_back_19 rfl rfl ?_
    refine ev_ldk (k := 57) hm.2.1 hg rfl (by omega) (by decide) dX10_back_20 ?_
    rw [hD]
    refine ev_iconst_1 dX10_back_21 ?_
    refine ev_isub dX10_back_22 ?_
    rw [show nI D - 1 = nI (D - 1) from nI_sub hD1]
    refine ev_stk (k := 57) hm.2.1 hg rfl (by omega) (by decide) dX10_back_23 (fun σ23 hw23 hf23 hl23 => ?_)
    refine ev_iconst_0 dX10_back_24 ?_
    refine ev_istore_1 dX10_back_25 rfl rfl ?_
    exact Ev.to (by rfl) rfl rfl (c_mBack_26 (σ := σ) hm hD1 hD4 _ 0 rfl (Nat.zero_le _) _ ⟨hw23.trans (fa_fill_0 _ _).symm, hf23, hl23⟩)
  · exact absurd ((nI_eq (b := 0) (by omega) (by decide)).mp h7) (by omega)
