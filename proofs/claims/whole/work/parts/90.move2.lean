/-- only the kept position and the directions have changed -/
def frH (σ σ' : mSt) : Prop := (∀ j, j ≠ 61 → j ≠ 71 → j ≠ 73 → j ≠ 74 → σ'.1 j = σ.1 j) ∧ (∀ k, k ≠ 17 → σ'.1 61 k = σ.1 61 k) ∧ σ'.2 = σ.2
theorem frM.H {σ σ' : mSt} (h : frH σ σ') : frM σ σ' := ⟨fun j a b => h.1 j b (by omega) (by omega) (by omega), ⟨h.2.1 2 (by decide), h.2.1 4 (by decide)⟩, h.2.2⟩
theorem frH.E {σ σ' : mSt} (h : frE σ σ') : frH σ σ' := ⟨fun j a _ c d => h.1 j a c d, h.2.1, h.2.2⟩
theorem mdR.H {σ σ' : mSt} {g : Nat → Int32} (hk : mdR σ g) (h : frH σ σ') : mdR σ' g := by
  unfold mdR mliR
  rw [h.2.1 13 (by decide), h.1 66 (by decide) (by decide) (by decide) (by decide), h.1 67 (by decide) (by decide) (by decide) (by decide), h.1 68 (by decide) (by decide) (by decide) (by decide), h.1 69 (by decide) (by decide) (by decide) (by decide), h.1 70 (by decide) (by decide) (by decide) (by decide)]
  exact hk
theorem pickN_some {g : Nat → Int32} {i : Int32} {m : Nat} (hG : wfP g) (h : pickG g i = some m) : ∃ k, i = nI k ∧ (legalG g)[k]? = some m ∧ k < (legalG g).length ∧ inB i 0 (nI (legalG g).length - 1) = true := by
  unfold pickG at h
  split at h
  · cases h
  · rename_i h0
    obtain ⟨k, hk, e⟩ := nI_of h0
    subst e
    rw [nI_clamp hk] at h
    have hl : k < (legalG g).length := (List.getElem?_eq_some_iff.mp h).1
    have h445 := legal_len hG
    refine ⟨k, rfl, h, hl, ?_⟩
    rw [lI1, nI_sub (by omega)]
    exact inB_n (b := 0) rfl rfl (Nat.zero_le _) (by omega) (by omega)
theorem pickN_none {g : Nat → Int32} {i : Int32} (hG : wfP g) (h : pickG g i = none) : inB i 0 (nI (legalG g).length - 1) = false := by
  have h445 := legal_len hG
  unfold pickG at h
  split at h
  · rename_i h0; exact inB_f (Or.inl h0)
  · rename_i h0
    obtain ⟨k, hk, e⟩ := nI_of h0
    subst e
    rw [nI_clamp hk, List.getElem?_eq_none_iff] at h
    refine inB_f (Or.inr ?_)
    rcases Nat.eq_zero_or_pos (legalG g).length with z | z
    · rw [z]
      show nI 0 - 1 < nI k
      rw [Int32.lt_iff_toInt_lt, nI_toInt hk]
      have : (nI 0 - 1 : Int32).toInt = -1 := by decide
      omega
    · rw [lI1, nI_sub z]; exact nI_lt (by omega) hk

set_option maxRecDepth 100000 in
set_option maxHeartbeats 4000000 in
theorem c_mAhead0 {ae ad : Nat → Nat} {sh : mSh} {σ : mSt} (hm : mModel ad sh) {g : Nat → Int32} (hg : σ.1 62 = g) (hG : wfP g) (hW : wfL g) (hk : mdR σ g) {i m : Nat} (hi : (legalG g)[i]? = some m) : Ct yX10_ahead cX10_ahead 4 (some .int) 7 0 0 [.ref (ad 61), .int (nI i), .int 0] ae ad sh σ (mPi ad sh (fun x σ' => x = b2i (chkB g m) ∧ frH σ σ')) := by
  refine Ct.ofL (own := RX10) (ini := false) (ls := [some (.ref (ad 61)), some (.int (nI i)), some (.int 0), none]) (by decide +kernel) rfl (fun h => by cases h) (Nat.le_of_ble_eq_true rfl) rfl ?_
  have hm0 := legal_ok hG hW (List.mem_of_getElem? hi)
  have h445 := legal_len hG
  have hil : i < (legalG g).length := (List.getElem?_eq_some_iff.mp hi).1
  have htu := tu_le hG
  obtain ⟨r1, r2, r3, r4⟩ := mli0 hk.2 hi
  refine ev_aload_0 dX10_ahead_0 ?_
  refine ev_iconst_0 dX10_ahead_1 ?_
  refine cg_X10_210 (c_mKeeps hm (d := 0) (by decide) hg rfl) hm.1 dX10_ahead_2 rfl (Nat.le_of_ble_eq_true rfl) (fun σk hk1 => ?_)
  obtain ⟨k1, k2, k3⟩ := hk1
  have znow_2 := (k2 62 (by decide)).trans hg
  have zkinds_2 := (k2 66 (by decide)).trans (Eq.refl _)
  have zfroms_2 := (k2 67 (by decide)).trans (Eq.refl _)
  have ztos_2 := (k2 68 (by decide)).trans (Eq.refl _)
  have zwhats_2 := (k2 69 (by decide)).trans (Eq.refl _)
  have zmany_2 := (k2 70 (by decide)).trans (Eq.refl _)
  refine ev_aload_0 dX10_ahead_5 ?_
  refine ev_aload_0 dX10_ahead_6 ?_
  refine gf_X10_24 dX10_ahead_7 hm.1 rfl ?_
  refine ev_iload_1 dX10_ahead_10 ?_
  refine ev_ldk (k := i) hm.2.2.2.2.2.1 zkinds_2 rfl (by omega) (by decide) dX10_ahead_11 ?_
  rw [r1]
  refine ev_aload_0 dX10_ahead_12 ?_
  refine gf_X10_27 dX10_ahead_13 hm.1 rfl ?_
  refine ev_iload_1 dX10_ahead_16 ?_
  refine ev_ldk (k := i) hm.2.2.2.2.2.2.1 zfroms_2 rfl (by omega) (by decide) dX10_ahead_17 ?_
  rw [r2]
  refine ev_aload_0 dX10_ahead_18 ?_
  refine gf_X10_30 dX10_ahead_19 hm.1 rfl ?_
  refine ev_iload_1 dX10_ahead_22 ?_
  refine ev_ldk (k := i) hm.2.2.2.2.2.2.2.1 ztos_2 rfl (by omega) (by decide) dX10_ahead_23 ?_
  rw [r3]
  refine ev_aload_0 dX10_ahead_24 ?_
  refine gf_X10_33 dX10_ahead_25 hm.1 rfl ?_
  refine ev_iload_1 dX10_ahead_28 ?_
  refine ev_ldk (k := i) hm.2.2.2.2.2.2.2.2.1 zwhats_2 rfl (by omega) (by decide) dX10_ahead_29 ?_
  rw [r4]
  refine cg_X10_213 (c_mPlays hm znow_2 hG hW hm0) hm.1 dX10_ahead_30 rfl (Nat.le_of_ble_eq_true rfl) (fun σp hp1 => ?_)
  obtain ⟨p1, p2, p3⟩ := hp1
  have zkinds_30 := (p2 66 (by decide)).trans zkinds_2
  have zfroms_30 := (p2 67 (by decide)).trans zfroms_2
  have ztos_30 := (p2 68 (by decide)).trans ztos_2
  have zwhats_30 := (p2 69 (by decide)).trans zwhats_2
  have zmany_30 := (p2 70 (by decide)).trans zmany_2
  have zbehind_30 := (p2 71 (by decide)).trans k1
  refine ev_iload_2 dX10_ahead_33 ?_
  refine ev_if_eq (tgt := 44) dX10_ahead_34 (by decide) (fun h34 => ?_) (fun h34 => (by exfalso; revert h34; decide))
  refine ev_aload_0 dX10_ahead_44 ?_
  refine ev_aload_0 dX10_ahead_45 ?_
  refine gf_X10_11 dX10_ahead_46 hm.1 rfl ?_
  refine ev_iconst_0 dX10_ahead_49 ?_
  refine ev_ldk (k := 0) hm.2.1 p1 rfl (by omega) (by decide) dX10_ahead_50 ?_
  rw [pl_0]
  refine cg_X10_216 (c_mSafe hm (pl_wfP hG hW hm0) (pl_wfL hG hW hm0) (s := 1 - tuN g) (by omega) p1) hm.1 dX10_ahead_51 rfl (Nat.le_of_ble_eq_true rfl) (fun rs σs hs1 => ?_)
  obtain ⟨s1, s2⟩ := hs1
  subst s1
  have znow_51 := (s2.1 62 (by decide) (by decide) (by decide)).trans p1
  have zkinds_51 := (s2.1 66 (by decide) (by decide) (by decide)).trans zkinds_30
  have zfroms_51 := (s2.1 67 (by decide) (by decide) (by decide)).trans zfroms_30
  have ztos_51 := (s2.1 68 (by decide) (by decide) (by decide)).trans ztos_30
  have zwhats_51 := (s2.1 69 (by decide) (by decide) (by decide)).trans zwhats_30
  have zmany_51 := (s2.1 70 (by decide) (by decide) (by decide)).trans zmany_30
  have zbehind_51 := (s2.1 71 (by decide) (by decide) (by decide)).trans zbehind_30
  refine ev_if_eq (tgt := 61) dX10_ahead_54 (by decide) (fun h54 => ?_) (fun h54 => ?_)
  · refine ev_iconst_1 dX10_ahead_61 ?_
    refine ev_istore_3 dX10_ahead_62 rfl rfl ?_
    refine ev_aload_0 dX10_ahead_63 ?_
    refine ev_iconst_0 dX10_ahead_64 ?_
    refine cg_X10_219 (c_mAgain hm (d := 0) (by decide) znow_51 zbehind_51) hm.1 dX10_ahead_65 rfl (Nat.le_of_ble_eq_true rfl) (fun σa ha1 => ?_)
    obtain ⟨a1, a2, a3⟩ := ha1
    have a1 := a1.trans (again_row (fun k hk => kp_at hk) (fun k hk => pl_hi hk))
    have zkinds_65 := (a2 66 (by decide)).trans zkinds_51
    have zfroms_65 := (a2 67 (by decide)).trans zfroms_51
    have ztos_65 := (a2 68 (by decide)).trans ztos_51
    have zwhats_65 := (a2 69 (by decide)).trans zwhats_51
    have zmany_65 := (a2 70 (by decide)).trans zmany_51
    have zbehind_65 := (a2 71 (by decide)).trans zbehind_51
    refine ev_iload_3 dX10_ahead_68 ?_
    have hfin : frH σ σa := ⟨fun j x61 x71 x73 x74 => by
        by_cases y : j = 62
        · subst y; exact a1.trans hg.symm
        · have x62 := y
          rw [a2 j x62, s2.1 j x61 x73 x74, p2 j x62, k2 j x71], fun k x17 => by
        rw [a2 61 (by decide)]
        exact (s2.2.1 k x17).trans (by rw [p2 61 (by decide), k2 61 (by decide)]), by
        rw [a3, s2.2.2, p3, k3]⟩
    first
    | exact ev_pi dX10_ahead_69 ⟨by unfold chkB; rw [b2i_t h54]; rfl, hfin⟩
    | exact ev_pi dX10_ahead_69 ⟨by unfold chkB; rw [(b2i_0 _).mp h54]; rfl, hfin⟩
  · refine ev_iconst_0 dX10_ahead_57 ?_
    refine ev_goto (tgt := 62) dX10_ahead_58 (by decide) ?_
    refine ev_istore_3 dX10_ahead_62 rfl rfl ?_
    refine ev_aload_0 dX10_ahead_63 ?_
    refine ev_iconst_0 dX10_ahead_64 ?_
    refine cg_X10_219 (c_mAgain hm (d := 0) (by decide) znow_51 zbehind_51) hm.1 dX10_ahead_65 rfl (Nat.le_of_ble_eq_true rfl) (fun σa ha1 => ?_)
    obtain ⟨a1, a2, a3⟩ := ha1
    have a1 := a1.trans (again_row (fun k hk => kp_at hk) (fun k hk => pl_hi hk))
    have zkinds_65 := (a2 66 (by decide)).trans zkinds_51
    have zfroms_65 := (a2 67 (by decide)).trans zfroms_51
    have ztos_65 := (a2 68 (by decide)).trans ztos_51
    have zwhats_65 := (a2 69 (by decide)).trans zwhats_51
    have zmany_65 := (a2 70 (by decide)).trans zmany_51
    have zbehind_65 := (a2 71 (by decide)).trans zbehind_51
    refine ev_iload_3 dX10_ahead_68 ?_
    have hfin : frH σ σa := ⟨fun j x61 x71 x73 x74 => by
        by_cases y : j = 62
        · subst y; exact a1.trans hg.symm
        · have x62 := y
          rw [a2 j x62, s2.1 j x61 x73 x74, p2 j x62, k2 j x71], fun k x17 => by
        rw [a2 61 (by decide)]
        exact (s2.2.1 k x17).trans (by rw [p2 61 (by decide), k2 61 (by decide)]), by
        rw [a3, s2.2.2, p3, k3]⟩
    first
    | exact ev_pi dX10_ahead_69 ⟨by unfold chkB; rw [b2i_t h54]; rfl, hfin⟩
    | exact ev_pi dX10_ahead_69 ⟨by unfold chkB; rw [(b2i_0 _).mp h54]; rfl, hfin⟩
set_option maxRecDepth 100000 in
set_option maxHeartbeats 4000000 in
theorem c_mAhead1 {ae ad : Nat → Nat} {sh : mSh} {σ : mSt} (hm : mModel ad sh) {g : Nat → Int32} (hg : σ.1 62 = g) (hG : wfP g) (hW : wfL g) (hk : mdR σ g) {i m : Nat} (hi : (legalG g)[i]? = some m) : Ct yX10_ahead cX10_ahead 4 (some .int) 7 0 0 [.ref (ad 61), .int (nI i), .int 1] ae ad sh σ (mPi ad sh (fun x σ' => x = dgG (playsG g m) ∧ frH σ σ')) := by
  refine Ct.ofL (own := RX10) (ini := false) (ls := [some (.ref (ad 61)), some (.int (nI i)), some (.int 1), none]) (by decide +kernel) rfl (fun h => by cases h) (Nat.le_of_ble_eq_true rfl) rfl ?_
  have hm0 := legal_ok hG hW (List.mem_of_getElem? hi)
  have h445 := legal_len hG
  have hil : i < (legalG g).length := (List.getElem?_eq_some_iff.mp hi).1
  have htu := tu_le hG
  obtain ⟨r1, r2, r3, r4⟩ := mli0 hk.2 hi
  refine ev_aload_0 dX10_ahead_0 ?_
  refine ev_iconst_0 dX10_ahead_1 ?_
  refine cg_X10_210 (c_mKeeps hm (d := 0) (by decide) hg rfl) hm.1 dX10_ahead_2 rfl (Nat.le_of_ble_eq_true rfl) (fun σk hk1 => ?_)
  obtain ⟨k1, k2, k3⟩ := hk1
  have znow_2 := (k2 62 (by decide)).trans hg
  have zkinds_2 := (k2 66 (by decide)).trans (Eq.refl _)
  have zfroms_2 := (k2 67 (by decide)).trans (Eq.refl _)
  have ztos_2 := (k2 68 (by decide)).trans (Eq.refl _)
  have zwhats_2 := (k2 69 (by decide)).trans (Eq.refl _)
  have zmany_2 := (k2 70 (by decide)).trans (Eq.refl _)
  refine ev_aload_0 dX10_ahead_5 ?_
  refine ev_aload_0 dX10_ahead_6 ?_
  refine gf_X10_24 dX10_ahead_7 hm.1 rfl ?_
  refine ev_iload_1 dX10_ahead_10 ?_
  refine ev_ldk (k := i) hm.2.2.2.2.2.1 zkinds_2 rfl (by omega) (by decide) dX10_ahead_11 ?_
  rw [r1]
  refine ev_aload_0 dX10_ahead_12 ?_
  refine gf_X10_27 dX10_ahead_13 hm.1 rfl ?_
  refine ev_iload_1 dX10_ahead_16 ?_
  refine ev_ldk (k := i) hm.2.2.2.2.2.2.1 zfroms_2 rfl (by omega) (by decide) dX10_ahead_17 ?_
  rw [r2]
  refine ev_aload_0 dX10_ahead_18 ?_
  refine gf_X10_30 dX10_ahead_19 hm.1 rfl ?_
  refine ev_iload_1 dX10_ahead_22 ?_
  refine ev_ldk (k := i) hm.2.2.2.2.2.2.2.1 ztos_2 rfl (by omega) (by decide) dX10_ahead_23 ?_
  rw [r3]
  refine ev_aload_0 dX10_ahead_24 ?_
  refine gf_X10_33 dX10_ahead_25 hm.1 rfl ?_
  refine ev_iload_1 dX10_ahead_28 ?_
  refine ev_ldk (k := i) hm.2.2.2.2.2.2.2.2.1 zwhats_2 rfl (by omega) (by decide) dX10_ahead_29 ?_
  rw [r4]
  refine cg_X10_213 (c_mPlays hm znow_2 hG hW hm0) hm.1 dX10_ahead_30 rfl (Nat.le_of_ble_eq_true rfl) (fun σp hp1 => ?_)
  obtain ⟨p1, p2, p3⟩ := hp1
  have zkinds_30 := (p2 66 (by decide)).trans zkinds_2
  have zfroms_30 := (p2 67 (by decide)).trans zfroms_2
  have ztos_30 := (p2 68 (by decide)).trans ztos_2
  have zwhats_30 := (p2 69 (by decide)).trans zwhats_2
  have zmany_30 := (p2 70 (by decide)).trans zmany_2
  have zbehind_30 := (p2 71 (by decide)).trans k1
  refine ev_iload_2 dX10_ahead_33 ?_
  refine ev_if_eq (tgt := 44) dX10_ahead_34 (by decide) (fun h34 => absurd h34 (by decide)) (fun h34 => ?_)
  refine ev_aload_0 dX10_ahead_37 ?_
  refine cl_X10_82 (c_mDigest hm p1 (pl_wfP hG hW hm0) (pl_wfL hG hW hm0)) hm.1 dX10_ahead_38 rfl (Nat.le_of_ble_eq_true rfl) ?_
  refine ev_goto (tgt := 62) dX10_ahead_41 (by decide) ?_
  refine ev_istore_3 dX10_ahead_62 rfl rfl ?_
  refine ev_aload_0 dX10_ahead_63 ?_
  refine ev_iconst_0 dX10_ahead_64 ?_
  refine cg_X10_219 (c_mAgain hm (d := 0) (by decide) p1 zbehind_30) hm.1 dX10_ahead_65 rfl (Nat.le_of_ble_eq_true rfl) (fun σa ha1 => ?_)
  obtain ⟨a1, a2, a3⟩ := ha1
  have a1 := a1.trans (again_row (fun k hk => kp_at hk) (fun k hk => pl_hi hk))
  have zkinds_65 := (a2 66 (by decide)).trans zkinds_30
  have zfroms_65 := (a2 67 (by decide)).trans zfroms_30
  have ztos_65 := (a2 68 (by decide)).trans ztos_30
  have zwhats_65 := (a2 69 (by decide)).trans zwhats_30
  have zmany_65 := (a2 70 (by decide)).trans zmany_30
  have zbehind_65 := (a2 71 (by decide)).trans zbehind_30
  refine ev_iload_3 dX10_ahead_68 ?_
  have hfin : frH σ σa := ⟨fun j x61 x71 x73 x74 => by
      by_cases y : j = 62
      · subst y; exact a1.trans hg.symm
      · have x62 := y
        rw [a2 j x62, p2 j x62, k2 j x71], fun k x17 => by
      rw [a2 61 (by decide), p2 61 (by decide), k2 61 (by decide)], by
      rw [a3, p3, k3]⟩
  exact ev_pi dX10_ahead_69 ⟨rfl, hfin⟩
set_option maxRecDepth 100000 in
set_option maxHeartbeats 4000000 in
theorem c_mMoveNo {ae ad : Nat → Nat} {sh : mSh} {σ : mSt} (hm : mModel ad sh) {g : Nat → Int32} (hg : σ.1 62 = g) (hG : wfP g) (hW : wfL g) (hk0 : lkR σ g) {i c : Int32} (hi : pickG g i = none) : Ct yX10_move cX10_move 3 (some .int) 10 0 0 [.ref (ad 61), .int i, .int c] ae ad sh σ (mPi ad sh (fun x σ' => x = movG g i c ∧ mdR σ' g ∧ frM σ σ' ∧ σ'.1 72 = σ.1 72)) := by
  refine Ct.ofL (own := RX10) (ini := false) (ls := [some (.ref (ad 61)), some (.int i), some (.int c)]) (by decide +kernel) rfl (fun h => by cases h) (Nat.le_of_ble_eq_true rfl) rfl ?_
  refine ev_aload_0 dX10_move_0 ?_
  refine cg_X10_239 (c_mLooks hm hg hG hW hk0) hm.1 dX10_move_1 rfl (Nat.le_of_ble_eq_true rfl) (fun σ1 h11 => ?_)
  obtain ⟨hk, f1, f72⟩ := h11
  have g11 := f1.now hg
  refine ev_iload_1 dX10_move_4 ?_
  refine ev_iconst_0 dX10_move_5 ?_
  refine ev_aload_0 dX10_move_6 ?_
  refine gf_X10_36 dX10_move_7 hm.1 rfl ?_
  refine ev_iconst_0 dX10_move_10 ?_
  refine ev_ldk (k := 0) hm.2.2.2.2.2.2.2.2.2.1 rfl rfl (by omega) (by decide) dX10_move_11 ?_
  rw [hk.2.1]
  refine ev_iconst_1 dX10_move_12 ?_
  refine ev_isub dX10_move_13 ?_
  refine cl_X10_61 c_mIn dX10_move_14 rfl (Nat.le_of_ble_eq_true rfl) ?_
  rw [pickN_none hG hi]
  refine ev_if_eq (tgt := 30) dX10_move_17 (by decide) (fun h17 => ?_) (fun h17 => absurd rfl h17)
  refine ev_iconst_m1 dX10_move_30 ?_
  exact ev_pi dX10_move_31 ⟨by rw [movG, hi], hk, f1, f72⟩
set_option maxRecDepth 100000 in
set_option maxHeartbeats 4000000 in
theorem c_mMoveN {ae ad : Nat → Nat} {sh : mSh} {σ : mSt} (hm : mModel ad sh) {g : Nat → Int32} (hg : σ.1 62 = g) (hG : wfP g) (hW : wfL g) (hk0 : lkR σ g) {i c : Int32} {m : Nat} (hi : pickG g i = some m) (hc : c.toInt < 0 ∨ 7 < c.toInt) : Ct yX10_move cX10_move 3 (some .int) 10 0 0 [.ref (ad 61), .int i, .int c] ae ad sh σ (mPi ad sh (fun x σ' => x = movG g i c ∧ mdR σ' g ∧ frM σ σ' ∧ σ'.1 72 = σ.1 72)) := by
  refine Ct.ofL (own := RX10) (ini := false) (ls := [some (.ref (ad 61)), some (.int i), some (.int c)]) (by decide +kernel) rfl (fun h => by cases h) (Nat.le_of_ble_eq_true rfl) rfl ?_
  obtain ⟨kk, ek, hkk, hkl, hin⟩ := pickN_some hG hi
  refine ev_aload_0 dX10_move_0 ?_
  refine cg_X10_239 (c_mLooks hm hg hG hW hk0) hm.1 dX10_move_1 rfl (Nat.le_of_ble_eq_true rfl) (fun σ1 h11 => ?_)
  obtain ⟨hk, f1, f72⟩ := h11
  have g11 := f1.now hg
  refine ev_iload_1 dX10_move_4 ?_
  refine ev_iconst_0 dX10_move_5 ?_
  refine ev_aload_0 dX10_move_6 ?_
  refine gf_X10_36 dX10_move_7 hm.1 rfl ?_
  refine ev_iconst_0 dX10_move_10 ?_
  refine ev_ldk (k := 0) hm.2.2.2.2.2.2.2.2.2.1 rfl rfl (by omega) (by decide) dX10_move_11 ?_
  rw [hk.2.1]
  refine ev_iconst_1 dX10_move_12 ?_
  refine ev_isub dX10_move_13 ?_
  refine cl_X10_61 c_mIn dX10_move_14 rfl (Nat.le_of_ble_eq_true rfl) ?_
  rw [hin]
  refine ev_if_eq (tgt := 30) dX10_move_17 (by decide) (fun h17 => absurd h17 (by decide)) (fun h17 => ?_)
  refine ev_iload_2 dX10_move_20 ?_
  refine ev_iconst_0 dX10_move_21 ?_
  refine ev_bipush_7 dX10_move_22 ?_
  refine cl_X10_61 c_mIn dX10_move_24 rfl (Nat.le_of_ble_eq_true rfl) ?_
  refine ev_if_ne (tgt := 32) dX10_move_27 (by decide) (fun h27 => absurd h27 (by rw [show inB c 0 7 = false from inB_f (by rw [Int32.lt_iff_toInt_lt, Int32.lt_iff_toInt_lt]; exact hc)]; decide)) (fun h27 => ?_)
  refine ev_iconst_m1 dX10_move_30 ?_
  refine ev_pi dX10_move_31 ⟨?_, hk, f1, f72⟩
  rw [movG, hi]
  have n : ∀ z : Int32, 0 ≤ z.toInt → z.toInt ≤ 7 → ¬ c = z := fun z a b e => by rw [e] at hc; omega
  show _ = movA g m c
  unfold movA
  rw [if_neg (n 0 (by decide) (by decide)), if_neg (n 1 (by decide) (by decide)), if_neg (n 2 (by decide) (by decide)), if_neg (n 3 (by decide) (by decide)), if_neg (n 4 (by decide) (by decide)), if_neg (n 5 (by decide) (by decide)), if_neg (n 6 (by decide) (by decide)), if_neg (n 7 (by decide) (by decide))]
set_option maxRecDepth 100000 in
set_option maxHeartbeats 4000000 in
theorem c_mMove0 {ae ad : Nat → Nat} {sh : mSh} {σ : mSt} (hm : mModel ad sh) {g : Nat → Int32} (hg : σ.1 62 = g) (hG : wfP g) (hW : wfL g) (hk0 : lkR σ g) {kk m : Nat} (hi : pickG g (nI kk) = some m) (hkk : (legalG g)[kk]? = some m) (hkl : kk < (legalG g).length) (hin : inB (nI kk) 0 (nI (legalG g).length - 1) = true) : Ct yX10_move cX10_move 3 (some .int) 10 0 0 [.ref (ad 61), .int (nI kk), .int 0] ae ad sh σ (mPi ad sh (fun x σ' => x = movG g (nI kk) 0 ∧ mdR σ' g ∧ frM σ σ' ∧ σ'.1 72 = σ.1 72)) := by
  refine Ct.ofL (own := RX10) (ini := false) (ls := [some (.ref (ad 61)), some (.int (nI kk)), some (.int 0)]) (by decide +kernel) rfl (fun h => by cases h) (Nat.le_of_ble_eq_true rfl) rfl ?_
  have hm0 := legal_ok hG hW (List.mem_of_getElem? hkk)
  have hm2 := mvOk_lt hm0
  have h445 := legal_len hG
  have h36 := sq36 hG
  have hcap := cap_le hG hm0
  have hk3 := mK_le hm0
  refine ev_aload_0 dX10_move_0 ?_
  refine cg_X10_239 (c_mLooks hm hg hG hW hk0) hm.1 dX10_move_1 rfl (Nat.le_of_ble_eq_true rfl) (fun σ1 h11 => ?_)
  obtain ⟨hk, f1, f72⟩ := h11
  have g11 := f1.now hg
  obtain ⟨r1, r2, r3, r4⟩ := mli0 hk.2 hkk
  refine ev_iload_1 dX10_move_4 ?_
  refine ev_iconst_0 dX10_move_5 ?_
  refine ev_aload_0 dX10_move_6 ?_
  refine gf_X10_36 dX10_move_7 hm.1 rfl ?_
  refine ev_iconst_0 dX10_move_10 ?_
  refine ev_ldk (k := 0) hm.2.2.2.2.2.2.2.2.2.1 rfl rfl (by omega) (by decide) dX10_move_11 ?_
  rw [hk.2.1]
  refine ev_iconst_1 dX10_move_12 ?_
  refine ev_isub dX10_move_13 ?_
  refine cl_X10_61 c_mIn dX10_move_14 rfl (Nat.le_of_ble_eq_true rfl) ?_
  rw [hin]
  refine ev_if_eq (tgt := 30) dX10_move_17 (by decide) (fun h17 => absurd h17 (by decide)) (fun h17 => ?_)
  refine ev_iload_2 dX10_move_20 ?_
  refine ev_iconst_0 dX10_move_21 ?_
  refine ev_bipush_7 dX10_move_22 ?_
  refine cl_X10_61 c_mIn dX10_move_24 rfl (Nat.le_of_ble_eq_true rfl) ?_
  refine ev_if_ne (tgt := 32) dX10_move_27 (by decide) (fun h27 => ?_) (fun h27 => ?_)
  · refine ev_iload_2 dX10_move_32 ?_
    refine ev_tableIn (off := 39) (tgt := 72) dX10_move_33 (by decide) (by decide) (by decide) (by decide) ?_
    refine ev_aload_0 dX10_move_72 ?_
    refine gf_X10_24 dX10_move_73 hm.1 rfl ?_
    refine ev_iload_1 dX10_move_76 ?_
    refine ev_ldk (k := kk) hm.2.2.2.2.2.1 rfl rfl (by omega) (by decide) dX10_move_77 ?_
    rw [r1]
    exact ev_pi dX10_move_78 ⟨by rw [movG, hi]; show _ = movA g m 0; unfold movA; rw [if_pos rfl], hk, f1, f72⟩
  · exact absurd h27 (by decide)
set_option maxRecDepth 100000 in
set_option maxHeartbeats 4000000 in
theorem c_mMove1 {ae ad : Nat → Nat} {sh : mSh} {σ : mSt} (hm : mModel ad sh) {g : Nat → Int32} (hg : σ.1 62 = g) (hG : wfP g) (hW : wfL g) (hk0 : lkR σ g) {kk m : Nat} (hi : pickG g (nI kk) = some m) (hkk : (legalG g)[kk]? = some m) (hkl : kk < (legalG g).length) (hin : inB (nI kk) 0 (nI (legalG g).length - 1) = true) : Ct yX10_move cX10_move 3 (some .int) 10 0 0 [.ref (ad 61), .int (nI kk), .int 1] ae ad sh σ (mPi ad sh (fun x σ' => x = movG g (nI kk) 1 ∧ mdR σ' g ∧ frM σ σ' ∧ σ'.1 72 = σ.1 72)) := by
  refine Ct.ofL (own := RX10) (ini := false) (ls := [some (.ref (ad 61)), some (.int (nI kk)), some (.int 1)]) (by decide +kernel) rfl (fun h => by cases h) (Nat.le_of_ble_eq_true rfl) rfl ?_
  have hm0 := legal_ok hG hW (List.mem_of_getElem? hkk)
  have hm2 := mvOk_lt hm0
  have h445 := legal_len hG
  have h36 := sq36 hG
  have hcap := cap_le hG hm0
  have hk3 := mK_le hm0
  refine ev_aload_0 dX10_move_0 ?_
  refine cg_X10_239 (c_mLooks hm hg hG hW hk0) hm.1 dX10_move_1 rfl (Nat.le_of_ble_eq_true rfl) (fun σ1 h11 => ?_)
  obtain ⟨hk, f1, f72⟩ := h11
  have g11 := f1.now hg
  obtain ⟨r1, r2, r3, r4⟩ := mli0 hk.2 hkk
  refine ev_iload_1 dX10_move_4 ?_
  refine ev_iconst_0 dX10_move_5 ?_
  refine ev_aload_0 dX10_move_6 ?_
  refine gf_X10_36 dX10_move_7 hm.1 rfl ?_
  refine ev_iconst_0 dX10_move_10 ?_
  refine ev_ldk (k := 0) hm.2.2.2.2.2.2.2.2.2.1 rfl rfl (by omega) (by decide) dX10_move_11 ?_
  rw [hk.2.1]
  refine ev_iconst_1 dX10_move_12 ?_
  refine ev_isub dX10_move_13 ?_
  refine cl_X10_61 c_mIn dX10_move_14 rfl (Nat.le_of_ble_eq_true rfl) ?_
  rw [hin]
  refine ev_if_eq (tgt := 30) dX10_move_17 (by decide) (fun h17 => absurd h17 (by decide)) (fun h17 => ?_)
  refine ev_iload_2 dX10_move_20 ?_
  refine ev_iconst_0 dX10_move_21 ?_
  refine ev_bipush_7 dX10_move_22 ?_
  refine cl_X10_61 c_mIn dX10_move_24 rfl (Nat.le_of_ble_eq_true rfl) ?_
  refine ev_if_ne (tgt := 32) dX10_move_27 (by decide) (fun h27 => ?_) (fun h27 => ?_)
  · refine ev_iload_2 dX10_move_32 ?_
    refine ev_tableIn (off := 46) (tgt := 79) dX10_move_33 (by decide) (by decide) (by decide) (by decide) ?_
    refine ev_aload_0 dX10_move_79 ?_
    refine gf_X10_27 dX10_move_80 hm.1 rfl ?_
    refine ev_iload_1 dX10_move_83 ?_
    refine ev_ldk (k := kk) hm.2.2.2.2.2.2.1 rfl rfl (by omega) (by decide) dX10_move_84 ?_
    rw [r2]
    exact ev_pi dX10_move_85 ⟨by rw [movG, hi]; show _ = movA g m 1; unfold movA; simp, hk, f1, f72⟩
  · exact absurd h27 (by decide)
set_option maxRecDepth 100000 in
set_option maxHeartbeats 4000000 in
theorem c_mMove2 {ae ad : Nat → Nat} {sh : mSh} {σ : mSt} (hm : mModel ad sh) {g : Nat → Int32} (hg : σ.1 62 = g) (hG : wfP g) (hW : wfL g) (hk0 : lkR σ g) {kk m : Nat} (hi : pickG g (nI kk) = some m) (hkk : (legalG g)[kk]? = some m) (hkl : kk < (legalG g).length) (hin : inB (nI kk) 0 (nI (legalG g).length - 1) = true) : Ct yX10_move cX10_move 3 (some .int) 10 0 0 [.ref (ad 61), .int (nI kk), .int 2] ae ad sh σ (mPi ad sh (fun x σ' => x = movG g (nI kk) 2 ∧ mdR σ' g ∧ frM σ σ' ∧ σ'.1 72 = σ.1 72)) := by
  refine Ct.ofL (own := RX10) (ini := false) (ls := [some (.ref (ad 61)), some (.int (nI kk)), some (.int 2)]) (by decide +kernel) rfl (fun h => by cases h) (Nat.le_of_ble_eq_true rfl) rfl ?_
  have hm0 := legal_ok hG hW (List.mem_of_getElem? hkk)
  have hm2 := mvOk_lt hm0
  have h445 := legal_len hG
  have h36 := sq36 hG
  have hcap := cap_le hG hm0
  have hk3 := mK_le hm0
  refine ev_aload_0 dX10_move_0 ?_
  refine cg_X10_239 (c_mLooks hm hg hG hW hk0) hm.1 dX10_move_1 rfl (Nat.le_of_ble_eq_true rfl) (fun σ1 h11 => ?_)
  obtain ⟨hk, f1, f72⟩ := h11
  have g11 := f1.now hg
  obtain ⟨r1, r2, r3, r4⟩ := mli0 hk.2 hkk
  refine ev_iload_1 dX10_move_4 ?_
  refine ev_iconst_0 dX10_move_5 ?_
  refine ev_aload_0 dX10_move_6 ?_
  refine gf_X10_36 dX10_move_7 hm.1 rfl ?_
  refine ev_iconst_0 dX10_move_10 ?_
  refine ev_ldk (k := 0) hm.2.2.2.2.2.2.2.2.2.1 rfl rfl (by omega) (by decide) dX10_move_11 ?_
  rw [hk.2.1]
  refine ev_iconst_1 dX10_move_12 ?_
  refine ev_isub dX10_move_13 ?_
  refine cl_X10_61 c_mIn dX10_move_14 rfl (Nat.le_of_ble_eq_true rfl) ?_
  rw [hin]
  refine ev_if_eq (tgt := 30) dX10_move_17 (by decide) (fun h17 => absurd h17 (by decide)) (fun h17 => ?_)
  refine ev_iload_2 dX10_move_20 ?_
  refine ev_iconst_0 dX10_move_21 ?_
  refine ev_bipush_7 dX10_move_22 ?_
  refine cl_X10_61 c_mIn dX10_move_24 rfl (Nat.le_of_ble_eq_true rfl) ?_
  refine ev_if_ne (tgt := 32) dX10_move_27 (by decide) (fun h27 => ?_) (fun h27 => ?_)
  · refine ev_iload_2 dX10_move_32 ?_
    refine ev_tableIn (off := 53) (tgt := 86) dX10_move_33 (by decide) (by decide) (by decide) (by decide) ?_
    refine ev_aload_0 dX10_move_86 ?_
    refine gf_X10_30 dX10_move_87 hm.1 rfl ?_
    refine ev_iload_1 dX10_move_90 ?_
    refine ev_ldk (k := kk) hm.2.2.2.2.2.2.2.1 rfl rfl (by omega) (by decide) dX10_move_91 ?_
    rw [r3]
    exact ev_pi dX10_move_92 ⟨by rw [movG, hi]; show _ = movA g m 2; unfold movA; simp, hk, f1, f72⟩
  · exact absurd h27 (by decide)
set_option maxRecDepth 100000 in
set_option maxHeartbeats 4000000 in
theorem c_mMove3 {ae ad : Nat → Nat} {sh : mSh} {σ : mSt} (hm : mModel ad sh) {g : Nat → Int32} (hg : σ.1 62 = g) (hG : wfP g) (hW : wfL g) (hk0 : lkR σ g) {kk m : Nat} (hi : pickG g (nI kk) = some m) (hkk : (legalG g)[kk]? = some m) (hkl : kk < (legalG g).length) (hin : inB (nI kk) 0 (nI (legalG g).length - 1) = true) : Ct yX10_move cX10_move 3 (some .int) 10 0 0 [.ref (ad 61), .int (nI kk), .int 3] ae ad sh σ (mPi ad sh (fun x σ' => x = movG g (nI kk) 3 ∧ mdR σ' g ∧ frM σ σ' ∧ σ'.1 72 = σ.1 72)) := by
  refine Ct.ofL (own := RX10) (ini := false) (ls := [some (.ref (ad 61)), some (.int (nI kk)), some (.int 3)]) (by decide +kernel) rfl (fun h => by cases h) (Nat.le_of_ble_eq_true rfl) rfl ?_
  have hm0 := legal_ok hG hW (List.mem_of_getElem? hkk)
  have hm2 := mvOk_lt hm0
  have h445 := legal_len hG
  have h36 := sq36 hG
  have hcap := cap_le hG hm0
  have hk3 := mK_le hm0
  refine ev_aload_0 dX10_move_0 ?_
  refine cg_X10_239 (c_mLooks hm hg hG hW hk0) hm.1 dX10_move_1 rfl (Nat.le_of_ble_eq_true rfl) (fun σ1 h11 => ?_)
  obtain ⟨hk, f1, f72⟩ := h11
  have g11 := f1.now hg
  obtain ⟨r1, r2, r3, r4⟩ := mli0 hk.2 hkk
  refine ev_iload_1 dX10_move_4 ?_
  refine ev_iconst_0 dX10_move_5 ?_
  refine ev_aload_0 dX10_move_6 ?_
  refine gf_X10_36 dX10_move_7 hm.1 rfl ?_
  refine ev_iconst_0 dX10_move_10 ?_
  refine ev_ldk (k := 0) hm.2.2.2.2.2.2.2.2.2.1 rfl rfl (by omega) (by decide) dX10_move_11 ?_
  rw [hk.2.1]
  refine ev_iconst_1 dX10_move_12 ?_
  refine ev_isub dX10_move_13 ?_
  refine cl_X10_61 c_mIn dX10_move_14 rfl (Nat.le_of_ble_eq_true rfl) ?_
  rw [hin]
  refine ev_if_eq (tgt := 30) dX10_move_17 (by decide) (fun h17 => absurd h17 (by decide)) (fun h17 => ?_)
  refine ev_iload_2 dX10_move_20 ?_
  refine ev_iconst_0 dX10_move_21 ?_
  refine ev_bipush_7 dX10_move_22 ?_
  refine cl_X10_61 c_mIn dX10_move_24 rfl (Nat.le_of_ble_eq_true rfl) ?_
  refine ev_if_ne (tgt := 32) dX10_move_27 (by decide) (fun h27 => ?_) (fun h27 => ?_)
  · refine ev_iload_2 dX10_move_32 ?_
    refine ev_tableIn (off := 60) (tgt := 93) dX10_move_33 (by decide) (by decide) (by decide) (by decide) ?_
    refine ev_aload_0 dX10_move_93 ?_
    refine ev_iload_1 dX10_move_94 ?_
    refine cl_X10_248 (c_mTyp hm g11 hG hW hk hkk) hm.1 dX10_move_95 rfl (Nat.le_of_ble_eq_true rfl) ?_
    exact ev_pi dX10_move_98 ⟨by rw [movG, hi]; show _ = movA g m 3; unfold movA; simp, hk, f1, f72⟩
  · exact absurd h27 (by decide)
set_option maxRecDepth 100000 in
set_option maxHeartbeats 4000000 in
theorem c_mMove4 {ae ad : Nat → Nat} {sh : mSh} {σ : mSt} (hm : mModel ad sh) {g : Nat → Int32} (hg : σ.1 62 = g) (hG : wfP g) (hW : wfL g) (hk0 : lkR σ g) {kk m : Nat} (hi : pickG g (nI kk) = some m) (hkk : (legalG g)[kk]? = some m) (hkl : kk < (legalG g).length) (hin : inB (nI kk) 0 (nI (legalG g).length - 1) = true) : Ct yX10_move cX10_move 3 (some .int) 10 0 0 [.ref (ad 61), .int (nI kk), .int 4] ae ad sh σ (mPi ad sh (fun x σ' => x = movG g (nI kk) 4 ∧ mdR σ' g ∧ frM σ σ' ∧ σ'.1 72 = σ.1 72)) := by
  refine Ct.ofL (own := RX10) (ini := false) (ls := [some (.ref (ad 61)), some (.int (nI kk)), some (.int 4)]) (by decide +kernel) rfl (fun h => by cases h) (Nat.le_of_ble_eq_true rfl) rfl ?_
  have hm0 := legal_ok hG hW (List.mem_of_getElem? hkk)
  have hm2 := mvOk_lt hm0
  have h445 := legal_len hG
  have h36 := sq36 hG
  have hcap := cap_le hG hm0
  have hk3 := mK_le hm0
  refine ev_aload_0 dX10_move_0 ?_
  refine cg_X10_239 (c_mLooks hm hg hG hW hk0) hm.1 dX10_move_1 rfl (Nat.le_of_ble_eq_true rfl) (fun σ1 h11 => ?_)
  obtain ⟨hk, f1, f72⟩ := h11
  have g11 := f1.now hg
  obtain ⟨r1, r2, r3, r4⟩ := mli0 hk.2 hkk
  refine ev_iload_1 dX10_move_4 ?_
  refine ev_iconst_0 dX10_move_5 ?_
  refine ev_aload_0 dX10_move_6 ?_
  refine gf_X10_36 dX10_move_7 hm.1 rfl ?_
  refine ev_iconst_0 dX10_move_10 ?_
  refine ev_ldk (k := 0) hm.2.2.2.2.2.2.2.2.2.1 rfl rfl (by omega) (by decide) dX10_move_11 ?_
  rw [hk.2.1]
  refine ev_iconst_1 dX10_move_12 ?_
  refine ev_isub dX10_move_13 ?_
  refine cl_X10_61 c_mIn dX10_move_14 rfl (Nat.le_of_ble_eq_true rfl) ?_
  rw [hin]
  refine ev_if_eq (tgt := 30) dX10_move_17 (by decide) (fun h17 => absurd h17 (by decide)) (fun h17 => ?_)
  refine ev_iload_2 dX10_move_20 ?_
  refine ev_iconst_0 dX10_move_21 ?_
  refine ev_bipush_7 dX10_move_22 ?_
  refine cl_X10_61 c_mIn dX10_move_24 rfl (Nat.le_of_ble_eq_true rfl) ?_
  refine ev_if_ne (tgt := 32) dX10_move_27 (by decide) (fun h27 => ?_) (fun h27 => ?_)
  · refine ev_iload_2 dX10_move_32 ?_
    refine ev_tableIn (off := 66) (tgt := 99) dX10_move_33 (by decide) (by decide) (by decide) (by decide) ?_
    refine ev_aload_0 dX10_move_99 ?_
    refine ev_iload_1 dX10_move_100 ?_
    refine cl_X10_242 (c_mCap hm g11 hG hW hk hkk) hm.1 dX10_move_101 rfl (Nat.le_of_ble_eq_true rfl) ?_
    refine ev_if_eq (tgt := 123) dX10_move_104 (by decide) (fun h104 => ?_) (fun h104 => ?_)
    · refine ev_bipush_m5 dX10_move_123 ?_
      first
      | exact ev_pi dX10_move_125 ⟨by rw [movG, hi]; show _ = movA g m 4; unfold movA; rw [if_neg (by decide), if_neg (by decide), if_neg (by decide), if_neg (by decide), if_pos rfl, if_neg c1, cap_0 k0], hk, f1, f72⟩
      | exact ev_pi dX10_move_125 ⟨by rw [movG, hi]; show _ = movA g m 4; unfold movA; have c1 : capN g m = 0 := Classical.not_not.mp (of_decide_eq_false ((b2i_0 _).mp h104)); simp [c1], hk, f1, f72⟩
    · have c1 : ¬ capN g m = 0 := of_decide_eq_true (b2i_t h104)
      have k0 : mK m = 0 := Classical.byContradiction fun z => c1 (cap_1 z)
      obtain ⟨v1, v2, v3, v4, v5⟩ := mv0 hm0 k0
      rw [cap_0 k0] at hcap
      have cc1 : 1 ≤ mN g (mB m) := Nat.pos_of_ne_zero (fun z => c1 ((cap_0 k0).trans z))
      refine ev_aload_0 dX10_move_107 ?_
      refine ev_aload_0 dX10_move_108 ?_
      refine gf_X10_30 dX10_move_109 hm.1 rfl ?_
      refine ev_iload_1 dX10_move_112 ?_
      refine ev_ldk (k := kk) hm.2.2.2.2.2.2.2.1 rfl rfl (by omega) (by decide) dX10_move_113 ?_
      rw [r3, show toN g m = nI (mB m) from if_neg (by omega)]
      refine cl_X10_69 (c_mMan hm g11 hG (q := (mB m)) (by omega)) hm.1 dX10_move_114 rfl (Nat.le_of_ble_eq_true rfl) ?_
      refine ev_bipush_6 dX10_move_117 ?_
      refine ev_irem dX10_move_119 (show ¬ (6 : Int32) = 0 by decide) ?_
      rw [m1_rem cc1 hcap]
      refine ev_goto (tgt := 125) dX10_move_120 (by decide) ?_
      first
      | exact ev_pi dX10_move_125 ⟨by rw [movG, hi]; show _ = movA g m 4; unfold movA; rw [if_neg (by decide), if_neg (by decide), if_neg (by decide), if_neg (by decide), if_pos rfl, if_neg c1, cap_0 k0], hk, f1, f72⟩
      | exact ev_pi dX10_move_125 ⟨by rw [movG, hi]; show _ = movA g m 4; unfold movA; have c1 : capN g m = 0 := Classical.not_not.mp (of_decide_eq_false ((b2i_0 _).mp h104)); simp [c1], hk, f1, f72⟩
  · exact absurd h27 (by decide)
set_option maxRecDepth 100000 in
set_option maxHeartbeats 4000000 in
theorem c_mMove5 {ae ad : Nat → Nat} {sh : mSh} {σ : mSt} (hm : mModel ad sh) {g : Nat → Int32} (hg : σ.1 62 = g) (hG : wfP g) (hW : wfL g) (hk0 : lkR σ g) {kk m : Nat} (hi : pickG g (nI kk) = some m) (hkk : (legalG g)[kk]? = some m) (hkl : kk < (legalG g).length) (hin : inB (nI kk) 0 (nI (legalG g).length - 1) = true) : Ct yX10_move cX10_move 3 (some .int) 10 0 0 [.ref (ad 61), .int (nI kk), .int 5] ae ad sh σ (mPi ad sh (fun x σ' => x = movG g (nI kk) 5 ∧ mdR σ' g ∧ frM σ σ' ∧ σ'.1 72 = σ.1 72)) := by
  refine Ct.ofL (own := RX10) (ini := false) (ls := [some (.ref (ad 61)), some (.int (nI kk)), some (.int 5)]) (by decide +kernel) rfl (fun h => by cases h) (Nat.le_of_ble_eq_true rfl) rfl ?_
  have hm0 := legal_ok hG hW (List.mem_of_getElem? hkk)
  have hm2 := mvOk_lt hm0
  have h445 := legal_len hG
  have h36 := sq36 hG
  have hcap := cap_le hG hm0
  have hk3 := mK_le hm0
  refine ev_aload_0 dX10_move_0 ?_
  refine cg_X10_239 (c_mLooks hm hg hG hW hk0) hm.1 dX10_move_1 rfl (Nat.le_of_ble_eq_true rfl) (fun σ1 h11 => ?_)
  obtain ⟨hk, f1, f72⟩ := h11
  have g11 := f1.now hg
  obtain ⟨r1, r2, r3, r4⟩ := mli0 hk.2 hkk
  refine ev_iload_1 dX10_move_4 ?_
  refine ev_iconst_0 dX10_move_5 ?_
  refine ev_aload_0 dX10_move_6 ?_
  refine gf_X10_36 dX10_move_7 hm.1 rfl ?_
  refine ev_iconst_0 dX10_move_10 ?_
  refine ev_ldk (k := 0) hm.2.2.2.2.2.2.2.2.2.1 rfl rfl (by omega) (by decide) dX10_move_11 ?_
  rw [hk.2.1]
  refine ev_iconst_1 dX10_move_12 ?_
  refine ev_isub dX10_move_13 ?_
  refine cl_X10_61 c_mIn dX10_move_14 rfl (Nat.le_of_ble_eq_true rfl) ?_
  rw [hin]
  refine ev_if_eq (tgt := 30) dX10_move_17 (by decide) (fun h17 => absurd h17 (by decide)) (fun h17 => ?_)
  refine ev_iload_2 dX10_move_20 ?_
  refine ev_iconst_0 dX10_move_21 ?_
  refine ev_bipush_7 dX10_move_22 ?_
  refine cl_X10_61 c_mIn dX10_move_24 rfl (Nat.le_of_ble_eq_true rfl) ?_
  refine ev_if_ne (tgt := 32) dX10_move_27 (by decide) (fun h27 => ?_) (fun h27 => ?_)
  · refine ev_iload_2 dX10_move_32 ?_
    refine ev_tableIn (off := 93) (tgt := 126) dX10_move_33 (by decide) (by decide) (by decide) (by decide) ?_
    refine ev_aload_0 dX10_move_126 ?_
    refine ev_iload_1 dX10_move_127 ?_
    refine cl_X10_245 (c_mPro hm g11 hG hW hk hkk) hm.1 dX10_move_128 rfl (Nat.le_of_ble_eq_true rfl) ?_
    refine ev_if_eq (tgt := 147) dX10_move_131 (by decide) (fun h131 => ?_) (fun h131 => ?_)
    · refine ev_aload_0 dX10_move_147 ?_
      refine ev_iload_1 dX10_move_148 ?_
      refine cl_X10_248 (c_mTyp hm g11 hG hW hk hkk) hm.1 dX10_move_149 rfl (Nat.le_of_ble_eq_true rfl) ?_
      first
      | exact ev_pi dX10_move_152 ⟨by rw [movG, hi]; show _ = movA g m 5; unfold movA; rw [if_neg (by decide), if_neg (by decide), if_neg (by decide), if_neg (by decide), if_neg (by decide), if_pos rfl, tyarr]; exact nI_sub hpp, hk, f1, f72⟩
      | exact ev_pi dX10_move_152 ⟨by rw [movG, hi]; show _ = movA g m 5; unfold movA; have c1 : arrN g m = goerN g m := by { unfold arrN; rw [if_neg (by rw [(b2i_0 _).mp h131]; decide)] }; simp [c1], hk, f1, f72⟩
    · have hpr : proB g m = true := b2i_t h131
      have k0 := (pro_pos hpr).1
      have hpp := (pro_pos hpr).2
      obtain ⟨v1, v2, v3, v4, v5⟩ := mv0 hm0 k0
      have m12 := wf_m hG (q := mA m) (by omega)
      have hty := tyN_lt v3 m12
      have hp6 := (hW.2.2.2.1 _ hty).2
      have hp6b : proN g (tyN (mN g (mA m))) ≤ 6 := hp6
      have htu := tu_le hG
      have tyarr : tyN (arrN g m) = proN g (tyN (mN g (mA m))) - 1 := by
        unfold arrN
        rw [if_pos hpr, goer_0 k0, v4]
        exact ty_man (by omega) htu
      refine ev_aload_0 dX10_move_134 ?_
      refine ev_aload_0 dX10_move_135 ?_
      refine gf_X10_33 dX10_move_136 hm.1 rfl ?_
      refine ev_iload_1 dX10_move_139 ?_
      refine ev_ldk (k := kk) hm.2.2.2.2.2.2.2.2.1 rfl rfl (by omega) (by decide) dX10_move_140 ?_
      rw [r4, show whN g m = tyN (mN g (mA m)) from if_pos k0]
      refine cl_X10_193 (c_mPromo hm g11 hG hW hty) hm.1 dX10_move_141 rfl (Nat.le_of_ble_eq_true rfl) ?_
      refine ev_goto (tgt := 152) dX10_move_144 (by decide) ?_
      first
      | exact ev_pi dX10_move_152 ⟨by rw [movG, hi]; show _ = movA g m 5; unfold movA; rw [if_neg (by decide), if_neg (by decide), if_neg (by decide), if_neg (by decide), if_neg (by decide), if_pos rfl, tyarr]; exact nI_sub hpp, hk, f1, f72⟩
      | exact ev_pi dX10_move_152 ⟨by rw [movG, hi]; show _ = movA g m 5; unfold movA; have c1 : arrN g m = goerN g m := by { unfold arrN; rw [if_neg (by rw [(b2i_0 _).mp h131]; decide)] }; simp [c1], hk, f1, f72⟩
  · exact absurd h27 (by decide)
set_option maxRecDepth 100000 in
set_option maxHeartbeats 4000000 in
theorem c_mMove6 {ae ad : Nat → Nat} {sh : mSh} {σ : mSt} (hm : mModel ad sh) {g : Nat → Int32} (hg : σ.1 62 = g) (hG : wfP g) (hW : wfL g) (hk0 : lkR σ g) {kk m : Nat} (hi : pickG g (nI kk) = some m) (hkk : (legalG g)[kk]? = some m) (hkl : kk < (legalG g).length) (hin : inB (nI kk) 0 (nI (legalG g).length - 1) = true) : Ct yX10_move cX10_move 3 (some .int) 10 0 0 [.ref (ad 61), .int (nI kk), .int 6] ae ad sh σ (mPi ad sh (fun x σ' => x = movG g (nI kk) 6 ∧ mdR σ' g ∧ frM σ σ' ∧ σ'.1 72 = σ.1 72)) := by
  refine Ct.ofL (own := RX10) (ini := false) (ls := [some (.ref (ad 61)), some (.int (nI kk)), some (.int 6)]) (by decide +kernel) rfl (fun h => by cases h) (Nat.le_of_ble_eq_true rfl) rfl ?_
  have hm0 := legal_ok hG hW (List.mem_of_getElem? hkk)
  have hm2 := mvOk_lt hm0
  have h445 := legal_len hG
  have h36 := sq36 hG
  have hcap := cap_le hG hm0
  have hk3 := mK_le hm0
  refine ev_aload_0 dX10_move_0 ?_
  refine cg_X10_239 (c_mLooks hm hg hG hW hk0) hm.1 dX10_move_1 rfl (Nat.le_of_ble_eq_true rfl) (fun σ1 h11 => ?_)
  obtain ⟨hk, f1, f72⟩ := h11
  have g11 := f1.now hg
  obtain ⟨r1, r2, r3, r4⟩ := mli0 hk.2 hkk
  refine ev_iload_1 dX10_move_4 ?_
  refine ev_iconst_0 dX10_move_5 ?_
  refine ev_aload_0 dX10_move_6 ?_
  refine gf_X10_36 dX10_move_7 hm.1 rfl ?_
  refine ev_iconst_0 dX10_move_10 ?_
  refine ev_ldk (k := 0) hm.2.2.2.2.2.2.2.2.2.1 rfl rfl (by omega) (by decide) dX10_move_11 ?_
  rw [hk.2.1]
  refine ev_iconst_1 dX10_move_12 ?_
  refine ev_isub dX10_move_13 ?_
  refine cl_X10_61 c_mIn dX10_move_14 rfl (Nat.le_of_ble_eq_true rfl) ?_
  rw [hin]
  refine ev_if_eq (tgt := 30) dX10_move_17 (by decide) (fun h17 => absurd h17 (by decide)) (fun h17 => ?_)
  refine ev_iload_2 dX10_move_20 ?_
  refine ev_iconst_0 dX10_move_21 ?_
  refine ev_bipush_7 dX10_move_22 ?_
  refine cl_X10_61 c_mIn dX10_move_24 rfl (Nat.le_of_ble_eq_true rfl) ?_
  refine ev_if_ne (tgt := 32) dX10_move_27 (by decide) (fun h27 => ?_) (fun h27 => ?_)
  · refine ev_iload_2 dX10_move_32 ?_
    refine ev_tableOut (tgt := 153) dX10_move_33 (by decide) (by decide) ?_
    refine ev_aload_0 dX10_move_153 ?_
    refine ev_iload_1 dX10_move_154 ?_
    refine ev_iload_2 dX10_move_155 ?_
    refine ev_bipush_7 dX10_move_156 ?_
    refine ev_icmp_ne (tgt := 165) dX10_move_158 (by decide) (fun h158 => ?_) (fun h158 => (by exfalso; revert h158; decide))
    refine ev_iconst_0 dX10_move_165 ?_
    refine cg_X10_251 (c_mAhead0 hm g11 hG hW hk hkk) hm.1 dX10_move_166 rfl (Nat.le_of_ble_eq_true rfl) (fun r2 σ2 h2 => ?_)
    obtain ⟨e2, fh⟩ := h2
    subst e2
    exact ev_pi dX10_move_169 ⟨by rw [movG, hi]; show _ = movA g m 6; unfold movA; simp, hk.H fh, f1.tr (frM.H fh), by rw [fh.1 72 (by decide) (by decide) (by decide) (by decide)]; exact f72⟩
  · exact absurd h27 (by decide)
set_option maxRecDepth 100000 in
set_option maxHeartbeats 4000000 in
theorem c_mMove7 {ae ad : Nat → Nat} {sh : mSh} {σ : mSt} (hm : mModel ad sh) {g : Nat → Int32} (hg : σ.1 62 = g) (hG : wfP g) (hW : wfL g) (hk0 : lkR σ g) {kk m : Nat} (hi : pickG g (nI kk) = some m) (hkk : (legalG g)[kk]? = some m) (hkl : kk < (legalG g).length) (hin : inB (nI kk) 0 (nI (legalG g).length - 1) = true) : Ct yX10_move cX10_move 3 (some .int) 10 0 0 [.ref (ad 61), .int (nI kk), .int 7] ae ad sh σ (mPi ad sh (fun x σ' => x = movG g (nI kk) 7 ∧ mdR σ' g ∧ frM σ σ' ∧ σ'.1 72 = σ.1 72)) := by
  refine Ct.ofL (own := RX10) (ini := false) (ls := [some (.ref (ad 61)), some (.int (nI kk)), some (.int 7)]) (by decide +kernel) rfl (fun h => by cases h) (Nat.le_of_ble_eq_true rfl) rfl ?_
  have hm0 := legal_ok hG hW (List.mem_of_getElem? hkk)
  have hm2 := mvOk_lt hm0
  have h445 := legal_len hG
  have h36 := sq36 hG
  have hcap := cap_le hG hm0
  have hk3 := mK_le hm0
  refine ev_aload_0 dX10_move_0 ?_
  refine cg_X10_239 (c_mLooks hm hg hG hW hk0) hm.1 dX10_move_1 rfl (Nat.le_of_ble_eq_true rfl) (fun σ1 h11 => ?_)
  obtain ⟨hk, f1, f72⟩ := h11
  have g11 := f1.now hg
  obtain ⟨r1, r2, r3, r4⟩ := mli0 hk.2 hkk
  refine ev_iload_1 dX10_move_4 ?_
  refine ev_iconst_0 dX10_move_5 ?_
  refine ev_aload_0 dX10_move_6 ?_
  refine gf_X10_36 dX10_move_7 hm.1 rfl ?_
  refine ev_iconst_0 dX10_move_10 ?_
  refine ev_ldk (k := 0) hm.2.2.2.2.2.2.2.2.2.1 rfl rfl (by omega) (by decide) dX10_move_11 ?_
  rw [hk.2.1]
  refine ev_iconst_1 dX10_move_12 ?_
  refine ev_isub dX10_move_13 ?_
  refine cl_X10_61 c_mIn dX10_move_14 rfl (Nat.le_of_ble_eq_true rfl) ?_
  rw [hin]
  refine ev_if_eq (tgt := 30) dX10_move_17 (by decide) (fun h17 => absurd h17 (by decide)) (fun h17 => ?_)
  refine ev_iload_2 dX10_move_20 ?_
  refine ev_iconst_0 dX10_move_21 ?_
  refine ev_bipush_7 dX10_move_22 ?_
  refine cl_X10_61 c_mIn dX10_move_24 rfl (Nat.le_of_ble_eq_true rfl) ?_
  refine ev_if_ne (tgt := 32) dX10_move_27 (by decide) (fun h27 => ?_) (fun h27 => ?_)
  · refine ev_iload_2 dX10_move_32 ?_
    refine ev_tableOut (tgt := 153) dX10_move_33 (by decide) (by decide) ?_
    refine ev_aload_0 dX10_move_153 ?_
    refine ev_iload_1 dX10_move_154 ?_
    refine ev_iload_2 dX10_move_155 ?_
    refine ev_bipush_7 dX10_move_156 ?_
    refine ev_icmp_ne (tgt := 165) dX10_move_158 (by decide) (fun h158 => absurd h158 (by decide)) (fun h158 => ?_)
    refine ev_iconst_1 dX10_move_161 ?_
    refine ev_goto (tgt := 166) dX10_move_162 (by decide) ?_
    refine cg_X10_251 (c_mAhead1 hm g11 hG hW hk hkk) hm.1 dX10_move_166 rfl (Nat.le_of_ble_eq_true rfl) (fun r2 σ2 h2 => ?_)
    obtain ⟨e2, fh⟩ := h2
    subst e2
    exact ev_pi dX10_move_169 ⟨by rw [movG, hi]; show _ = movA g m 7; unfold movA; simp, hk.H fh, f1.tr (frM.H fh), by rw [fh.1 72 (by decide) (by decide) (by decide) (by decide)]; exact f72⟩
  · exact absurd h27 (by decide)
theorem c_mMove {ae ad : Nat → Nat} {sh : mSh} {σ : mSt} (hm : mModel ad sh) {g : Nat → Int32} (hg : σ.1 62 = g) (hG : wfP g) (hW : wfL g) (hk0 : lkR σ g) {i c : Int32} : Ct yX10_move cX10_move 3 (some .int) 10 0 0 [.ref (ad 61), .int i, .int c] ae ad sh σ (mPi ad sh (fun x σ' => x = movG g i c ∧ mdR σ' g ∧ frM σ σ' ∧ σ'.1 72 = σ.1 72)) := by
  rcases hi : pickG g i with _ | m
  · exact c_mMoveNo hm hg hG hW hk0 hi
  · by_cases hc : c.toInt < 0 ∨ 7 < c.toInt
    · exact c_mMoveN hm hg hG hW hk0 hi hc
    · obtain ⟨kk, ek, hkk, hkl, hin⟩ := pickN_some hG hi
      subst ek
      obtain ⟨k, hk, e⟩ := tab_in (n := 7) (by decide) hc
      subst e
      rcases (show k = 0 ∨ k = 1 ∨ k = 2 ∨ k = 3 ∨ k = 4 ∨ k = 5 ∨ k = 6 ∨ k = 7 by omega) with e | e | e | e | e | e | e | e <;> subst e
      · exact c_mMove0 hm hg hG hW hk0 hi hkk hkl hin
      · exact c_mMove1 hm hg hG hW hk0 hi hkk hkl hin
      · exact c_mMove2 hm hg hG hW hk0 hi hkk hkl hin
      · exact c_mMove3 hm hg hG hW hk0 hi hkk hkl hin
      · exact c_mMove4 hm hg hG hW hk0 hi hkk hkl hin
      · exact c_mMove5 hm hg hG hW hk0 hi hkk hkl hin
      · exact c_mMove6 hm hg hG hW hk0 hi hkk hkl hin
      · exact c_mMove7 hm hg hG hW hk0 hi hkk hkl hin
set_option maxRecDepth 100000 in
set_option maxHeartbeats 4000000 in
theorem c_mStatus {ae ad : Nat → Nat} {sh : mSh} {σ : mSt} (hm : mModel ad sh) {g : Nat → Int32} (hg : σ.1 62 = g) (hG : wfP g) (hW : wfL g) (hk0 : lkR σ g) : Ct yX10_status cX10_status 1 (some .int) 10 0 0 [.ref (ad 61)] ae ad sh σ (mPi ad sh (fun x σ' => x = nI (staG g) ∧ mdR σ' g ∧ frM σ σ' ∧ σ'.1 72 = σ.1 72)) := by
  refine Ct.ofL (own := RX10) (ini := false) (ls := [some (.ref (ad 61))]) (by decide +kernel) rfl (fun h => by cases h) (Nat.le_of_ble_eq_true rfl) rfl ?_
  have h445 := legal_len hG
  refine ev_aload_0 dX10_status_0 ?_
  refine cg_X10_239 (c_mLooks hm hg hG hW hk0) hm.1 dX10_status_1 rfl (Nat.le_of_ble_eq_true rfl) (fun σ1 h11 => ?_)
  obtain ⟨hk, f1, f72⟩ := h11
  have g11 := f1.now hg
  refine ev_aload_0 dX10_status_4 ?_
  refine gf_X10_36 dX10_status_5 hm.1 rfl ?_
  refine ev_iconst_0 dX10_status_8 ?_
  refine ev_ldk (k := 0) hm.2.2.2.2.2.2.2.2.2.1 rfl rfl (by omega) (by decide) dX10_status_9 ?_
  rw [hk.2.1]
  refine ev_if_le (tgt := 17) dX10_status_10 (by decide) (fun h10 => ?_) (fun h10 => ?_)
  · refine ev_aload_0 dX10_status_17 ?_
    refine ev_aload_0 dX10_status_18 ?_
    refine gf_X10_11 dX10_status_19 hm.1 rfl ?_
    refine ev_iconst_0 dX10_status_22 ?_
    refine ev_ldk (k := 0) hm.2.1 g11 rfl (by omega) (by decide) dX10_status_23 ?_
    rw [hG.2.2.2.2.2.1]
    refine cg_X10_216 (c_mSafe hm hG hW (tu_le hG) g11) hm.1 dX10_status_24 rfl (Nat.le_of_ble_eq_true rfl) (fun rs σs hs1 => ?_)
    obtain ⟨s1, s2⟩ := hs1
    subst s1
    have fh := frH.E s2
    refine ev_if_eq (tgt := 34) dX10_status_27 (by decide) (fun h27 => ?_) (fun h27 => ?_)
    · refine ev_iconst_1 dX10_status_34 ?_
      first
      | exact ev_pi dX10_status_35 ⟨by
          have e9 : 0 < (legalG g).length := Nat.pos_of_ne_zero (fun z => h10 (by rw [z]; decide))
          rw [staG, if_pos e9]; rfl, hk, f1, f72⟩
      | exact ev_pi dX10_status_35 ⟨by
          have e9 : ¬ 0 < (legalG g).length := fun z => nI_nle z (by omega) h10
          first
          | (rw [staG, if_neg e9, if_pos (b2i_t h27)]; rfl)
          | (rw [staG, if_neg e9, if_neg (by rw [(b2i_0 _).mp h27]; decide)]; rfl), hk.H fh, f1.tr (frM.H fh), by rw [fh.1 72 (by decide) (by decide) (by decide) (by decide)]; exact f72⟩
    · refine ev_iconst_2 dX10_status_30 ?_
      refine ev_goto (tgt := 35) dX10_status_31 (by decide) ?_
      first
      | exact ev_pi dX10_status_35 ⟨by
          have e9 : 0 < (legalG g).length := Nat.pos_of_ne_zero (fun z => h10 (by rw [z]; decide))
          rw [staG, if_pos e9]; rfl, hk, f1, f72⟩
      | exact ev_pi dX10_status_35 ⟨by
          have e9 : ¬ 0 < (legalG g).length := fun z => nI_nle z (by omega) h10
          first
          | (rw [staG, if_neg e9, if_pos (b2i_t h27)]; rfl)
          | (rw [staG, if_neg e9, if_neg (by rw [(b2i_0 _).mp h27]; decide)]; rfl), hk.H fh, f1.tr (frM.H fh), by rw [fh.1 72 (by decide) (by decide) (by decide) (by decide)]; exact f72⟩
  · refine ev_iconst_0 dX10_status_13 ?_
    refine ev_goto (tgt := 35) dX10_status_14 (by decide) ?_
    first
    | exact ev_pi dX10_status_35 ⟨by
        have e9 : 0 < (legalG g).length := Nat.pos_of_ne_zero (fun z => h10 (by rw [z]; decide))
        rw [staG, if_pos e9]; rfl, hk, f1, f72⟩
    | exact ev_pi dX10_status_35 ⟨by
        have e9 : ¬ 0 < (legalG g).length := fun z => nI_nle z (by omega) h10
        first
        | (rw [staG, if_neg e9, if_pos (b2i_t h27)]; rfl)
        | (rw [staG, if_neg e9, if_neg (by rw [(b2i_0 _).mp h27]; decide)]; rfl), hk.H fh, f1.tr (frM.H fh), by rw [fh.1 72 (by decide) (by decide) (by decide) (by decide)]; exact f72⟩
