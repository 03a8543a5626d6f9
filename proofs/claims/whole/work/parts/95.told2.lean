theorem mdR.W {σ σ' : mSt} {g : Nat → Int32} (hk : mdR σ g) (h : ∀ j, j ≠ 75 → σ'.1 j = σ.1 j) : mdR σ' g := by
  unfold mdR mliR
  rw [h 61 (by decide), h 66 (by decide), h 67 (by decide), h 68 (by decide), h 69 (by decide), h 70 (by decide)]
  exact hk
/-- only the text, the kept position and the directions have changed -/
def frY (σ σ' : mSt) : Prop := (∀ j, j ≠ 61 → j ≠ 71 → j ≠ 73 → j ≠ 74 → j ≠ 75 → σ'.1 j = σ.1 j) ∧ (∀ k, k ≠ 17 → σ'.1 61 k = σ.1 61 k) ∧ σ'.2 = σ.2
theorem frY.md {σ σ' : mSt} {g : Nat → Int32} (hk : mdR σ g) (h : frY σ σ') : mdR σ' g := by
  unfold mdR mliR
  rw [h.2.1 13 (by decide), h.1 66 (by decide) (by decide) (by decide) (by decide) (by decide), h.1 67 (by decide) (by decide) (by decide) (by decide) (by decide), h.1 68 (by decide) (by decide) (by decide) (by decide) (by decide), h.1 69 (by decide) (by decide) (by decide) (by decide) (by decide), h.1 70 (by decide) (by decide) (by decide) (by decide) (by decide)]
  exact hk
theorem frY.M {σ σ' : mSt} (h : frY σ σ') : frM σ σ' := ⟨fun j a b => h.1 j b (by omega) (by omega) (by omega) (by omega), ⟨h.2.1 2 (by decide), h.2.1 4 (by decide)⟩, h.2.2⟩
theorem frY.add {σ σ1 σ2 : mSt} (h : frY σ σ1) (f : ∀ j, j ≠ 75 → σ2.1 j = σ1.1 j) (f2 : σ2.2 = σ1.2) : frY σ σ2 := ⟨fun j a b c d e => (f j e).trans (h.1 j a b c d e), fun k hk => by rw [f 61 (by decide)]; exact h.2.1 k hk, f2.trans h.2.2⟩
theorem c_mAheadY {ae ad : Nat → Nat} {sh : mSh} {σ1 σ : mSt} (hm : mModel ad sh) {g : Nat → Int32} (hg : σ.1 62 = g) (hG : wfP g) (hW : wfL g) (hk : mdR σ1 g) (hf : ∀ j, j ≠ 75 → σ.1 j = σ1.1 j) (hl : σ.2 = σ1.2) {i m : Nat} (hi : (legalG g)[i]? = some m) : Ct yX10_ahead cX10_ahead 4 (some .int) 7 0 0 [.ref (ad 61), .int (nI i), .int 0] ae ad sh σ (mPi ad sh (fun x σ' => x = b2i (chkB g m) ∧ frY σ1 σ' ∧ σ'.1 62 = g ∧ σ'.1 75 = σ.1 75)) :=
  Ct.mono (fun v ad' sh' σ' e => by
    obtain ⟨r, e1, e2, e3, e4, fh⟩ := e
    refine ⟨r, e1, e2, e3, e4, ⟨fun j a b c d z => (fh.1 j a b c d).trans (hf j z), fun k hk => (fh.2.1 k hk).trans (by rw [hf 61 (by decide)]), fh.2.2.trans hl⟩, (fh.1 62 (by decide) (by decide) (by decide) (by decide)).trans hg, fh.1 75 (by decide) (by decide) (by decide) (by decide)⟩) (c_mAhead0 hm hg hG hW (hk.W hf) hi)

set_option maxRecDepth 100000 in
set_option maxHeartbeats 4000000 in
theorem c_mToldNo {ae ad : Nat → Nat} {sh : mSh} {σ : mSt} (hm : mModel ad sh) {g : Nat → Int32} (hg : σ.1 62 = g) (hG : wfP g) (hW : wfL g) (hk0 : lkR σ g) {i c : Int32} (hi : pickG g i = none) : Ct yX10_told cX10_told 5 (some .int) 10 0 0 [.ref (ad 61), .int i, .int c] ae ad sh σ (mPi ad sh (fun x σ' => x = tolG g i c ∧ mdR σ' g ∧ frM σ σ' ∧ σ'.1 72 = σ.1 72)) := by
  refine Ct.ofL (own := RX10) (ini := false) (ls := [some (.ref (ad 61)), some (.int i), some (.int c), none, none]) (by decide +kernel) rfl (fun h => by cases h) (Nat.le_of_ble_eq_true rfl) rfl ?_
  refine ev_aload_0 dX10_told_0 ?_
  refine cg_X10_239 (c_mLooks hm hg hG hW hk0) hm.1 dX10_told_1 rfl (Nat.le_of_ble_eq_true rfl) (fun σ1 h11 => ?_)
  obtain ⟨hk, f1, f72⟩ := h11
  have g1 := f1.now hg
  refine ev_iload_1 dX10_told_4 ?_
  refine ev_iconst_0 dX10_told_5 ?_
  refine ev_aload_0 dX10_told_6 ?_
  refine gf_X10_36 dX10_told_7 hm.1 rfl ?_
  refine ev_iconst_0 dX10_told_10 ?_
  refine ev_ldk (k := 0) hm.2.2.2.2.2.2.2.2.2.1 rfl rfl (by omega) (by decide) dX10_told_11 ?_
  rw [hk.2.1]
  refine ev_iconst_1 dX10_told_12 ?_
  refine ev_isub dX10_told_13 ?_
  refine cl_X10_61 c_mIn dX10_told_14 rfl (Nat.le_of_ble_eq_true rfl) ?_
  rw [pickN_none hG hi]
  refine ev_if_ne (tgt := 22) dX10_told_17 (by decide) (fun h17 => absurd h17 (by decide)) (fun h17 => ?_)
  refine ev_iconst_m1 dX10_told_20 ?_
  exact ev_pi dX10_told_21 ⟨by rw [tolG, hi], hk, f1, f72⟩
set_option maxRecDepth 100000 in
set_option maxHeartbeats 4000000 in
theorem c_mTold0 {ae ad : Nat → Nat} {sh : mSh} {σ : mSt} (hm : mModel ad sh) {g : Nat → Int32} (hg : σ.1 62 = g) (hG : wfP g) (hW : wfL g) (hk0 : lkR σ g) {c : Int32} {kk m : Nat} (hi : pickG g (nI kk) = some m) (hkk : (legalG g)[kk]? = some m) (hkl : kk < (legalG g).length) (hin : inB (nI kk) 0 (nI (legalG g).length - 1) = true) (hkm : mK m = 0) : Ct yX10_told cX10_told 5 (some .int) 10 0 0 [.ref (ad 61), .int (nI kk), .int c] ae ad sh σ (mPi ad sh (fun x σ' => x = tolG g (nI kk) c ∧ mdR σ' g ∧ frM σ σ' ∧ σ'.1 72 = σ.1 72)) := by
  refine Ct.ofL (own := RX10) (ini := false) (ls := [some (.ref (ad 61)), some (.int (nI kk)), some (.int c), none, none]) (by decide +kernel) rfl (fun h => by cases h) (Nat.le_of_ble_eq_true rfl) rfl ?_
  have hm0 := legal_ok hG hW (List.mem_of_getElem? hkk)
  have h445 := legal_len hG
  have h36 := sq36 hG
  have htu := tu_le hG
  have hgo := goer_le hG hW hm0
  have har := arr_ge hG hW hm0
  have har2 := arr_le hG hW hm0
  obtain ⟨v1, v2, v3, v4, v5⟩ := mv0 hm0 hkm
  have m12 := wf_m hG (q := mA m) (by omega)
  have hty := tyN_lt v3 m12
  have hgw : 6 * tuN g + (tyN (mN g (mA m))) = goerN g m - 1 := by
    rw [goer_0 hkm, ← v4]
    unfold tyN sdN
    split <;> omega
  refine ev_aload_0 dX10_told_0 ?_
  refine cg_X10_239 (c_mLooks hm hg hG hW hk0) hm.1 dX10_told_1 rfl (Nat.le_of_ble_eq_true rfl) (fun σ1 h11 => ?_)
  obtain ⟨hk, f1, f72⟩ := h11
  have g1 := f1.now hg
  obtain ⟨r1, r2, r3, r4⟩ := mli0 hk.2 hkk
  have r1c : σ1.1 66 kk = 0 := r1.trans (by rw [hkm]; rfl)
  refine ev_iload_1 dX10_told_4 ?_
  refine ev_iconst_0 dX10_told_5 ?_
  refine ev_aload_0 dX10_told_6 ?_
  refine gf_X10_36 dX10_told_7 hm.1 rfl ?_
  refine ev_iconst_0 dX10_told_10 ?_
  refine ev_ldk (k := 0) hm.2.2.2.2.2.2.2.2.2.1 rfl rfl (by omega) (by decide) dX10_told_11 ?_
  rw [hk.2.1]
  refine ev_iconst_1 dX10_told_12 ?_
  refine ev_isub dX10_told_13 ?_
  refine cl_X10_61 c_mIn dX10_told_14 rfl (Nat.le_of_ble_eq_true rfl) ?_
  rw [hin]
  refine ev_if_ne (tgt := 22) dX10_told_17 (by decide) (fun h17 => ?_) (fun h17 => ?_)
  · refine ev_iconst_0 dX10_told_22 ?_
    refine ev_istore_3 dX10_told_23 rfl rfl ?_
    refine ev_bipush_6 dX10_told_24 ?_
    refine ev_aload_0 dX10_told_26 ?_
    refine gf_X10_11 dX10_told_27 hm.1 rfl ?_
    refine ev_iconst_0 dX10_told_30 ?_
    refine ev_ldk (k := 0) hm.2.1 g1 rfl (by omega) (by decide) dX10_told_31 ?_
    rw [hG.2.2.2.2.2.1]
    refine ev_imul dX10_told_32 ?_
    rw [show (6 : Int32) * nI (tuN g) = nI (6 * (tuN g)) from nI_mul (6) (tuN g)]
    refine ev_istore_4 dX10_told_33 rfl rfl ?_
    refine ev_aload_0 dX10_told_35 ?_
    refine gf_X10_24 dX10_told_36 hm.1 rfl ?_
    refine ev_iload_1 dX10_told_39 ?_
    refine ev_ldk (k := kk) hm.2.2.2.2.2.1 rfl rfl (by omega) (by decide) dX10_told_40 ?_
    rw [r1c]
    refine ev_iconst_1 dX10_told_41 ?_
    refine ev_icmp_ne (tgt := 77) dX10_told_42 (by decide) (fun h42 => ?_) (fun h42 => (by exfalso; revert h42; decide))
    refine ev_aload_0 dX10_told_77 ?_
    refine gf_X10_51 dX10_told_78 hm.1 rfl ?_
    refine ev_iload_3 dX10_told_81 ?_
    refine ev_iinc_3 (v := 1) dX10_told_82 (by decide) rfl rfl ?_
    rw [show (0 : Int32) + (1) = 1 from rfl]
    refine ev_iload_4 dX10_told_85 ?_
    refine ev_aload_0 dX10_told_87 ?_
    refine gf_X10_33 dX10_told_88 hm.1 rfl ?_
    refine ev_iload_1 dX10_told_91 ?_
    refine ev_ldk (k := kk) hm.2.2.2.2.2.2.2.2.1 rfl rfl (by omega) (by decide) dX10_told_92 ?_
    rw [r4, show whN g m = tyN (mN g (mA m)) from by unfold whN; rw [if_pos hkm]]
    refine ev_iadd dX10_told_93 ?_
    rw [show nI (6 * (tuN g)) + nI ((tyN (mN g (mA m)))) = nI (6 * (tuN g) + ((tyN (mN g (mA m))))) from nI_add (6 * (tuN g)) ((tyN (mN g (mA m))))]
    rw [show 6 * tuN g + (tyN (mN g (mA m))) = goerN g m - 1 from hgw]
    refine cl_X10_260 (c_mLet hgo.1 hgo.2) dX10_told_94 rfl (Nat.le_of_ble_eq_true rfl) ?_
    refine ev_stk (k := 0) hm.2.2.2.2.2.2.2.2.2.2.2.2.2.2 rfl rfl (by omega) (by decide) dX10_told_97 (fun σ97 hw97 hf97 hl97 => ?_)
    have znow_97 := (hf97 62 (by decide)).trans g1
    have zmany_97 := (hf97 70 (by decide)).trans (Eq.refl _)
    have zkinds_97 := (hf97 66 (by decide)).trans (Eq.refl _)
    have zfroms_97 := (hf97 67 (by decide)).trans (Eq.refl _)
    have ztos_97 := (hf97 68 (by decide)).trans (Eq.refl _)
    have zwhats_97 := (hf97 69 (by decide)).trans (Eq.refl _)
    skip
    refine ev_aload_0 dX10_told_98 ?_
    refine gf_X10_24 dX10_told_99 hm.1 rfl ?_
    refine ev_iload_1 dX10_told_102 ?_
    refine ev_ldk (k := kk) hm.2.2.2.2.2.1 zkinds_97 rfl (by omega) (by decide) dX10_told_103 ?_
    rw [r1c]
    refine ev_if_ne (tgt := 119) dX10_told_104 (by decide) (fun h104 => absurd h104 (by decide)) (fun h104 => ?_)
    refine ev_aload_0 dX10_told_107 ?_
    refine ev_iload_3 dX10_told_108 ?_
    refine ev_aload_0 dX10_told_109 ?_
    refine gf_X10_27 dX10_told_110 hm.1 rfl ?_
    refine ev_iload_1 dX10_told_113 ?_
    refine ev_ldk (k := kk) hm.2.2.2.2.2.2.1 zfroms_97 rfl (by omega) (by decide) dX10_told_114 ?_
    rw [r2, show fromN g m = nI (mA m) from if_pos hkm]
    refine cg_X10_269 (c_mSquare hm znow_97 hG hw97 (n := (1)) (by omega) (q := (mA m)) (by omega)) hm.1 dX10_told_115 rfl (Nat.le_of_ble_eq_true rfl) (fun rq115 σq115 hq115 => ?_)
    obtain ⟨eq115, w3115, f3115, l3115⟩ := hq115
    subst eq115
    have znow_115 := (f3115 62 (by decide)).trans znow_97
    have zmany_115 := (f3115 70 (by decide)).trans zmany_97
    have zkinds_115 := (f3115 66 (by decide)).trans zkinds_97
    have zfroms_115 := (f3115 67 (by decide)).trans zfroms_97
    have ztos_115 := (f3115 68 (by decide)).trans ztos_97
    have zwhats_115 := (f3115 69 (by decide)).trans zwhats_97
    rw [show nI (1 + 2) = 3 from rfl]
    refine ev_istore_3 dX10_told_118 rfl rfl ?_
    refine ev_aload_0 dX10_told_119 ?_
    refine gf_X10_51 dX10_told_120 hm.1 rfl ?_
    refine ev_iload_3 dX10_told_123 ?_
    refine ev_iinc_3 (v := 1) dX10_told_124 (by decide) rfl rfl ?_
    rw [show (3 : Int32) + (1) = 4 from rfl]
    refine ev_aload_0 dX10_told_127 ?_
    refine gf_X10_24 dX10_told_128 hm.1 rfl ?_
    refine ev_iload_1 dX10_told_131 ?_
    refine ev_ldk (k := kk) hm.2.2.2.2.2.1 zkinds_115 rfl (by omega) (by decide) dX10_told_132 ?_
    rw [r1c]
    refine ev_iconst_2 dX10_told_133 ?_
    refine ev_icmp_ne (tgt := 142) dX10_told_134 (by decide) (fun h134 => ?_) (fun h134 => (by exfalso; revert h134; decide))
    refine ev_aload_0 dX10_told_142 ?_
    refine ev_iload_1 dX10_told_143 ?_
    refine cl_X10_242 (c_mCap hm znow_115 hG hW (hk.W (fun j x75 => by rw [f3115 j x75, hf97 j x75])) hkk) hm.1 dX10_told_144 rfl (Nat.le_of_ble_eq_true rfl) ?_
    refine ev_if_eq (tgt := 155) dX10_told_147 (by decide) (fun h147 => ?_) (fun h147 => ?_)
    · have hcp : capN g m = 0 := Classical.not_not.mp (of_decide_eq_false ((b2i_0 _).mp h147))
      refine ev_bipush_45 dX10_told_155 ?_
      refine ev_stk (k := 3) hm.2.2.2.2.2.2.2.2.2.2.2.2.2.2 w3115 rfl (by omega) (by decide) dX10_told_157 (fun σ157 hw157 hf157 hl157 => ?_)
      have znow_157 := (hf157 62 (by decide)).trans znow_115
      have zmany_157 := (hf157 70 (by decide)).trans zmany_115
      have zkinds_157 := (hf157 66 (by decide)).trans zkinds_115
      have zfroms_157 := (hf157 67 (by decide)).trans zfroms_115
      have ztos_157 := (hf157 68 (by decide)).trans ztos_115
      have zwhats_157 := (hf157 69 (by decide)).trans zwhats_115
      skip
      refine ev_aload_0 dX10_told_158 ?_
      refine ev_iload_3 dX10_told_159 ?_
      refine ev_aload_0 dX10_told_160 ?_
      refine gf_X10_30 dX10_told_161 hm.1 rfl ?_
      refine ev_iload_1 dX10_told_164 ?_
      refine ev_ldk (k := kk) hm.2.2.2.2.2.2.2.1 ztos_157 rfl (by omega) (by decide) dX10_told_165 ?_
      rw [r3, show toN g m = nI (mB m) from if_neg (by omega)]
      refine cg_X10_269 (c_mSquare hm znow_157 hG hw157 (n := (4)) (by omega) (q := (mB m)) (by omega)) hm.1 dX10_told_166 rfl (Nat.le_of_ble_eq_true rfl) (fun rq166 σq166 hq166 => ?_)
      obtain ⟨eq166, w3166, f3166, l3166⟩ := hq166
      subst eq166
      have znow_166 := (f3166 62 (by decide)).trans znow_157
      have zmany_166 := (f3166 70 (by decide)).trans zmany_157
      have zkinds_166 := (f3166 66 (by decide)).trans zkinds_157
      have zfroms_166 := (f3166 67 (by decide)).trans zfroms_157
      have ztos_166 := (f3166 68 (by decide)).trans ztos_157
      have zwhats_166 := (f3166 69 (by decide)).trans zwhats_157
      rw [show nI (4 + 2) = 6 from rfl]
      refine ev_istore_3 dX10_told_169 rfl rfl ?_
      refine ev_aload_0 dX10_told_170 ?_
      refine ev_iload_1 dX10_told_171 ?_
      refine cl_X10_245 (c_mPro hm znow_166 hG hW (hk.W (fun j x75 => by rw [f3166 j x75, hf157 j x75, f3115 j x75, hf97 j x75])) hkk) hm.1 dX10_told_172 rfl (Nat.le_of_ble_eq_true rfl) ?_
      refine ev_if_eq (tgt := 214) dX10_told_175 (by decide) (fun h175 => ?_) (fun h175 => ?_)
      · refine ev_aload_0 dX10_told_214 ?_
        refine ev_iload_1 dX10_told_215 ?_
        refine ev_iconst_0 dX10_told_216 ?_
        refine cg_X10_251 (c_mAheadY hm znow_166 hG hW hk (fun j x75 => by rw [f3166 j x75, hf157 j x75, f3115 j x75, hf97 j x75]) (by rw [l3166, hl157, l3115, hl97]) hkk) hm.1 dX10_told_217 rfl (Nat.le_of_ble_eq_true rfl) (fun ry σy hy => ?_)
        obtain ⟨ey, fy, gy, wy⟩ := hy
        subst ey
        have wy := wy.trans w3166
        refine ev_iconst_1 dX10_told_220 ?_
        refine ev_icmp_ne (tgt := 235) dX10_told_221 (by decide) (fun h221 => ?_) (fun h221 => ?_)
        · have hLw : _ = wrL (σ1.1 75) 0 [nI (leN (goerN g m)), nI (97 + mA m % cN g), nI (49 + mA m / cN g), 45, nI (97 + mB m % cN g), nI (49 + mB m / cN g)] := wy
          refine ev_aload_0 dX10_told_235 ?_
          refine ev_iload_2 dX10_told_236 ?_
          refine ev_iload_3 dX10_told_237 ?_
          refine cl_X10_266 (c_mAns hm hLw (by simp)) hm.1 dX10_told_238 rfl (Nat.le_of_ble_eq_true rfl) ?_
          have hch : chkB g m = false := by
            cases hcx : chkB g m
            · first
              | rfl
              | (rw [hcx] at h221; exact absurd h221 (by decide))
            · first
              | rfl
              | (rw [hcx] at h221; exact absurd rfl h221)
          have hmv : movL g m = [nI (leN (goerN g m)), nI (97 + mA m % cN g), nI (49 + mA m / cN g), 45, nI (97 + mB m % cN g), nI (49 + mB m / cN g)] := by
            unfold movL pmL
            rw [show proB g m = false from (b2i_0 _).mp h175, show chkB g m = false from hch]
            simp [hkm, sqL, hcp]
          exact ev_pi dX10_told_241 ⟨by
            rw [tolG, hi]
            show ansL _ c = ansL (movL g m) c
            rw [hmv], frY.md hk fy, f1.tr (frY.M fy), by rw [(fy).1 72 (by decide) (by decide) (by decide) (by decide) (by decide)]; exact f72⟩
        · skip
          refine ev_aload_0 dX10_told_224 ?_
          refine gf_X10_51 dX10_told_225 hm.1 rfl ?_
          refine ev_iload_3 dX10_told_228 ?_
          refine ev_iinc_3 (v := 1) dX10_told_229 (by decide) rfl rfl ?_
          rw [show (6 : Int32) + (1) = 7 from rfl]
          refine ev_bipush_43 dX10_told_232 ?_
          refine ev_stk (k := 6) hm.2.2.2.2.2.2.2.2.2.2.2.2.2.2 wy rfl (by omega) (by decide) dX10_told_234 (fun σ234 hw234 hf234 hl234 => ?_)
          have znow_234 := (hf234 62 (by decide)).trans gy
          skip
          have hLw : _ = wrL (σ1.1 75) 0 [nI (leN (goerN g m)), nI (97 + mA m % cN g), nI (49 + mA m / cN g), 45, nI (97 + mB m % cN g), nI (49 + mB m / cN g), 43] := hw234
          refine ev_aload_0 dX10_told_235 ?_
          refine ev_iload_2 dX10_told_236 ?_
          refine ev_iload_3 dX10_told_237 ?_
          refine cl_X10_266 (c_mAns hm hLw (by simp)) hm.1 dX10_told_238 rfl (Nat.le_of_ble_eq_true rfl) ?_
          have hch : chkB g m = true := by
            cases hcx : chkB g m
            · first
              | rfl
              | (rw [hcx] at h221; exact absurd h221 (by decide))
            · first
              | rfl
              | (rw [hcx] at h221; exact absurd rfl h221)
          have hmv : movL g m = [nI (leN (goerN g m)), nI (97 + mA m % cN g), nI (49 + mA m / cN g), 45, nI (97 + mB m % cN g), nI (49 + mB m / cN g), 43] := by
            unfold movL pmL
            rw [show proB g m = false from (b2i_0 _).mp h175, show chkB g m = true from hch]
            simp [hkm, sqL, hcp]
          exact ev_pi dX10_told_241 ⟨by
            rw [tolG, hi]
            show ansL _ c = ansL (movL g m) c
            rw [hmv], frY.md hk (fy.add hf234 hl234), f1.tr (frY.M (fy.add hf234 hl234)), by rw [((fy.add hf234 hl234)).1 72 (by decide) (by decide) (by decide) (by decide) (by decide)]; exact f72⟩
      · have hpr : proB g m = true := b2i_t h175
        have hpp := (pro_pos hpr).2
        have hp6 : proN g (tyN (mN g (mA m))) ≤ 6 := (hW.2.2.2.1 _ hty).2
        have harw : 6 * tuN g + (proN g (tyN (mN g (mA m))) - 1) = arrN g m - 1 := by
          unfold arrN
          rw [if_pos hpr, goer_0 hkm, v4]
          omega
        refine ev_aload_0 dX10_told_178 ?_
        refine gf_X10_51 dX10_told_179 hm.1 rfl ?_
        refine ev_iload_3 dX10_told_182 ?_
        refine ev_iinc_3 (v := 1) dX10_told_183 (by decide) rfl rfl ?_
        rw [show (6 : Int32) + (1) = 7 from rfl]
        refine ev_bipush_61 dX10_told_186 ?_
        refine ev_stk (k := 6) hm.2.2.2.2.2.2.2.2.2.2.2.2.2.2 w3166 rfl (by omega) (by decide) dX10_told_188 (fun σ188 hw188 hf188 hl188 => ?_)
        have znow_188 := (hf188 62 (by decide)).trans znow_166
        have zmany_188 := (hf188 70 (by decide)).trans zmany_166
        have zkinds_188 := (hf188 66 (by decide)).trans zkinds_166
        have zfroms_188 := (hf188 67 (by decide)).trans zfroms_166
        have ztos_188 := (hf188 68 (by decide)).trans ztos_166
        have zwhats_188 := (hf188 69 (by decide)).trans zwhats_166
        skip
        refine ev_aload_0 dX10_told_189 ?_
        refine gf_X10_51 dX10_told_190 hm.1 rfl ?_
        refine ev_iload_3 dX10_told_193 ?_
        refine ev_iinc_3 (v := 1) dX10_told_194 (by decide) rfl rfl ?_
        rw [show (7 : Int32) + (1) = 8 from rfl]
        refine ev_iload_4 dX10_told_197 ?_
        refine ev_aload_0 dX10_told_199 ?_
        refine ev_aload_0 dX10_told_200 ?_
        refine gf_X10_33 dX10_told_201 hm.1 rfl ?_
        refine ev_iload_1 dX10_told_204 ?_
        refine ev_ldk (k := kk) hm.2.2.2.2.2.2.2.2.1 zwhats_188 rfl (by omega) (by decide) dX10_told_205 ?_
        rw [r4, show whN g m = tyN (mN g (mA m)) from by unfold whN; rw [if_pos hkm]]
        refine cl_X10_193 (c_mPromo hm znow_188 hG hW hty) hm.1 dX10_told_206 rfl (Nat.le_of_ble_eq_true rfl) ?_
        rw [show nI (proN g (tyN (mN g (mA m)))) - 1 = nI (proN g (tyN (mN g (mA m))) - 1) from nI_sub hpp]
        refine ev_iadd dX10_told_209 ?_
        rw [show nI (6 * (tuN g)) + nI ((proN g (tyN (mN g (mA m))) - 1)) = nI (6 * (tuN g) + ((proN g (tyN (mN g (mA m))) - 1))) from nI_add (6 * (tuN g)) ((proN g (tyN (mN g (mA m))) - 1))]
        rw [show 6 * tuN g + (proN g (tyN (mN g (mA m))) - 1) = arrN g m - 1 from harw]
        refine cl_X10_260 (c_mLet har har2) dX10_told_210 rfl (Nat.le_of_ble_eq_true rfl) ?_
        refine ev_stk (k := 7) hm.2.2.2.2.2.2.2.2.2.2.2.2.2.2 hw188 rfl (by omega) (by decide) dX10_told_213 (fun σ213 hw213 hf213 hl213 => ?_)
        have znow_213 := (hf213 62 (by decide)).trans znow_188
        have zmany_213 := (hf213 70 (by decide)).trans zmany_188
        have zkinds_213 := (hf213 66 (by decide)).trans zkinds_188
        have zfroms_213 := (hf213 67 (by decide)).trans zfroms_188
        have ztos_213 := (hf213 68 (by decide)).trans ztos_188
        have zwhats_213 := (hf213 69 (by decide)).trans zwhats_188
        skip
        refine ev_aload_0 dX10_told_214 ?_
        refine ev_iload_1 dX10_told_215 ?_
        refine ev_iconst_0 dX10_told_216 ?_
        refine cg_X10_251 (c_mAheadY hm znow_213 hG hW hk (fun j x75 => by rw [hf213 j x75, hf188 j x75, f3166 j x75, hf157 j x75, f3115 j x75, hf97 j x75]) (by rw [hl213, hl188, l3166, hl157, l3115, hl97]) hkk) hm.1 dX10_told_217 rfl (Nat.le_of_ble_eq_true rfl) (fun ry σy hy => ?_)
        obtain ⟨ey, fy, gy, wy⟩ := hy
        subst ey
        have wy := wy.trans hw213
        refine ev_iconst_1 dX10_told_220 ?_
        refine ev_icmp_ne (tgt := 235) dX10_told_221 (by decide) (fun h221 => ?_) (fun h221 => ?_)
        · have hLw : _ = wrL (σ1.1 75) 0 [nI (leN (goerN g m)), nI (97 + mA m % cN g), nI (49 + mA m / cN g), 45, nI (97 + mB m % cN g), nI (49 + mB m / cN g), 61, nI (leN (arrN g m))] := wy
          refine ev_aload_0 dX10_told_235 ?_
          refine ev_iload_2 dX10_told_236 ?_
          refine ev_iload_3 dX10_told_237 ?_
          refine cl_X10_266 (c_mAns hm hLw (by simp)) hm.1 dX10_told_238 rfl (Nat.le_of_ble_eq_true rfl) ?_
          have hch : chkB g m = false := by
            cases hcx : chkB g m
            · first
              | rfl
              | (rw [hcx] at h221; exact absurd h221 (by decide))
            · first
              | rfl
              | (rw [hcx] at h221; exact absurd rfl h221)
          have hmv : movL g m = [nI (leN (goerN g m)), nI (97 + mA m % cN g), nI (49 + mA m / cN g), 45, nI (97 + mB m % cN g), nI (49 + mB m / cN g), 61, nI (leN (arrN g m))] := by
            unfold movL pmL
            rw [show proB g m = true from hpr, show chkB g m = false from hch]
            simp [hkm, sqL, hcp]
          exact ev_pi dX10_told_241 ⟨by
            rw [tolG, hi]
            show ansL _ c = ansL (movL g m) c
            rw [hmv], frY.md hk fy, f1.tr (frY.M fy), by rw [(fy).1 72 (by decide) (by decide) (by decide) (by decide) (by decide)]; exact f72⟩
        · skip
          refine ev_aload_0 dX10_told_224 ?_
          refine gf_X10_51 dX10_told_225 hm.1 rfl ?_
          refine ev_iload_3 dX10_told_228 ?_
          refine ev_iinc_3 (v := 1) dX10_told_229 (by decide) rfl rfl ?_
          rw [show (8 : Int32) + (1) = 9 from rfl]
          refine ev_bipush_43 dX10_told_232 ?_
          refine ev_stk (k := 8) hm.2.2.2.2.2.2.2.2.2.2.2.2.2.2 wy rfl (by omega) (by decide) dX10_told_234 (fun σ234 hw234 hf234 hl234 => ?_)
          have znow_234 := (hf234 62 (by decide)).trans gy
          skip
          have hLw : _ = wrL (σ1.1 75) 0 [nI (leN (goerN g m)), nI (97 + mA m % cN g), nI (49 + mA m / cN g), 45, nI (97 + mB m % cN g), nI (49 + mB m / cN g), 61, nI (leN (arrN g m)), 43] := hw234
          refine ev_aload_0 dX10_told_235 ?_
          refine ev_iload_2 dX10_told_236 ?_
          refine ev_iload_3 dX10_told_237 ?_
          refine cl_X10_266 (c_mAns hm hLw (by simp)) hm.1 dX10_told_238 rfl (Nat.le_of_ble_eq_true rfl) ?_
          have hch : chkB g m = true := by
            cases hcx : chkB g m
            · first
              | rfl
              | (rw [hcx] at h221; exact absurd h221 (by decide))
            · first
              | rfl
              | (rw [hcx] at h221; exact absurd rfl h221)
          have hmv : movL g m = [nI (leN (goerN g m)), nI (97 + mA m % cN g), nI (49 + mA m / cN g), 45, nI (97 + mB m % cN g), nI (49 + mB m / cN g), 61, nI (leN (arrN g m)), 43] := by
            unfold movL pmL
            rw [show proB g m = true from hpr, show chkB g m = true from hch]
            simp [hkm, sqL, hcp]
          exact ev_pi dX10_told_241 ⟨by
            rw [tolG, hi]
            show ansL _ c = ansL (movL g m) c
            rw [hmv], frY.md hk (fy.add hf234 hl234), f1.tr (frY.M (fy.add hf234 hl234)), by rw [((fy.add hf234 hl234)).1 72 (by decide) (by decide) (by decide) (by decide) (by decide)]; exact f72⟩
    · have hcp : ¬ capN g m = 0 := of_decide_eq_true (b2i_t h147)
      refine ev_bipush_120 dX10_told_150 ?_
      refine ev_goto (tgt := 157) dX10_told_152 (by decide) ?_
      refine ev_stk (k := 3) hm.2.2.2.2.2.2.2.2.2.2.2.2.2.2 w3115 rfl (by omega) (by decide) dX10_told_157 (fun σ157 hw157 hf157 hl157 => ?_)
      have znow_157 := (hf157 62 (by decide)).trans znow_115
      have zmany_157 := (hf157 70 (by decide)).trans zmany_115
      have zkinds_157 := (hf157 66 (by decide)).trans zkinds_115
      have zfroms_157 := (hf157 67 (by decide)).trans zfroms_115
      have ztos_157 := (hf157 68 (by decide)).trans ztos_115
      have zwhats_157 := (hf157 69 (by decide)).trans zwhats_115
      skip
      refine ev_aload_0 dX10_told_158 ?_
      refine ev_iload_3 dX10_told_159 ?_
      refine ev_aload_0 dX10_told_160 ?_
      refine gf_X10_30 dX10_told_161 hm.1 rfl ?_
      refine ev_iload_1 dX10_told_164 ?_
      refine ev_ldk (k := kk) hm.2.2.2.2.2.2.2.1 ztos_157 rfl (by omega) (by decide) dX10_told_165 ?_
      rw [r3, show toN g m = nI (mB m) from if_neg (by omega)]
      refine cg_X10_269 (c_mSquare hm znow_157 hG hw157 (n := (4)) (by omega) (q := (mB m)) (by omega)) hm.1 dX10_told_166 rfl (Nat.le_of_ble_eq_true rfl) (fun rq166 σq166 hq166 => ?_)
      obtain ⟨eq166, w3166, f3166, l3166⟩ := hq166
      subst eq166
      have znow_166 := (f3166 62 (by decide)).trans znow_157
      have zmany_166 := (f3166 70 (by decide)).trans zmany_157
      have zkinds_166 := (f3166 66 (by decide)).trans zkinds_157
      have zfroms_166 := (f3166 67 (by decide)).trans zfroms_157
      have ztos_166 := (f3166 68 (by decide)).trans ztos_157
      have zwhats_166 := (f3166 69 (by decide)).trans zwhats_157
      rw [show nI (4 + 2) = 6 from rfl]
      refine ev_istore_3 dX10_told_169 rfl rfl ?_
      refine ev_aload_0 dX10_told_170 ?_
      refine ev_iload_1 dX10_told_171 ?_
      refine cl_X10_245 (c_mPro hm znow_166 hG hW (hk.W (fun j x75 => by rw [f3166 j x75, hf157 j x75, f3115 j x75, hf97 j x75])) hkk) hm.1 dX10_told_172 rfl (Nat.le_of_ble_eq_true rfl) ?_
      refine ev_if_eq (tgt := 214) dX10_told_175 (by decide) (fun h175 => ?_) (fun h175 => ?_)
      · refine ev_aload_0 dX10_told_214 ?_
        refine ev_iload_1 dX10_told_215 ?_
        refine ev_iconst_0 dX10_told_216 ?_
        refine cg_X10_251 (c_mAheadY hm znow_166 hG hW hk (fun j x75 => by rw [f3166 j x75, hf157 j x75, f3115 j x75, hf97 j x75]) (by rw [l3166, hl157, l3115, hl97]) hkk) hm.1 dX10_told_217 rfl (Nat.le_of_ble_eq_true rfl) (fun ry σy hy => ?_)
        obtain ⟨ey, fy, gy, wy⟩ := hy
        subst ey
        have wy := wy.trans w3166
        refine ev_iconst_1 dX10_told_220 ?_
        refine ev_icmp_ne (tgt := 235) dX10_told_221 (by decide) (fun h221 => ?_) (fun h221 => ?_)
        · have hLw : _ = wrL (σ1.1 75) 0 [nI (leN (goerN g m)), nI (97 + mA m % cN g), nI (49 + mA m / cN g), 120, nI (97 + mB m % cN g), nI (49 + mB m / cN g)] := wy
          refine ev_aload_0 dX10_told_235 ?_
          refine ev_iload_2 dX10_told_236 ?_
          refine ev_iload_3 dX10_told_237 ?_
          refine cl_X10_266 (c_mAns hm hLw (by simp)) hm.1 dX10_told_238 rfl (Nat.le_of_ble_eq_true rfl) ?_
          have hch : chkB g m = false := by
            cases hcx : chkB g m
            · first
              | rfl
              | (rw [hcx] at h221; exact absurd h221 (by decide))
            · first
              | rfl
              | (rw [hcx] at h221; exact absurd rfl h221)
          have hmv : movL g m = [nI (leN (goerN g m)), nI (97 + mA m % cN g), nI (49 + mA m / cN g), 120, nI (97 + mB m % cN g), nI (49 + mB m / cN g)] := by
            unfold movL pmL
            rw [show proB g m = false from (b2i_0 _).mp h175, show chkB g m = false from hch]
            simp [hkm, sqL, hcp]
          exact ev_pi dX10_told_241 ⟨by
            rw [tolG, hi]
            show ansL _ c = ansL (movL g m) c
            rw [hmv], frY.md hk fy, f1.tr (frY.M fy), by rw [(fy).1 72 (by decide) (by decide) (by decide) (by decide) (by decide)]; exact f72⟩
        · skip
          refine ev_aload_0 dX10_told_224 ?_
          refine gf_X10_51 dX10_told_225 hm.1 rfl ?_
          refine ev_iload_3 dX10_told_228 ?_
          refine ev_iinc_3 (v := 1) dX10_told_229 (by decide) rfl rfl ?_
          rw [show (6 : Int32) + (1) = 7 from rfl]
          refine ev_bipush_43 dX10_told_232 ?_
          refine ev_stk (k := 6) hm.2.2.2.2.2.2.2.2.2.2.2.2.2.2 wy rfl (by omega) (by decide) dX10_told_234 (fun σ234 hw234 hf234 hl234 => ?_)
          have znow_234 := (hf234 62 (by decide)).trans gy
          skip
          have hLw : _ = wrL (σ1.1 75) 0 [nI (leN (goerN g m)), nI (97 + mA m % cN g), nI (49 + mA m / cN g), 120, nI (97 + mB m % cN g), nI (49 + mB m / cN g), 43] := hw234
          refine ev_aload_0 dX10_told_235 ?_
          refine ev_iload_2 dX10_told_236 ?_
          refine ev_iload_3 dX10_told_237 ?_
          refine cl_X10_266 (c_mAns hm hLw (by simp)) hm.1 dX10_told_238 rfl (Nat.le_of_ble_eq_true rfl) ?_
          have hch : chkB g m = true := by
            cases hcx : chkB g m
            · first
              | rfl
              | (rw [hcx] at h221; exact absurd h221 (by decide))
            · first
              | rfl
              | (rw [hcx] at h221; exact absurd rfl h221)
          have hmv : movL g m = [nI (leN (goerN g m)), nI (97 + mA m % cN g), nI (49 + mA m / cN g), 120, nI (97 + mB m % cN g), nI (49 + mB m / cN g), 43] := by
            unfold movL pmL
            rw [show proB g m = false from (b2i_0 _).mp h175, show chkB g m = true from hch]
            simp [hkm, sqL, hcp]
          exact ev_pi dX10_told_241 ⟨by
            rw [tolG, hi]
            show ansL _ c = ansL (movL g m) c
            rw [hmv], frY.md hk (fy.add hf234 hl234), f1.tr (frY.M (fy.add hf234 hl234)), by rw [((fy.add hf234 hl234)).1 72 (by decide) (by decide) (by decide) (by decide) (by decide)]; exact f72⟩
      · have hpr : proB g m = true := b2i_t h175
        have hpp := (pro_pos hpr).2
        have hp6 : proN g (tyN (mN g (mA m))) ≤ 6 := (hW.2.2.2.1 _ hty).2
        have harw : 6 * tuN g + (proN g (tyN (mN g (mA m))) - 1) = arrN g m - 1 := by
          unfold arrN
          rw [if_pos hpr, goer_0 hkm, v4]
          omega
        refine ev_aload_0 dX10_told_178 ?_
        refine gf_X10_51 dX10_told_179 hm.1 rfl ?_
        refine ev_iload_3 dX10_told_182 ?_
        refine ev_iinc_3 (v := 1) dX10_told_183 (by decide) rfl rfl ?_
        rw [show (6 : Int32) + (1) = 7 from rfl]
        refine ev_bipush_61 dX10_told_186 ?_
        refine ev_stk (k := 6) hm.2.2.2.2.2.2.2.2.2.2.2.2.2.2 w3166 rfl (by omega) (by decide) dX10_told_188 (fun σ188 hw188 hf188 hl188 => ?_)
        have znow_188 := (hf188 62 (by decide)).trans znow_166
        have zmany_188 := (hf188 70 (by decide)).trans zmany_166
        have zkinds_188 := (hf188 66 (by decide)).trans zkinds_166
        have zfroms_188 := (hf188 67 (by decide)).trans zfroms_166
        have ztos_188 := (hf188 68 (by decide)).trans ztos_166
        have zwhats_188 := (hf188 69 (by decide)).trans zwhats_166
        skip
        refine ev_aload_0 dX10_told_189 ?_
        refine gf_X10_51 dX10_told_190 hm.1 rfl ?_
        refine ev_iload_3 dX10_told_193 ?_
        refine ev_iinc_3 (v := 1) dX10_told_194 (by decide) rfl rfl ?_
        rw [show (7 : Int32) + (1) = 8 from rfl]
        refine ev_iload_4 dX10_told_197 ?_
        refine ev_aload_0 dX10_told_199 ?_
        refine ev_aload_0 dX10_told_200 ?_
        refine gf_X10_33 dX10_told_201 hm.1 rfl ?_
        refine ev_iload_1 dX10_told_204 ?_
        refine ev_ldk (k := kk) hm.2.2.2.2.2.2.2.2.1 zwhats_188 rfl (by omega) (by decide) dX10_told_205 ?_
        rw [r4, show whN g m = tyN (mN g (mA m)) from by unfold whN; rw [if_pos hkm]]
        refine cl_X10_193 (c_mPromo hm znow_188 hG hW hty) hm.1 dX10_told_206 rfl (Nat.le_of_ble_eq_true rfl) ?_
        rw [show nI (proN g (tyN (mN g (mA m)))) - 1 = nI (proN g (tyN (mN g (mA m))) - 1) from nI_sub hpp]
        refine ev_iadd dX10_told_209 ?_
        rw [show nI (6 * (tuN g)) + nI ((proN g (tyN (mN g (mA m))) - 1)) = nI (6 * (tuN g) + ((proN g (tyN (mN g (mA m))) - 1))) from nI_add (6 * (tuN g)) ((proN g (tyN (mN g (mA m))) - 1))]
        rw [show 6 * tuN g + (proN g (tyN (mN g (mA m))) - 1) = arrN g m - 1 from harw]
        refine cl_X10_260 (c_mLet har har2) dX10_told_210 rfl (Nat.le_of_ble_eq_true rfl) ?_
        refine ev_stk (k := 7) hm.2.2.2.2.2.2.2.2.2.2.2.2.2.2 hw188 rfl (by omega) (by decide) dX10_told_213 (fun σ213 hw213 hf213 hl213 => ?_)
        have znow_213 := (hf213 62 (by decide)).trans znow_188
        have zmany_213 := (hf213 70 (by decide)).trans zmany_188
        have zkinds_213 := (hf213 66 (by decide)).trans zkinds_188
        have zfroms_213 := (hf213 67 (by decide)).trans zfroms_188
        have ztos_213 := (hf213 68 (by decide)).trans ztos_188
        have zwhats_213 := (hf213 69 (by decide)).trans zwhats_188
        skip
        refine ev_aload_0 dX10_told_214 ?_
        refine ev_iload_1 dX10_told_215 ?_
        refine ev_iconst_0 dX10_told_216 ?_
        refine cg_X10_251 (c_mAheadY hm znow_213 hG hW hk (fun j x75 => by rw [hf213 j x75, hf188 j x75, f3166 j x75, hf157 j x75, f3115 j x75, hf97 j x75]) (by rw [hl213, hl188, l3166, hl157, l3115, hl97]) hkk) hm.1 dX10_told_217 rfl (Nat.le_of_ble_eq_true rfl) (fun ry σy hy => ?_)
        obtain ⟨ey, fy, gy, wy⟩ := hy
        subst ey
        have wy := wy.trans hw213
        refine ev_iconst_1 dX10_told_220 ?_
        refine ev_icmp_ne (tgt := 235) dX10_told_221 (by decide) (fun h221 => ?_) (fun h221 => ?_)
        · have hLw : _ = wrL (σ1.1 75) 0 [nI (leN (goerN g m)), nI (97 + mA m % cN g), nI (49 + mA m / cN g), 120, nI (97 + mB m % cN g), nI (49 + mB m / cN g), 61, nI (leN (arrN g m))] := wy
          refine ev_aload_0 dX10_told_235 ?_
          refine ev_iload_2 dX10_told_236 ?_
          refine ev_iload_3 dX10_told_237 ?_
          refine cl_X10_266 (c_mAns hm hLw (by simp)) hm.1 dX10_told_238 rfl (Nat.le_of_ble_eq_true rfl) ?_
          have hch : chkB g m = false := by
            cases hcx : chkB g m
            · first
              | rfl
              | (rw [hcx] at h221; exact absurd h221 (by decide))
            · first
              | rfl
              | (rw [hcx] at h221; exact absurd rfl h221)
          have hmv : movL g m = [nI (leN (goerN g m)), nI (97 + mA m % cN g), nI (49 + mA m / cN g), 120, nI (97 + mB m % cN g), nI (49 + mB m / cN g), 61, nI (leN (arrN g m))] := by
            unfold movL pmL
            rw [show proB g m = true from hpr, show chkB g m = false from hch]
            simp [hkm, sqL, hcp]
          exact ev_pi dX10_told_241 ⟨by
            rw [tolG, hi]
            show ansL _ c = ansL (movL g m) c
            rw [hmv], frY.md hk fy, f1.tr (frY.M fy), by rw [(fy).1 72 (by decide) (by decide) (by decide) (by decide) (by decide)]; exact f72⟩
        · skip
          refine ev_aload_0 dX10_told_224 ?_
          refine gf_X10_51 dX10_told_225 hm.1 rfl ?_
          refine ev_iload_3 dX10_told_228 ?_
          refine ev_iinc_3 (v := 1) dX10_told_229 (by decide) rfl rfl ?_
          rw [show (8 : Int32) + (1) = 9 from rfl]
          refine ev_bipush_43 dX10_told_232 ?_
          refine ev_stk (k := 8) hm.2.2.2.2.2.2.2.2.2.2.2.2.2.2 wy rfl (by omega) (by decide) dX10_told_234 (fun σ234 hw234 hf234 hl234 => ?_)
          have znow_234 := (hf234 62 (by decide)).trans gy
          skip
          have hLw : _ = wrL (σ1.1 75) 0 [nI (leN (goerN g m)), nI (97 + mA m % cN g), nI (49 + mA m / cN g), 120, nI (97 + mB m % cN g), nI (49 + mB m / cN g), 61, nI (leN (arrN g m)), 43] := hw234
          refine ev_aload_0 dX10_told_235 ?_
          refine ev_iload_2 dX10_told_236 ?_
          refine ev_iload_3 dX10_told_237 ?_
          refine cl_X10_266 (c_mAns hm hLw (by simp)) hm.1 dX10_told_238 rfl (Nat.le_of_ble_eq_true rfl) ?_
          have hch : chkB g m = true := by
            cases hcx : chkB g m
            · first
              | rfl
              | (rw [hcx] at h221; exact absurd h221 (by decide))
            · first
              | rfl
              | (rw [hcx] at h221; exact absurd rfl h221)
          have hmv : movL g m = [nI (leN (goerN g m)), nI (97 + mA m % cN g), nI (49 + mA m / cN g), 120, nI (97 + mB m % cN g), nI (49 + mB m / cN g), 61, nI (leN (arrN g m)), 43] := by
            unfold movL pmL
            rw [show proB g m = true from hpr, show chkB g m = true from hch]
            simp [hkm, sqL, hcp]
          exact ev_pi dX10_told_241 ⟨by
            rw [tolG, hi]
            show ansL _ c = ansL (movL g m) c
            rw [hmv], frY.md hk (fy.add hf234 hl234), f1.tr (frY.M (fy.add hf234 hl234)), by rw [((fy.add hf234 hl234)).1 72 (by decide) (by decide) (by decide) (by decide) (by decide)]; exact f72⟩
  · exact absurd h17 (by decide)
set_option maxRecDepth 100000 in
set_option maxHeartbeats 4000000 in
theorem c_mTold1 {ae ad : Nat → Nat} {sh : mSh} {σ : mSt} (hm : mModel ad sh) {g : Nat → Int32} (hg : σ.1 62 = g) (hG : wfP g) (hW : wfL g) (hk0 : lkR σ g) {c : Int32} {kk m : Nat} (hi : pickG g (nI kk) = some m) (hkk : (legalG g)[kk]? = some m) (hkl : kk < (legalG g).length) (hin : inB (nI kk) 0 (nI (legalG g).length - 1) = true) (hkm : mK m = 1) : Ct yX10_told cX10_told 5 (some .int) 10 0 0 [.ref (ad 61), .int (nI kk), .int c] ae ad sh σ (mPi ad sh (fun x σ' => x = tolG g (nI kk) c ∧ mdR σ' g ∧ frM σ σ' ∧ σ'.1 72 = σ.1 72)) := by
  refine Ct.ofL (own := RX10) (ini := false) (ls := [some (.ref (ad 61)), some (.int (nI kk)), some (.int c), none, none]) (by decide +kernel) rfl (fun h => by cases h) (Nat.le_of_ble_eq_true rfl) rfl ?_
  have hm0 := legal_ok hG hW (List.mem_of_getElem? hkk)
  have h445 := legal_len hG
  have h36 := sq36 hG
  have htu := tu_le hG
  have hgo := goer_le hG hW hm0
  have har := arr_ge hG hW hm0
  have har2 := arr_le hG hW hm0
  have hpb : proB g m = false := by unfold proB; rw [decide_eq_false (by omega)]; rfl
  obtain ⟨v1, _⟩ := mv1 hm0 hkm
  refine ev_aload_0 dX10_told_0 ?_
  refine cg_X10_239 (c_mLooks hm hg hG hW hk0) hm.1 dX10_told_1 rfl (Nat.le_of_ble_eq_true rfl) (fun σ1 h11 => ?_)
  obtain ⟨hk, f1, f72⟩ := h11
  have g1 := f1.now hg
  obtain ⟨r1, r2, r3, r4⟩ := mli0 hk.2 hkk
  have r1c : σ1.1 66 kk = 1 := r1.trans (by rw [hkm]; rfl)
  refine ev_iload_1 dX10_told_4 ?_
  refine ev_iconst_0 dX10_told_5 ?_
  refine ev_aload_0 dX10_told_6 ?_
  refine gf_X10_36 dX10_told_7 hm.1 rfl ?_
  refine ev_iconst_0 dX10_told_10 ?_
  refine ev_ldk (k := 0) hm.2.2.2.2.2.2.2.2.2.1 rfl rfl (by omega) (by decide) dX10_told_11 ?_
  rw [hk.2.1]
  refine ev_iconst_1 dX10_told_12 ?_
  refine ev_isub dX10_told_13 ?_
  refine cl_X10_61 c_mIn dX10_told_14 rfl (Nat.le_of_ble_eq_true rfl) ?_
  rw [hin]
  refine ev_if_ne (tgt := 22) dX10_told_17 (by decide) (fun h17 => ?_) (fun h17 => ?_)
  · refine ev_iconst_0 dX10_told_22 ?_
    refine ev_istore_3 dX10_told_23 rfl rfl ?_
    refine ev_bipush_6 dX10_told_24 ?_
    refine ev_aload_0 dX10_told_26 ?_
    refine gf_X10_11 dX10_told_27 hm.1 rfl ?_
    refine ev_iconst_0 dX10_told_30 ?_
    refine ev_ldk (k := 0) hm.2.1 g1 rfl (by omega) (by decide) dX10_told_31 ?_
    rw [hG.2.2.2.2.2.1]
    refine ev_imul dX10_told_32 ?_
    rw [show (6 : Int32) * nI (tuN g) = nI (6 * (tuN g)) from nI_mul (6) (tuN g)]
    refine ev_istore_4 dX10_told_33 rfl rfl ?_
    refine ev_aload_0 dX10_told_35 ?_
    refine gf_X10_24 dX10_told_36 hm.1 rfl ?_
    refine ev_iload_1 dX10_told_39 ?_
    refine ev_ldk (k := kk) hm.2.2.2.2.2.1 rfl rfl (by omega) (by decide) dX10_told_40 ?_
    rw [r1c]
    refine ev_iconst_1 dX10_told_41 ?_
    refine ev_icmp_ne (tgt := 77) dX10_told_42 (by decide) (fun h42 => absurd h42 (by decide)) (fun h42 => ?_)
    refine ev_aload_0 dX10_told_45 ?_
    refine gf_X10_51 dX10_told_46 hm.1 rfl ?_
    refine ev_iload_3 dX10_told_49 ?_
    refine ev_iinc_3 (v := 1) dX10_told_50 (by decide) rfl rfl ?_
    rw [show (0 : Int32) + (1) = 1 from rfl]
    refine ev_bipush_79 dX10_told_53 ?_
    refine ev_stk (k := 0) hm.2.2.2.2.2.2.2.2.2.2.2.2.2.2 rfl rfl (by omega) (by decide) dX10_told_55 (fun σ55 hw55 hf55 hl55 => ?_)
    have znow_55 := (hf55 62 (by decide)).trans g1
    have zmany_55 := (hf55 70 (by decide)).trans (Eq.refl _)
    have zkinds_55 := (hf55 66 (by decide)).trans (Eq.refl _)
    have zfroms_55 := (hf55 67 (by decide)).trans (Eq.refl _)
    have ztos_55 := (hf55 68 (by decide)).trans (Eq.refl _)
    have zwhats_55 := (hf55 69 (by decide)).trans (Eq.refl _)
    skip
    refine ev_aload_0 dX10_told_56 ?_
    refine gf_X10_51 dX10_told_57 hm.1 rfl ?_
    refine ev_iload_3 dX10_told_60 ?_
    refine ev_iinc_3 (v := 1) dX10_told_61 (by decide) rfl rfl ?_
    rw [show (1 : Int32) + (1) = 2 from rfl]
    refine ev_bipush_48 dX10_told_64 ?_
    refine ev_aload_0 dX10_told_66 ?_
    refine gf_X10_33 dX10_told_67 hm.1 rfl ?_
    refine ev_iload_1 dX10_told_70 ?_
    refine ev_ldk (k := kk) hm.2.2.2.2.2.2.2.2.1 zwhats_55 rfl (by omega) (by decide) dX10_told_71 ?_
    rw [r4, show whN g m = mA m from by unfold whN; rw [if_neg (by omega)]]
    refine ev_iadd dX10_told_72 ?_
    rw [show (48 : Int32) + nI ((mA m)) = nI (48 + ((mA m))) from nI_add (48) ((mA m))]
    refine ev_stk (k := 1) hm.2.2.2.2.2.2.2.2.2.2.2.2.2.2 hw55 rfl (by omega) (by decide) dX10_told_73 (fun σ73 hw73 hf73 hl73 => ?_)
    have znow_73 := (hf73 62 (by decide)).trans znow_55
    have zmany_73 := (hf73 70 (by decide)).trans zmany_55
    have zkinds_73 := (hf73 66 (by decide)).trans zkinds_55
    have zfroms_73 := (hf73 67 (by decide)).trans zfroms_55
    have ztos_73 := (hf73 68 (by decide)).trans ztos_55
    have zwhats_73 := (hf73 69 (by decide)).trans zwhats_55
    skip
    refine ev_goto (tgt := 170) dX10_told_74 (by decide) ?_
    refine ev_aload_0 dX10_told_170 ?_
    refine ev_iload_1 dX10_told_171 ?_
    refine cl_X10_245 (c_mPro hm znow_73 hG hW (hk.W (fun j x75 => by rw [hf73 j x75, hf55 j x75])) hkk) hm.1 dX10_told_172 rfl (Nat.le_of_ble_eq_true rfl) ?_
    refine ev_if_eq (tgt := 214) dX10_told_175 (by decide) (fun h175 => ?_) (fun h175 => absurd (by rw [hpb]; rfl) h175)
    refine ev_aload_0 dX10_told_214 ?_
    refine ev_iload_1 dX10_told_215 ?_
    refine ev_iconst_0 dX10_told_216 ?_
    refine cg_X10_251 (c_mAheadY hm znow_73 hG hW hk (fun j x75 => by rw [hf73 j x75, hf55 j x75]) (by rw [hl73, hl55]) hkk) hm.1 dX10_told_217 rfl (Nat.le_of_ble_eq_true rfl) (fun ry σy hy => ?_)
    obtain ⟨ey, fy, gy, wy⟩ := hy
    subst ey
    have wy := wy.trans hw73
    refine ev_iconst_1 dX10_told_220 ?_
    refine ev_icmp_ne (tgt := 235) dX10_told_221 (by decide) (fun h221 => ?_) (fun h221 => ?_)
    · have hLw : _ = wrL (σ1.1 75) 0 [79, nI (48 + mA m)] := wy
      refine ev_aload_0 dX10_told_235 ?_
      refine ev_iload_2 dX10_told_236 ?_
      refine ev_iload_3 dX10_told_237 ?_
      refine cl_X10_266 (c_mAns hm hLw (by simp)) hm.1 dX10_told_238 rfl (Nat.le_of_ble_eq_true rfl) ?_
      have hch : chkB g m = false := by
        cases hcx : chkB g m
        · first
          | rfl
          | (rw [hcx] at h221; exact absurd h221 (by decide))
        · first
          | rfl
          | (rw [hcx] at h221; exact absurd rfl h221)
      have hmv : movL g m = [79, nI (48 + mA m)] := by
        unfold movL pmL
        rw [hpb, show chkB g m = false from hch]
        simp [hkm, sqL]
      exact ev_pi dX10_told_241 ⟨by
        rw [tolG, hi]
        show ansL _ c = ansL (movL g m) c
        rw [hmv], frY.md hk fy, f1.tr (frY.M fy), by rw [(fy).1 72 (by decide) (by decide) (by decide) (by decide) (by decide)]; exact f72⟩
    · skip
      refine ev_aload_0 dX10_told_224 ?_
      refine gf_X10_51 dX10_told_225 hm.1 rfl ?_
      refine ev_iload_3 dX10_told_228 ?_
      refine ev_iinc_3 (v := 1) dX10_told_229 (by decide) rfl rfl ?_
      rw [show (2 : Int32) + (1) = 3 from rfl]
      refine ev_bipush_43 dX10_told_232 ?_
      refine ev_stk (k := 2) hm.2.2.2.2.2.2.2.2.2.2.2.2.2.2 wy rfl (by omega) (by decide) dX10_told_234 (fun σ234 hw234 hf234 hl234 => ?_)
      have znow_234 := (hf234 62 (by decide)).trans gy
      skip
      have hLw : _ = wrL (σ1.1 75) 0 [79, nI (48 + mA m), 43] := hw234
      refine ev_aload_0 dX10_told_235 ?_
      refine ev_iload_2 dX10_told_236 ?_
      refine ev_iload_3 dX10_told_237 ?_
      refine cl_X10_266 (c_mAns hm hLw (by simp)) hm.1 dX10_told_238 rfl (Nat.le_of_ble_eq_true rfl) ?_
      have hch : chkB g m = true := by
        cases hcx : chkB g m
        · first
          | rfl
          | (rw [hcx] at h221; exact absurd h221 (by decide))
        · first
          | rfl
          | (rw [hcx] at h221; exact absurd rfl h221)
      have hmv : movL g m = [79, nI (48 + mA m), 43] := by
        unfold movL pmL
        rw [hpb, show chkB g m = true from hch]
        simp [hkm, sqL]
      exact ev_pi dX10_told_241 ⟨by
        rw [tolG, hi]
        show ansL _ c = ansL (movL g m) c
        rw [hmv], frY.md hk (fy.add hf234 hl234), f1.tr (frY.M (fy.add hf234 hl234)), by rw [((fy.add hf234 hl234)).1 72 (by decide) (by decide) (by decide) (by decide) (by decide)]; exact f72⟩
  · exact absurd h17 (by decide)
set_option maxRecDepth 100000 in
set_option maxHeartbeats 4000000 in
theorem c_mTold2 {ae ad : Nat → Nat} {sh : mSh} {σ : mSt} (hm : mModel ad sh) {g : Nat → Int32} (hg : σ.1 62 = g) (hG : wfP g) (hW : wfL g) (hk0 : lkR σ g) {c : Int32} {kk m : Nat} (hi : pickG g (nI kk) = some m) (hkk : (legalG g)[kk]? = some m) (hkl : kk < (legalG g).length) (hin : inB (nI kk) 0 (nI (legalG g).length - 1) = true) (hkm : mK m = 2) : Ct yX10_told cX10_told 5 (some .int) 10 0 0 [.ref (ad 61), .int (nI kk), .int c] ae ad sh σ (mPi ad sh (fun x σ' => x = tolG g (nI kk) c ∧ mdR σ' g ∧ frM σ σ' ∧ σ'.1 72 = σ.1 72)) := by
  refine Ct.ofL (own := RX10) (ini := false) (ls := [some (.ref (ad 61)), some (.int (nI kk)), some (.int c), none, none]) (by decide +kernel) rfl (fun h => by cases h) (Nat.le_of_ble_eq_true rfl) rfl ?_
  have hm0 := legal_ok hG hW (List.mem_of_getElem? hkk)
  have h445 := legal_len hG
  have h36 := sq36 hG
  have htu := tu_le hG
  have hgo := goer_le hG hW hm0
  have har := arr_ge hG hW hm0
  have har2 := arr_le hG hW hm0
  have hpb : proB g m = false := by unfold proB; rw [decide_eq_false (by omega)]; rfl
  obtain ⟨v1, v2, v3, v4⟩ := mv2 hm0 hkm
  have hgw : 6 * tuN g + mA m = goerN g m - 1 := by
    unfold goerN
    rw [if_neg (by omega), if_neg (by omega)]
    omega
  refine ev_aload_0 dX10_told_0 ?_
  refine cg_X10_239 (c_mLooks hm hg hG hW hk0) hm.1 dX10_told_1 rfl (Nat.le_of_ble_eq_true rfl) (fun σ1 h11 => ?_)
  obtain ⟨hk, f1, f72⟩ := h11
  have g1 := f1.now hg
  obtain ⟨r1, r2, r3, r4⟩ := mli0 hk.2 hkk
  have r1c : σ1.1 66 kk = 2 := r1.trans (by rw [hkm]; rfl)
  refine ev_iload_1 dX10_told_4 ?_
  refine ev_iconst_0 dX10_told_5 ?_
  refine ev_aload_0 dX10_told_6 ?_
  refine gf_X10_36 dX10_told_7 hm.1 rfl ?_
  refine ev_iconst_0 dX10_told_10 ?_
  refine ev_ldk (k := 0) hm.2.2.2.2.2.2.2.2.2.1 rfl rfl (by omega) (by decide) dX10_told_11 ?_
  rw [hk.2.1]
  refine ev_iconst_1 dX10_told_12 ?_
  refine ev_isub dX10_told_13 ?_
  refine cl_X10_61 c_mIn dX10_told_14 rfl (Nat.le_of_ble_eq_true rfl) ?_
  rw [hin]
  refine ev_if_ne (tgt := 22) dX10_told_17 (by decide) (fun h17 => ?_) (fun h17 => ?_)
  · refine ev_iconst_0 dX10_told_22 ?_
    refine ev_istore_3 dX10_told_23 rfl rfl ?_
    refine ev_bipush_6 dX10_told_24 ?_
    refine ev_aload_0 dX10_told_26 ?_
    refine gf_X10_11 dX10_told_27 hm.1 rfl ?_
    refine ev_iconst_0 dX10_told_30 ?_
    refine ev_ldk (k := 0) hm.2.1 g1 rfl (by omega) (by decide) dX10_told_31 ?_
    rw [hG.2.2.2.2.2.1]
    refine ev_imul dX10_told_32 ?_
    rw [show (6 : Int32) * nI (tuN g) = nI (6 * (tuN g)) from nI_mul (6) (tuN g)]
    refine ev_istore_4 dX10_told_33 rfl rfl ?_
    refine ev_aload_0 dX10_told_35 ?_
    refine gf_X10_24 dX10_told_36 hm.1 rfl ?_
    refine ev_iload_1 dX10_told_39 ?_
    refine ev_ldk (k := kk) hm.2.2.2.2.2.1 rfl rfl (by omega) (by decide) dX10_told_40 ?_
    rw [r1c]
    refine ev_iconst_1 dX10_told_41 ?_
    refine ev_icmp_ne (tgt := 77) dX10_told_42 (by decide) (fun h42 => ?_) (fun h42 => (by exfalso; revert h42; decide))
    refine ev_aload_0 dX10_told_77 ?_
    refine gf_X10_51 dX10_told_78 hm.1 rfl ?_
    refine ev_iload_3 dX10_told_81 ?_
    refine ev_iinc_3 (v := 1) dX10_told_82 (by decide) rfl rfl ?_
    rw [show (0 : Int32) + (1) = 1 from rfl]
    refine ev_iload_4 dX10_told_85 ?_
    refine ev_aload_0 dX10_told_87 ?_
    refine gf_X10_33 dX10_told_88 hm.1 rfl ?_
    refine ev_iload_1 dX10_told_91 ?_
    refine ev_ldk (k := kk) hm.2.2.2.2.2.2.2.2.1 rfl rfl (by omega) (by decide) dX10_told_92 ?_
    rw [r4, show whN g m = mA m from by unfold whN; rw [if_neg (by omega)]]
    refine ev_iadd dX10_told_93 ?_
    rw [show nI (6 * (tuN g)) + nI ((mA m)) = nI (6 * (tuN g) + ((mA m))) from nI_add (6 * (tuN g)) ((mA m))]
    rw [show 6 * tuN g + (mA m) = goerN g m - 1 from hgw]
    refine cl_X10_260 (c_mLet hgo.1 hgo.2) dX10_told_94 rfl (Nat.le_of_ble_eq_true rfl) ?_
    refine ev_stk (k := 0) hm.2.2.2.2.2.2.2.2.2.2.2.2.2.2 rfl rfl (by omega) (by decide) dX10_told_97 (fun σ97 hw97 hf97 hl97 => ?_)
    have znow_97 := (hf97 62 (by decide)).trans g1
    have zmany_97 := (hf97 70 (by decide)).trans (Eq.refl _)
    have zkinds_97 := (hf97 66 (by decide)).trans (Eq.refl _)
    have zfroms_97 := (hf97 67 (by decide)).trans (Eq.refl _)
    have ztos_97 := (hf97 68 (by decide)).trans (Eq.refl _)
    have zwhats_97 := (hf97 69 (by decide)).trans (Eq.refl _)
    skip
    refine ev_aload_0 dX10_told_98 ?_
    refine gf_X10_24 dX10_told_99 hm.1 rfl ?_
    refine ev_iload_1 dX10_told_102 ?_
    refine ev_ldk (k := kk) hm.2.2.2.2.2.1 zkinds_97 rfl (by omega) (by decide) dX10_told_103 ?_
    rw [r1c]
    refine ev_if_ne (tgt := 119) dX10_told_104 (by decide) (fun h104 => ?_) (fun h104 => (by exfalso; revert h104; decide))
    refine ev_aload_0 dX10_told_119 ?_
    refine gf_X10_51 dX10_told_120 hm.1 rfl ?_
    refine ev_iload_3 dX10_told_123 ?_
    refine ev_iinc_3 (v := 1) dX10_told_124 (by decide) rfl rfl ?_
    rw [show (1 : Int32) + (1) = 2 from rfl]
    refine ev_aload_0 dX10_told_127 ?_
    refine gf_X10_24 dX10_told_128 hm.1 rfl ?_
    refine ev_iload_1 dX10_told_131 ?_
    refine ev_ldk (k := kk) hm.2.2.2.2.2.1 zkinds_97 rfl (by omega) (by decide) dX10_told_132 ?_
    rw [r1c]
    refine ev_iconst_2 dX10_told_133 ?_
    refine ev_icmp_ne (tgt := 142) dX10_told_134 (by decide) (fun h134 => absurd h134 (by decide)) (fun h134 => ?_)
    skip
    refine ev_bipush_64 dX10_told_137 ?_
    refine ev_goto (tgt := 157) dX10_told_139 (by decide) ?_
    refine ev_stk (k := 1) hm.2.2.2.2.2.2.2.2.2.2.2.2.2.2 hw97 rfl (by omega) (by decide) dX10_told_157 (fun σ157 hw157 hf157 hl157 => ?_)
    have znow_157 := (hf157 62 (by decide)).trans znow_97
    have zmany_157 := (hf157 70 (by decide)).trans zmany_97
    have zkinds_157 := (hf157 66 (by decide)).trans zkinds_97
    have zfroms_157 := (hf157 67 (by decide)).trans zfroms_97
    have ztos_157 := (hf157 68 (by decide)).trans ztos_97
    have zwhats_157 := (hf157 69 (by decide)).trans zwhats_97
    skip
    refine ev_aload_0 dX10_told_158 ?_
    refine ev_iload_3 dX10_told_159 ?_
    refine ev_aload_0 dX10_told_160 ?_
    refine gf_X10_30 dX10_told_161 hm.1 rfl ?_
    refine ev_iload_1 dX10_told_164 ?_
    refine ev_ldk (k := kk) hm.2.2.2.2.2.2.2.1 ztos_157 rfl (by omega) (by decide) dX10_told_165 ?_
    rw [r3, show toN g m = nI (mB m) from if_neg (by omega)]
    refine cg_X10_269 (c_mSquare hm znow_157 hG hw157 (n := (2)) (by omega) (q := (mB m)) (by omega)) hm.1 dX10_told_166 rfl (Nat.le_of_ble_eq_true rfl) (fun rq166 σq166 hq166 => ?_)
    obtain ⟨eq166, w3166, f3166, l3166⟩ := hq166
    subst eq166
    have znow_166 := (f3166 62 (by decide)).trans znow_157
    have zmany_166 := (f3166 70 (by decide)).trans zmany_157
    have zkinds_166 := (f3166 66 (by decide)).trans zkinds_157
    have zfroms_166 := (f3166 67 (by decide)).trans zfroms_157
    have ztos_166 := (f3166 68 (by decide)).trans ztos_157
    have zwhats_166 := (f3166 69 (by decide)).trans zwhats_157
    rw [show nI (2 + 2) = 4 from rfl]
    refine ev_istore_3 dX10_told_169 rfl rfl ?_
    refine ev_aload_0 dX10_told_170 ?_
    refine ev_iload_1 dX10_told_171 ?_
    refine cl_X10_245 (c_mPro hm znow_166 hG hW (hk.W (fun j x75 => by rw [f3166 j x75, hf157 j x75, hf97 j x75])) hkk) hm.1 dX10_told_172 rfl (Nat.le_of_ble_eq_true rfl) ?_
    refine ev_if_eq (tgt := 214) dX10_told_175 (by decide) (fun h175 => ?_) (fun h175 => absurd (by rw [hpb]; rfl) h175)
    refine ev_aload_0 dX10_told_214 ?_
    refine ev_iload_1 dX10_told_215 ?_
    refine ev_iconst_0 dX10_told_216 ?_
    refine cg_X10_251 (c_mAheadY hm znow_166 hG hW hk (fun j x75 => by rw [f3166 j x75, hf157 j x75, hf97 j x75]) (by rw [l3166, hl157, hl97]) hkk) hm.1 dX10_told_217 rfl (Nat.le_of_ble_eq_true rfl) (fun ry σy hy => ?_)
    obtain ⟨ey, fy, gy, wy⟩ := hy
    subst ey
    have wy := wy.trans w3166
    refine ev_iconst_1 dX10_told_220 ?_
    refine ev_icmp_ne (tgt := 235) dX10_told_221 (by decide) (fun h221 => ?_) (fun h221 => ?_)
    · have hLw : _ = wrL (σ1.1 75) 0 [nI (leN (goerN g m)), 64, nI (97 + mB m % cN g), nI (49 + mB m / cN g)] := wy
      refine ev_aload_0 dX10_told_235 ?_
      refine ev_iload_2 dX10_told_236 ?_
      refine ev_iload_3 dX10_told_237 ?_
      refine cl_X10_266 (c_mAns hm hLw (by simp)) hm.1 dX10_told_238 rfl (Nat.le_of_ble_eq_true rfl) ?_
      have hch : chkB g m = false := by
        cases hcx : chkB g m
        · first
          | rfl
          | (rw [hcx] at h221; exact absurd h221 (by decide))
        · first
          | rfl
          | (rw [hcx] at h221; exact absurd rfl h221)
      have hmv : movL g m = [nI (leN (goerN g m)), 64, nI (97 + mB m % cN g), nI (49 + mB m / cN g)] := by
        unfold movL pmL
        rw [hpb, show chkB g m = false from hch]
        simp [hkm, sqL]
      exact ev_pi dX10_told_241 ⟨by
        rw [tolG, hi]
        show ansL _ c = ansL (movL g m) c
        rw [hmv], frY.md hk fy, f1.tr (frY.M fy), by rw [(fy).1 72 (by decide) (by decide) (by decide) (by decide) (by decide)]; exact f72⟩
    · skip
      refine ev_aload_0 dX10_told_224 ?_
      refine gf_X10_51 dX10_told_225 hm.1 rfl ?_
      refine ev_iload_3 dX10_told_228 ?_
      refine ev_iinc_3 (v := 1) dX10_told_229 (by decide) rfl rfl ?_
      rw [show (4 : Int32) + (1) = 5 from rfl]
      refine ev_bipush_43 dX10_told_232 ?_
      refine ev_stk (k := 4) hm.2.2.2.2.2.2.2.2.2.2.2.2.2.2 wy rfl (by omega) (by decide) dX10_told_234 (fun σ234 hw234 hf234 hl234 => ?_)
      have znow_234 := (hf234 62 (by decide)).trans gy
      skip
      have hLw : _ = wrL (σ1.1 75) 0 [nI (leN (goerN g m)), 64, nI (97 + mB m % cN g), nI (49 + mB m / cN g), 43] := hw234
      refine ev_aload_0 dX10_told_235 ?_
      refine ev_iload_2 dX10_told_236 ?_
      refine ev_iload_3 dX10_told_237 ?_
      refine cl_X10_266 (c_mAns hm hLw (by simp)) hm.1 dX10_told_238 rfl (Nat.le_of_ble_eq_true rfl) ?_
      have hch : chkB g m = true := by
        cases hcx : chkB g m
        · first
          | rfl
          | (rw [hcx] at h221; exact absurd h221 (by decide))
        · first
          | rfl
          | (rw [hcx] at h221; exact absurd rfl h221)
      have hmv : movL g m = [nI (leN (goerN g m)), 64, nI (97 + mB m % cN g), nI (49 + mB m / cN g), 43] := by
        unfold movL pmL
        rw [hpb, show chkB g m = true from hch]
        simp [hkm, sqL]
      exact ev_pi dX10_told_241 ⟨by
        rw [tolG, hi]
        show ansL _ c = ansL (movL g m) c
        rw [hmv], frY.md hk (fy.add hf234 hl234), f1.tr (frY.M (fy.add hf234 hl234)), by rw [((fy.add hf234 hl234)).1 72 (by decide) (by decide) (by decide) (by decide) (by decide)]; exact f72⟩
  · exact absurd h17 (by decide)
theorem c_mTold {ae ad : Nat → Nat} {sh : mSh} {σ : mSt} (hm : mModel ad sh) {g : Nat → Int32} (hg : σ.1 62 = g) (hG : wfP g) (hW : wfL g) (hk0 : lkR σ g) {i c : Int32} : Ct yX10_told cX10_told 5 (some .int) 10 0 0 [.ref (ad 61), .int i, .int c] ae ad sh σ (mPi ad sh (fun x σ' => x = tolG g i c ∧ mdR σ' g ∧ frM σ σ' ∧ σ'.1 72 = σ.1 72)) := by
  rcases hi : pickG g i with _ | m
  · exact c_mToldNo hm hg hG hW hk0 hi
  · obtain ⟨kk, ek, hkk, hkl, hin⟩ := pickN_some hG hi
    subst ek
    rcases mK_le (legal_ok hG hW (List.mem_of_getElem? hkk)) with h | h | h
    · exact c_mTold0 hm hg hG hW hk0 hi hkk hkl hin h
    · exact c_mTold1 hm hg hG hW hk0 hi hkk hkl hin h
    · exact c_mTold2 hm hg hG hW hk0 hi hkk hkl hin h
