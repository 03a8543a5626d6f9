theorem c_mPlayM {ae ad : Nat → Nat} {sh : mSh} {σ : mSt} (hm : mModel ad sh) {g : Nat → Int32} (hg : σ.1 62 = g) (hG : wfP g) (hW : wfL g) {f t : Nat} (hf : f < 36) (ht : t < 36) (hm0 : mvOk g (f * 64 + t)) : Ct yX10_plays cX10_plays 10 none 3 0 0 [.ref (ad 61), .int 0, .int (nI f), .int (nI t), .int (nI (tyN (mN g f)))] ae ad sh σ (mPv ad sh (fun σ' => nowR σ σ' (playsG g (f * 64 + t)))) := by
  have h := c_mPlays (ae := ae) hm hg hG hW hm0
  have e : 0 * 4096 + f * 64 + t = f * 64 + t := by omega
  have k := mK_c (k := 0) (a := f) (b := t) (by omega) (by omega)
  rw [e] at k
  obtain ⟨k1, k2, k3⟩ := k
  have e1 : fromN g (f * 64 + t) = nI f := by unfold fromN; rw [if_pos k1, k2]
  have e2 : toN g (f * 64 + t) = nI t := by unfold toN; rw [if_neg (by omega), k3]
  have e3 : whN g (f * 64 + t) = tyN (mN g f) := by unfold whN; rw [if_pos k1, k2]
  rw [e1, e2, e3, k1] at h
  exact h
theorem and_any {A B : Nat → Bool} : setL A &&& setL B = 0 ↔ anyF (fun q => A q && B q) 0 64 = false := by
  rw [setL_and, setL_0, anyF_0]
theorem man_at2 {g : Nat → Int32} {s f : Nat} {T : Nat → Bool} (hf : f < cN g * rN g) : manAtk g s T f = (isOfG g f s && anyF (fun q => atkG g f q && T q) 0 64) := by
  unfold manAtk
  rw [decide_eq_true hf, Bool.true_and]
theorem fst_s {F : Nat → Bool} {i N : Nat} (h : i < N) : fstF F i (N - i) = if F i then nI i else fstF F (i + 1) (N - (i + 1)) := by
  rw [show N - i = (N - (i + 1)) + 1 by omega, fstF]

set_option maxRecDepth 100000 in
set_option maxHeartbeats 4000000 in
theorem c_mPrf_107 {ae ad : Nat → Nat} {sh : mSh} {σ : mSt} (hm : mModel ad sh) {g : Nat → Int32} (hG : wfP g) (hW : wfL g) {s : Nat} (hs : s ≤ 1) {va vb vt : Int32} {Post : mPost} (K : ∀ σ3 : mSt, σ3.1 62 = g → frE σ σ3 → Ev RX10 cX10_proof 9 false (some .int) (mRm 7 0 0) ae Post 161 [some (.ref (ad 61)), some (.int va), some (.int vb), some (.int (nI s)), some (.int vt), some (.int (fstF (manAtk g (1 - s) (royB g s)) 0 (cN g * rN g))), some (.long (setL (royB g s))), none, none] [] 0 0 ad sh σ3) : ∀ i, i ≤ cN g * rN g → ∀ σ2 : mSt, σ2.1 62 = g → frE σ σ2 → Ev RX10 cX10_proof 9 false (some .int) (mRm 7 0 0) ae Post 107 [some (.ref (ad 61)), some (.int va), some (.int vb), some (.int (nI s)), some (.int vt), some (.int (fstF (manAtk g (1 - s) (royB g s)) i (cN g * rN g - i))), some (.long (setL (royB g s))), none, some (.int (nI i - 1))] [] 0 0 ad sh σ2 := by
  have h36 := sq36 hG
  intro i
  induction i with
  | zero =>
    intro hi σ2 hg hfr
    refine ev_iload_8 dX10_proof_107 ?_
    refine ev_if_lt (tgt := 161) dX10_proof_109 (by decide) (fun h109 => ?_) (fun h109 => absurd (by decide) h109)
    refine ev_drop_8 ?_
    exact K _ hg hfr
  | succ i ih =>
    intro hi σ2 hg hfr
    have hlt : i < cN g * rN g := by omega
    have h12 := wf_m hG (q := i) (by omega)
    have e0 : nI (i + 1) - 1 = nI i := by rw [lI1, nI_sub (by omega)]; rfl
    have em : nI i + -1 = nI i - 1 := (Int32.sub_eq_add_neg _ _).symm
    have hma := man_at2 (g := g) (s := 1 - s) (T := royB g s) hlt
    have hfs := fst_s (F := manAtk g (1 - s) (royB g s)) hlt
    rw [e0]
    refine ev_iload_8 dX10_proof_107 ?_
    refine ev_if_lt (tgt := 161) dX10_proof_109 (by decide) (fun h109 => absurd h109 (nI_pos (by omega))) (fun h109 => ?_)
    refine ev_aload_0 dX10_proof_112 ?_
    refine ev_iload_8 dX10_proof_113 ?_
    refine ev_iconst_1 dX10_proof_115 ?_
    refine ev_iload_3 dX10_proof_116 ?_
    refine ev_isub dX10_proof_117 ?_
    rw [show (1 : Int32) - nI s = nI (1 - s) from nI_sub hs]
    refine cl_X10_175 (c_mIsOf hm hg hG (q := (i)) (by omega) (s := (1 - s)) (by omega)) hm.1 dX10_proof_118 rfl (Nat.le_of_ble_eq_true rfl) ?_
    refine ev_if_eq (tgt := 155) dX10_proof_121 (by decide) (fun h121 => ?_) (fun h121 => ?_)
    · refine ev_iinc_8 (v := (-1)) dX10_proof_155 (by decide) rfl rfl ?_
      refine ev_goto (tgt := 107) dX10_proof_158 (by decide) ?_
      have hno : manAtk g (1 - s) (royB g s) i = false := by
        rw [hma]
        first
        | (rw [(b2i_0 _).mp h121, Bool.false_and]; done)
        | (rw [hof, Bool.true_and]
           have eat : (fun q => atkG g i q && royB g s q) = (fun q => goG g (tyN (mN g i)) i (1 - s) (emA g true) (otA g (1 - s) true) q && royB g s q) := by
             funext q; unfold atkG; rw [m2]; rfl
           rw [eat]
           rw [lg_cmp_0, and_any] at h148
           exact h148)
      rw [em]
      refine Ev.to (by rw [hfs, hno, if_neg (by decide)]) rfl rfl (ih (by omega) _ hg hfr)
    · have hof := b2i_t h121
      obtain ⟨m0, m1, m2⟩ := isOf_1 hof
      have hty := tyN_lt m1 h12
      refine ev_aload_0 dX10_proof_124 ?_
      refine ev_aload_0 dX10_proof_125 ?_
      refine ev_iload_8 dX10_proof_126 ?_
      refine cl_X10_69 (c_mMan hm hg hG (q := (i)) (by omega)) hm.1 dX10_proof_128 rfl (Nat.le_of_ble_eq_true rfl) ?_
      refine ev_bipush_6 dX10_proof_131 ?_
      refine ev_irem dX10_proof_133 (show ¬ (6 : Int32) = 0 by decide) ?_
      rw [m1_rem m1 h12]
      refine ev_iload_8 dX10_proof_134 ?_
      refine ev_iconst_1 dX10_proof_136 ?_
      refine ev_iload_3 dX10_proof_137 ?_
      refine ev_isub dX10_proof_138 ?_
      rw [show (1 : Int32) - nI s = nI (1 - s) from nI_sub hs]
      refine ev_iconst_1 dX10_proof_139 ?_
      refine cg_X10_183 (c_mAll1 hm hG hW (s := 1 - s) (by omega) hlt (t := (tyN (mN g i))) hty hg) hm.1 dX10_proof_140 rfl (Nat.le_of_ble_eq_true rfl) (fun r1 σ1 h1140 => ?_)
      obtain ⟨e1, f1140⟩ := h1140
      subst e1
      have znow_140 := (f1140.1 62 (by decide) (by decide) (by decide)).trans hg
      skip
      refine ev_lload_6 dX10_proof_143 ?_
      refine ev_land dX10_proof_145 ?_
      refine ev_lconst_0 dX10_proof_146 ?_
      refine ev_lcmp dX10_proof_147 ?_
      refine ev_if_eq (tgt := 155) dX10_proof_148 (by decide) (fun h148 => ?_) (fun h148 => ?_)
      · refine ev_iinc_8 (v := (-1)) dX10_proof_155 (by decide) rfl rfl ?_
        refine ev_goto (tgt := 107) dX10_proof_158 (by decide) ?_
        have hno : manAtk g (1 - s) (royB g s) i = false := by
          rw [hma]
          first
          | (rw [(b2i_0 _).mp h121, Bool.false_and]; done)
          | (rw [hof, Bool.true_and]
             have eat : (fun q => atkG g i q && royB g s q) = (fun q => goG g (tyN (mN g i)) i (1 - s) (emA g true) (otA g (1 - s) true) q && royB g s q) := by
               funext q; unfold atkG; rw [m2]; rfl
             rw [eat]
             rw [lg_cmp_0, and_any] at h148
             exact h148)
        rw [em]
        refine Ev.to (by rw [hfs, hno, if_neg (by decide)]) rfl rfl (ih (by omega) _ znow_140 (hfr.tr f1140))
      · skip
        refine ev_iload_8 dX10_proof_151 ?_
        refine ev_istore_5 dX10_proof_153 rfl rfl ?_
        refine ev_iinc_8 (v := (-1)) dX10_proof_155 (by decide) rfl rfl ?_
        refine ev_goto (tgt := 107) dX10_proof_158 (by decide) ?_
        have hno : manAtk g (1 - s) (royB g s) i = true := by
          rw [hma]
          first
          | (rw [(b2i_0 _).mp h121, Bool.false_and]; done)
          | (rw [hof, Bool.true_and]
             have eat : (fun q => atkG g i q && royB g s q) = (fun q => goG g (tyN (mN g i)) i (1 - s) (emA g true) (otA g (1 - s) true) q && royB g s q) := by
               funext q; unfold atkG; rw [m2]; rfl
             rw [eat]
             rw [lg_cmp_0, and_any] at h148
             cases hx : anyF (fun q => goG g (tyN (mN g i)) i (1 - s) (emA g true) (otA g (1 - s) true) q && royB g s q) 0 64
             · exact absurd hx h148
             · rfl)
        rw [em]
        refine Ev.to (by rw [hfs, hno, if_pos rfl]) rfl rfl (ih (by omega) _ znow_140 (hfr.tr f1140))
set_option maxRecDepth 100000 in
set_option maxHeartbeats 4000000 in
theorem c_mProofNo {ae ad : Nat → Nat} {sh : mSh} {σ : mSt} (hm : mModel ad sh) {g : Nat → Int32} (hg : σ.1 62 = g) (hG : wfP g) (hW : wfL g) {a b : Int32} (h : ¬ (sqB g a = true ∧ sqB g b = true)) : Ct yX10_proof cX10_proof 9 (some .int) 7 0 0 [.ref (ad 61), .int a, .int b] ae ad sh σ (mPi ad sh (fun x σ' => x = -1 ∧ frH σ σ')) := by
  refine Ct.ofL (own := RX10) (ini := false) (ls := [some (.ref (ad 61)), some (.int a), some (.int b), none, none, none, none, none, none]) (by decide +kernel) rfl (fun h => by cases h) (Nat.le_of_ble_eq_true rfl) rfl ?_
  refine ev_aload_0 dX10_proof_0 ?_
  refine ev_iload_1 dX10_proof_1 ?_
  refine cl_X10_149 (c_mIsSq hm hg hG) hm.1 dX10_proof_2 rfl (Nat.le_of_ble_eq_true rfl) ?_
  refine ev_if_eq (tgt := 16) dX10_proof_5 (by decide) (fun h5 => ?_) (fun h5 => ?_)
  · refine ev_iconst_m1 dX10_proof_16 ?_
    exact ev_pi dX10_proof_17 ⟨rfl, frH.E frE.rf⟩
  · refine ev_aload_0 dX10_proof_8 ?_
    refine ev_iload_2 dX10_proof_9 ?_
    refine cl_X10_149 (c_mIsSq hm hg hG) hm.1 dX10_proof_10 rfl (Nat.le_of_ble_eq_true rfl) ?_
    refine ev_if_ne (tgt := 18) dX10_proof_13 (by decide) (fun h13 => ?_) (fun h13 => ?_)
    · exact absurd ⟨b2i_t h5, b2i_t h13⟩ h
    · refine ev_iconst_m1 dX10_proof_16 ?_
      exact ev_pi dX10_proof_17 ⟨rfl, frH.E frE.rf⟩
set_option maxRecDepth 100000 in
set_option maxHeartbeats 4000000 in
theorem c_mProofS {ae ad : Nat → Nat} {sh : mSh} {σ : mSt} (hm : mModel ad sh) {g : Nat → Int32} (hg : σ.1 62 = g) (hG : wfP g) (hW : wfL g) {f t : Nat} (hf : f < cN g * rN g) (ht : t < cN g * rN g) : Ct yX10_proof cX10_proof 9 (some .int) 7 0 0 [.ref (ad 61), .int (nI f), .int (nI t)] ae ad sh σ (mPi ad sh (fun x σ' => x = prfG g f t ∧ frH σ σ')) := by
  refine Ct.ofL (own := RX10) (ini := false) (ls := [some (.ref (ad 61)), some (.int (nI f)), some (.int (nI t)), none, none, none, none, none, none]) (by decide +kernel) rfl (fun h => by cases h) (Nat.le_of_ble_eq_true rfl) rfl ?_
  have h36 := sq36 hG
  have htu := tu_le hG
  refine ev_aload_0 dX10_proof_0 ?_
  refine ev_iload_1 dX10_proof_1 ?_
  refine cl_X10_149 (c_mIsSq hm hg hG) hm.1 dX10_proof_2 rfl (Nat.le_of_ble_eq_true rfl) ?_
  refine ev_if_eq (tgt := 16) dX10_proof_5 (by decide) (fun h5 => ?_) (fun h5 => ?_)
  · first
    | exact absurd ((b2i_0 _).mp h13) (by rw [sqB_of hG ht]; decide)
    | exact absurd ((b2i_0 _).mp h5) (by rw [sqB_of hG hf]; decide)
  · refine ev_aload_0 dX10_proof_8 ?_
    refine ev_iload_2 dX10_proof_9 ?_
    refine cl_X10_149 (c_mIsSq hm hg hG) hm.1 dX10_proof_10 rfl (Nat.le_of_ble_eq_true rfl) ?_
    refine ev_if_ne (tgt := 18) dX10_proof_13 (by decide) (fun h13 => ?_) (fun h13 => ?_)
    · refine ev_aload_0 dX10_proof_18 ?_
      refine gf_X10_11 dX10_proof_19 hm.1 rfl ?_
      refine ev_iconst_0 dX10_proof_22 ?_
      refine ev_ldk (k := 0) hm.2.1 hg rfl (by omega) (by decide) dX10_proof_23 ?_
      rw [hG.2.2.2.2.2.1]
      refine ev_istore_3 dX10_proof_24 rfl rfl ?_
      refine ev_aload_0 dX10_proof_25 ?_
      refine ev_iload_1 dX10_proof_26 ?_
      refine ev_iload_3 dX10_proof_27 ?_
      refine cl_X10_175 (c_mIsOf hm hg hG (q := (f)) (by omega) htu) hm.1 dX10_proof_28 rfl (Nat.le_of_ble_eq_true rfl) ?_
      refine ev_if_ne (tgt := 37) dX10_proof_31 (by decide) (fun h31 => ?_) (fun h31 => ?_)
      · have hof := b2i_t h31
        obtain ⟨m0, m1, m2⟩ := isOf_1 hof
        have m12 := wf_m hG (q := f) (by omega)
        have hty := tyN_lt m1 m12
        refine ev_aload_0 dX10_proof_37 ?_
        refine ev_iload_1 dX10_proof_38 ?_
        refine cl_X10_69 (c_mMan hm hg hG (q := (f)) (by omega)) hm.1 dX10_proof_39 rfl (Nat.le_of_ble_eq_true rfl) ?_
        refine ev_bipush_6 dX10_proof_42 ?_
        refine ev_irem dX10_proof_44 (show ¬ (6 : Int32) = 0 by decide) ?_
        rw [m1_rem m1 m12]
        refine ev_istore_4 dX10_proof_45 rfl rfl ?_
        refine ev_aload_0 dX10_proof_47 ?_
        refine ev_iload_4 dX10_proof_48 ?_
        refine ev_iload_1 dX10_proof_50 ?_
        refine ev_iload_3 dX10_proof_51 ?_
        refine ev_iconst_0 dX10_proof_52 ?_
        refine cg_X10_183 (c_mAll0 hm hG hW htu hf (t := (tyN (mN g f))) hty hg) hm.1 dX10_proof_53 rfl (Nat.le_of_ble_eq_true rfl) (fun r1 σ1 h153 => ?_)
        obtain ⟨e1, f153⟩ := h153
        subst e1
        have znow_53 := (f153.1 62 (by decide) (by decide) (by decide)).trans hg
        have zbehind_53 := (f153.1 71 (by decide) (by decide) (by decide)).trans (Eq.refl _)
        refine ev_iload_2 dX10_proof_56 ?_
        refine cl_X10_225 (c_mHas (q := (t)) (by omega)) dX10_proof_57 rfl (Nat.le_of_ble_eq_true rfl) ?_
        rw [lb_setL (by omega), show goG g (tyN (mN g f)) f (tuN g) (emA g false) (otA g (tuN g) false) t = tgtG g f t from by
          unfold tgtG
          rw [m2]; rfl]
        refine ev_if_ne (tgt := 66) dX10_proof_60 (by decide) (fun h60 => ?_) (fun h60 => ?_)
        · have htg := b2i_t h60
          have hm0 := tgt_mv hG hf ht hof htg
          refine ev_aload_0 dX10_proof_66 ?_
          refine ev_iconst_0 dX10_proof_67 ?_
          refine cg_X10_210 (c_mKeeps hm (d := 0) (by decide) znow_53 rfl) hm.1 dX10_proof_68 rfl (Nat.le_of_ble_eq_true rfl) (fun σk hk1 => ?_)
          obtain ⟨k1, k2, k3⟩ := hk1
          have znow_68 := (k2 62 (by decide)).trans znow_53
          refine ev_aload_0 dX10_proof_71 ?_
          refine ev_iconst_0 dX10_proof_72 ?_
          refine ev_iload_1 dX10_proof_73 ?_
          refine ev_iload_2 dX10_proof_74 ?_
          refine ev_iload_4 dX10_proof_75 ?_
          refine cg_X10_213 (c_mPlayM hm znow_68 hG hW (by omega) (by omega) hm0) hm.1 dX10_proof_77 rfl (Nat.le_of_ble_eq_true rfl) (fun σp hp1 => ?_)
          obtain ⟨p1, p2, p3⟩ := hp1
          have zbehind_77 := (p2 71 (by decide)).trans k1
          refine ev_bipush_m5 dX10_proof_80 ?_
          refine ev_istore_5 dX10_proof_82 rfl rfl ?_
          refine ev_aload_0 dX10_proof_84 ?_
          refine ev_iload_3 dX10_proof_85 ?_
          refine cg_X10_216 (c_mSafe hm (pl_wfP hG hW hm0) (pl_wfL hG hW hm0) htu p1) hm.1 dX10_proof_86 rfl (Nat.le_of_ble_eq_true rfl) (fun rs σs hs1 => ?_)
          obtain ⟨s1, s2⟩ := hs1
          subst s1
          have znow_86 := (s2.1 62 (by decide) (by decide) (by decide)).trans p1
          have zbehind_86 := (s2.1 71 (by decide) (by decide) (by decide)).trans zbehind_77
          refine ev_if_ne (tgt := 161) dX10_proof_89 (by decide) (fun h89 => ?_) (fun h89 => ?_)
          · have hsafe : safeG (playsG g (f * 64 + t)) (tuN g) = true := b2i_t h89
            refine ev_aload_0 dX10_proof_161 ?_
            refine ev_iconst_0 dX10_proof_162 ?_
            refine cg_X10_219 (c_mAgain hm (d := 0) (by decide) znow_86 zbehind_86) hm.1 dX10_proof_163 rfl (Nat.le_of_ble_eq_true rfl) (fun σa ha1 => ?_)
            obtain ⟨a1, a2, a3⟩ := ha1
            have a1 := a1.trans (again_row (fun k hk => kp_at hk) (fun k hk => pl_hi hk))
            refine ev_iload_5 dX10_proof_166 ?_
            refine ev_pi dX10_proof_168 ⟨by rw [prfG, hof, htg, hsafe]; rfl, fun j x61 x71 x73 x74 => ?_, fun k x17 => ?_, ?_⟩
            · by_cases y : j = 62
              · subst y; exact a1.trans hg.symm
              · rw [a2 j y, s2.1 j x61 x73 x74, p2 j y, k2 j x71]; exact f153.1 j x61 x73 x74
            · rw [a2 61 (by decide)]
              rw [s2.2.1 k x17]
              rw [p2 61 (by decide), k2 61 (by decide)]; exact f153.2.1 k x17
            · rw [a3, s2.2.2, p3, k3]; exact f153.2.2
          · refine ev_aload_0 dX10_proof_92 ?_
            refine ev_iload_3 dX10_proof_93 ?_
            refine cl_X10_186 (c_mRoy hm (pl_wfP hG hW hm0) (pl_wfL hG hW hm0) htu znow_86) hm.1 dX10_proof_94 rfl (Nat.le_of_ble_eq_true rfl) ?_
            refine ev_lstore_6 dX10_proof_97 rfl rfl ?_
            refine ev_aload_0 dX10_proof_99 ?_
            refine cl_X10_65 (c_mSquares hm znow_86 (pl_wfP hG hW hm0)) hm.1 dX10_proof_100 rfl (Nat.le_of_ble_eq_true rfl) ?_
            refine ev_iconst_1 dX10_proof_103 ?_
            refine ev_isub dX10_proof_104 ?_
            refine ev_istore_8 dX10_proof_105 rfl rfl ?_
            have hsafe : safeG (playsG g (f * 64 + t)) (tuN g) = false := (b2i_0 _).mp h89
            have e36 : cN (playsG g (f * 64 + t)) * rN (playsG g (f * 64 + t)) = cN g * rN g := pl_sq2 hG hW
            refine Ev.to (by rw [Nat.sub_self, fstF]) rfl rfl (c_mPrf_107 (σ := σs) (g := playsG g (f * 64 + t)) hm (pl_wfP hG hW hm0) (pl_wfL hG hW hm0) htu (fun σ3 g3 f3 => ?_) _ (Nat.le_refl _) _ znow_86 frE.rf)
            refine ev_aload_0 dX10_proof_161 ?_
            refine ev_iconst_0 dX10_proof_162 ?_
            refine cg_X10_219 (c_mAgain hm (d := 0) (by decide) g3 ((f3.1 71 (by decide) (by decide) (by decide)).trans zbehind_86)) hm.1 dX10_proof_163 rfl (Nat.le_of_ble_eq_true rfl) (fun σa ha1 => ?_)
            obtain ⟨a1, a2, a3⟩ := ha1
            have a1 := a1.trans (again_row (fun k hk => kp_at hk) (fun k hk => pl_hi hk))
            refine ev_iload_5 dX10_proof_166 ?_
            refine ev_pi dX10_proof_168 ⟨by rw [prfG, hof, htg, hsafe, e36]; rfl, fun j x61 x71 x73 x74 => ?_, fun k x17 => ?_, ?_⟩
            · by_cases y : j = 62
              · subst y; exact a1.trans hg.symm
              · rw [a2 j y, f3.1 j x61 x73 x74, s2.1 j x61 x73 x74, p2 j y, k2 j x71]; exact f153.1 j x61 x73 x74
            · rw [a2 61 (by decide)]
              rw [f3.2.1 k x17, s2.2.1 k x17]
              rw [p2 61 (by decide), k2 61 (by decide)]; exact f153.2.1 k x17
            · rw [a3, f3.2.2, s2.2.2, p3, k3]; exact f153.2.2
        · refine ev_bipush_m7 dX10_proof_63 ?_
          first
          | exact ev_pi dX10_proof_65 ⟨by rw [prfG, (b2i_0 _).mp h31]; rfl, frH.E frE.rf⟩
          | exact ev_pi dX10_proof_65 ⟨by rw [prfG, hof, (b2i_0 _).mp h60]; rfl, frH.E f153⟩
      · refine ev_bipush_m6 dX10_proof_34 ?_
        first
        | exact ev_pi dX10_proof_36 ⟨by rw [prfG, (b2i_0 _).mp h31]; rfl, frH.E frE.rf⟩
        | exact ev_pi dX10_proof_36 ⟨by rw [prfG, hof, (b2i_0 _).mp h60]; rfl, frH.E f153⟩
    · first
      | exact absurd ((b2i_0 _).mp h13) (by rw [sqB_of hG ht]; decide)
      | exact absurd ((b2i_0 _).mp h5) (by rw [sqB_of hG hf]; decide)
set_option maxRecDepth 100000 in
set_option maxHeartbeats 4000000 in
theorem c_mAttdNo {ae ad : Nat → Nat} {sh : mSh} {σ : mSt} (hm : mModel ad sh) {x : Int32} (h : isBt x = false) : Ct yX10_attacked cX10_attacked 2 (some .long) 6 0 0 [.ref (ad 61), .int x] ae ad sh σ (mPl ad sh (fun x σ' => x = (-9223372036854775808) ∧ frE σ σ')) := by
  refine Ct.ofL (own := RX10) (ini := false) (ls := [some (.ref (ad 61)), some (.int x)]) (by decide +kernel) rfl (fun h => by cases h) (Nat.le_of_ble_eq_true rfl) rfl ?_
  refine ev_iload_1 dX10_attacked_0 ?_
  refine ev_iconst_0 dX10_attacked_1 ?_
  refine ev_iconst_1 dX10_attacked_2 ?_
  refine cl_X10_61 c_mIn dX10_attacked_3 rfl (Nat.le_of_ble_eq_true rfl) ?_
  refine ev_if_eq (tgt := 17) dX10_attacked_6 (by decide) (fun h6 => ?_) (fun h6 => absurd (by rw [inB_bt, h]; rfl) h6)
  refine ev_ldc2 kc_X10_258 dX10_attacked_17 ?_
  exact ev_pl dX10_attacked_20 ⟨rfl, frE.rf⟩
set_option maxRecDepth 100000 in
set_option maxHeartbeats 4000000 in
theorem c_mAttd {ae ad : Nat → Nat} {sh : mSh} {σ : mSt} (hm : mModel ad sh) {g : Nat → Int32} (hg : σ.1 62 = g) (hG : wfP g) (hW : wfL g) {k : Nat} (hk : k ≤ 1) : Ct yX10_attacked cX10_attacked 2 (some .long) 6 0 0 [.ref (ad 61), .int (nI k)] ae ad sh σ (mPl ad sh (fun x σ' => x = setL (attG g k) ∧ frE σ σ')) := by
  refine Ct.ofL (own := RX10) (ini := false) (ls := [some (.ref (ad 61)), some (.int (nI k))]) (by decide +kernel) rfl (fun h => by cases h) (Nat.le_of_ble_eq_true rfl) rfl ?_
  refine ev_iload_1 dX10_attacked_0 ?_
  refine ev_iconst_0 dX10_attacked_1 ?_
  refine ev_iconst_1 dX10_attacked_2 ?_
  refine cl_X10_61 c_mIn dX10_attacked_3 rfl (Nat.le_of_ble_eq_true rfl) ?_
  refine ev_if_eq (tgt := 17) dX10_attacked_6 (by decide) (fun h6 => absurd h6 (by rw [inB_bt, isBt_of hk]; decide)) (fun h6 => ?_)
  refine ev_aload_0 dX10_attacked_9 ?_
  refine ev_iload_1 dX10_attacked_10 ?_
  refine cg_X10_190 (c_mAtt hm hG hW hk hg) hm.1 dX10_attacked_11 rfl (Nat.le_of_ble_eq_true rfl) (fun r1 σ1 h111 => ?_)
  obtain ⟨e1, f111⟩ := h111
  subst e1
  have znow_11 := (f111.1 62 (by decide) (by decide) (by decide)).trans hg
  refine ev_goto (tgt := 20) dX10_attacked_14 (by decide) ?_
  exact ev_pl dX10_attacked_20 ⟨rfl, f111⟩
set_option maxRecDepth 100000 in
set_option maxHeartbeats 4000000 in
theorem c_mAttrNo1 {ae ad : Nat → Nat} {sh : mSh} {σ : mSt} (hm : mModel ad sh) {g : Nat → Int32} (hg : σ.1 62 = g) (hG : wfP g) (hW : wfL g) {q x : Int32} (h : sqB g q = false) : Ct yX10_attackers cX10_attackers 6 (some .long) 6 0 0 [.ref (ad 61), .int q, .int x] ae ad sh σ (mPl ad sh (fun x σ' => x = (-9223372036854775808) ∧ frE σ σ')) := by
  refine Ct.ofL (own := RX10) (ini := false) (ls := [some (.ref (ad 61)), some (.int q), some (.int x), none, none, none]) (by decide +kernel) rfl (fun h => by cases h) (Nat.le_of_ble_eq_true rfl) rfl ?_
  refine ev_aload_0 dX10_attackers_0 ?_
  refine ev_iload_1 dX10_attackers_1 ?_
  refine cl_X10_149 (c_mIsSq hm hg hG) hm.1 dX10_attackers_2 rfl (Nat.le_of_ble_eq_true rfl) ?_
  refine ev_if_eq (tgt := 17) dX10_attackers_5 (by decide) (fun h5 => ?_) (fun h5 => absurd (by rw [h]; rfl) h5)
  refine ev_ldc2 kc_X10_258 dX10_attackers_17 ?_
  exact ev_pl dX10_attackers_20 ⟨rfl, frE.rf⟩
set_option maxRecDepth 100000 in
set_option maxHeartbeats 4000000 in
theorem c_mAttrNo2 {ae ad : Nat → Nat} {sh : mSh} {σ : mSt} (hm : mModel ad sh) {g : Nat → Int32} (hg : σ.1 62 = g) (hG : wfP g) (hW : wfL g) {q x : Int32} (hq : sqB g q = true) (h : isBt x = false) : Ct yX10_attackers cX10_attackers 6 (some .long) 6 0 0 [.ref (ad 61), .int q, .int x] ae ad sh σ (mPl ad sh (fun x σ' => x = (-9223372036854775808) ∧ frE σ σ')) := by
  refine Ct.ofL (own := RX10) (ini := false) (ls := [some (.ref (ad 61)), some (.int q), some (.int x), none, none, none]) (by decide +kernel) rfl (fun h => by cases h) (Nat.le_of_ble_eq_true rfl) rfl ?_
  refine ev_aload_0 dX10_attackers_0 ?_
  refine ev_iload_1 dX10_attackers_1 ?_
  refine cl_X10_149 (c_mIsSq hm hg hG) hm.1 dX10_attackers_2 rfl (Nat.le_of_ble_eq_true rfl) ?_
  refine ev_if_eq (tgt := 17) dX10_attackers_5 (by decide) (fun h5 => absurd h5 (by rw [hq]; decide)) (fun h5 => ?_)
  refine ev_iload_2 dX10_attackers_8 ?_
  refine ev_iconst_0 dX10_attackers_9 ?_
  refine ev_iconst_1 dX10_attackers_10 ?_
  refine cl_X10_61 c_mIn dX10_attackers_11 rfl (Nat.le_of_ble_eq_true rfl) ?_
  refine ev_if_ne (tgt := 21) dX10_attackers_14 (by decide) (fun h14 => ?_) (fun h14 => ?_)
  · exact absurd (b2i_t h14) (by rw [inB_bt, h]; decide)
  · refine ev_ldc2 kc_X10_258 dX10_attackers_17 ?_
    exact ev_pl dX10_attackers_20 ⟨rfl, frE.rf⟩
theorem atkQ_n {g : Nat → Int32} {q k : Nat} (hq : q < 64) : atkQ g (nI q) k = setL (fun f => decide (f < cN g * rN g) && (isOfG g f k && atkG g f q)) := by
  unfold atkQ
  refine setL_cong (fun f _ => ?_)
  rw [manAtk_eq]
  congr 2
  have e : ∀ z, z < 64 → lb ((1 : Int64) <<< ((nI q).toInt64 &&& 63)) z = decide (z = q) := fun z hz => lb_mBit hq hz
  cases h : atkG g f q
  · rw [anyF_0]
    intro z hz
    rw [e z hz]
    by_cases y : z = q
    · subst y; rw [h]; rfl
    · rw [decide_eq_false y, Bool.and_false]
  · exact anyF_iff.mpr ⟨q, Nat.zero_le _, by omega, by rw [e q hq, h, decide_eq_true rfl]; rfl⟩

set_option maxRecDepth 100000 in
set_option maxHeartbeats 4000000 in
theorem c_mAttr_26 {ae ad : Nat → Nat} {sh : mSh} {σ : mSt} (hm : mModel ad sh) {g : Nat → Int32} (hG : wfP g) (hW : wfL g) {q s : Nat} (hs : s ≤ 1) (hq : q < cN g * rN g) : ∀ (n i : Nat), cN g * rN g - i = n → i ≤ cN g * rN g → ∀ (σ2 : mSt) (acc : Int64), σ2.1 62 = g → frE σ σ2 → (∀ z, z < 64 → lb acc z = (decide (z < i) && (isOfG g z s && atkG g z q))) → Ev RX10 cX10_attackers 6 false (some .long) (mRm 6 0 0) ae (mPl ad sh (fun x σ' => x = atkQ g (nI q) s ∧ frE σ σ')) 26 [some (.ref (ad 61)), some (.int (nI q)), some (.int (nI s)), some (.long acc), none, some (.int (nI i))] [] 0 0 ad sh σ2 := by
  have h36 := sq36 hG
  intro n
  induction n with
  | zero =>
    intro i hn hi σ2 acc hg hfr hacc
    have e : i = cN g * rN g := by omega
    subst e
    refine ev_iload_5 dX10_attackers_26 ?_
    refine ev_aload_0 dX10_attackers_28 ?_
    refine cl_X10_65 (c_mSquares hm hg hG) hm.1 dX10_attackers_29 rfl (Nat.le_of_ble_eq_true rfl) ?_
    refine ev_icmp_ge (tgt := 82) dX10_attackers_32 (by decide) (fun h32 => ?_) (fun h32 => absurd (Int32.le_refl _) h32)
    refine ev_lload_3 dX10_attackers_82 ?_
    exact ev_pl dX10_attackers_83 ⟨by rw [atkQ_n (by omega)]; exact setL_of hacc, hfr⟩
  | succ n ih =>
    intro i hn hi σ2 acc hg hfr hacc
    have hlt : i < cN g * rN g := by omega
    have h12 := wf_m hG (q := i) (by omega)
    have hst : ∀ b : Bool, (isOfG g i s && atkG g i q) = b → ∀ z, (decide (z < i + 1) && (isOfG g z s && atkG g z q)) = ((decide (z < i) && (isOfG g z s && atkG g z q)) || (decide (z = i) && b)) := fun b hb z => by
      have := dec_and (k := z) (i := i) (f := fun z => isOfG g z s && atkG g z q)
      rw [lt_step, this, hb]
    refine ev_iload_5 dX10_attackers_26 ?_
    refine ev_aload_0 dX10_attackers_28 ?_
    refine cl_X10_65 (c_mSquares hm hg hG) hm.1 dX10_attackers_29 rfl (Nat.le_of_ble_eq_true rfl) ?_
    refine ev_icmp_ge (tgt := 82) dX10_attackers_32 (by decide) (fun h32 => absurd h32 (nI_ge hlt (by omega))) (fun h32 => ?_)
    refine ev_aload_0 dX10_attackers_35 ?_
    refine ev_iload_5 dX10_attackers_36 ?_
    refine ev_iload_2 dX10_attackers_38 ?_
    refine cl_X10_175 (c_mIsOf hm hg hG (q := (i)) (by omega) hs) hm.1 dX10_attackers_39 rfl (Nat.le_of_ble_eq_true rfl) ?_
    refine ev_if_eq (tgt := 76) dX10_attackers_42 (by decide) (fun h42 => ?_) (fun h42 => ?_)
    · refine ev_iinc_5 (v := 1) dX10_attackers_76 (by decide) rfl rfl ?_
      rw [show nI i + 1 = nI (i + 1) from nI_add (i) 1]
      refine ev_goto (tgt := 26) dX10_attackers_79 (by decide) ?_
      exact ih (i + 1) (by omega) (by omega) _ _ hg hfr (fun z hz => by
        rw [hst false (by rw [(b2i_0 _).mp h42, Bool.false_and]) z, Bool.and_false, Bool.or_false]; exact hacc z hz)
    · have hof := b2i_t h42
      obtain ⟨m0, m1, m2⟩ := isOf_1 hof
      have hty := tyN_lt m1 h12
      have eat : goG g (tyN (mN g i)) i s (emA g true) (otA g s true) q = atkG g i q := by
        unfold atkG
        rw [m2]; rfl
      refine ev_aload_0 dX10_attackers_45 ?_
      refine ev_aload_0 dX10_attackers_46 ?_
      refine ev_iload_5 dX10_attackers_47 ?_
      refine cl_X10_69 (c_mMan hm hg hG (q := (i)) (by omega)) hm.1 dX10_attackers_49 rfl (Nat.le_of_ble_eq_true rfl) ?_
      refine ev_bipush_6 dX10_attackers_52 ?_
      refine ev_irem dX10_attackers_54 (show ¬ (6 : Int32) = 0 by decide) ?_
      rw [m1_rem m1 h12]
      refine ev_iload_5 dX10_attackers_55 ?_
      refine ev_iload_2 dX10_attackers_57 ?_
      refine ev_iconst_1 dX10_attackers_58 ?_
      refine cg_X10_183 (c_mAll1 hm hG hW hs hlt (t := (tyN (mN g i))) hty hg) hm.1 dX10_attackers_59 rfl (Nat.le_of_ble_eq_true rfl) (fun r1 σ1 h159 => ?_)
      obtain ⟨e1, f159⟩ := h159
      subst e1
      have znow_59 := (f159.1 62 (by decide) (by decide) (by decide)).trans hg
      skip
      refine ev_iload_1 dX10_attackers_62 ?_
      refine cl_X10_225 (c_mHas (q := (q)) (by omega)) dX10_attackers_63 rfl (Nat.le_of_ble_eq_true rfl) ?_
      rw [lb_setL (by omega), eat]
      refine ev_if_eq (tgt := 76) dX10_attackers_66 (by decide) (fun h66 => ?_) (fun h66 => ?_)
      · refine ev_iinc_5 (v := 1) dX10_attackers_76 (by decide) rfl rfl ?_
        rw [show nI i + 1 = nI (i + 1) from nI_add (i) 1]
        refine ev_goto (tgt := 26) dX10_attackers_79 (by decide) ?_
        exact ih (i + 1) (by omega) (by omega) _ _ znow_59 (hfr.tr f159) (fun z hz => by
          rw [hst false (by rw [(b2i_0 _).mp h66, Bool.and_false]) z, Bool.and_false, Bool.or_false]; exact hacc z hz)
      · skip
        refine ev_lload_3 dX10_attackers_69 ?_
        refine ev_lconst_1 dX10_attackers_70 ?_
        refine ev_iload_5 dX10_attackers_71 ?_
        refine ev_lshl dX10_attackers_73 ?_
        refine ev_lor dX10_attackers_74 ?_
        refine ev_lstore_3 dX10_attackers_75 rfl rfl ?_
        refine ev_iinc_5 (v := 1) dX10_attackers_76 (by decide) rfl rfl ?_
        rw [show nI i + 1 = nI (i + 1) from nI_add (i) 1]
        refine ev_goto (tgt := 26) dX10_attackers_79 (by decide) ?_
        exact ih (i + 1) (by omega) (by omega) _ _ znow_59 (hfr.tr f159) (fun z hz => by
          rw [hst true (by rw [hof, b2i_t h66]; rfl) z, Bool.and_true, lb_orA (hacc z hz) (show lb (1 <<< ((nI i).toInt64 &&& 63)) z = decide (z = i) from lb_mBit (by omega) hz)])
set_option maxRecDepth 100000 in
set_option maxHeartbeats 4000000 in
theorem c_mAttr {ae ad : Nat → Nat} {sh : mSh} {σ : mSt} (hm : mModel ad sh) {g : Nat → Int32} (hG : wfP g) (hW : wfL g) {q s : Nat} (hs : s ≤ 1) (hq : q < cN g * rN g) (hg : σ.1 62 = g) : Ct yX10_attackers cX10_attackers 6 (some .long) 6 0 0 [.ref (ad 61), .int (nI q), .int (nI s)] ae ad sh σ (mPl ad sh (fun x σ' => x = atkQ g (nI q) s ∧ frE σ σ')) := by
  refine Ct.ofL (own := RX10) (ini := false) (ls := [some (.ref (ad 61)), some (.int (nI q)), some (.int (nI s)), none, none, none]) (by decide +kernel) rfl (fun h => by cases h) (Nat.le_of_ble_eq_true rfl) rfl ?_
  refine ev_aload_0 dX10_attackers_0 ?_
  refine ev_iload_1 dX10_attackers_1 ?_
  refine cl_X10_149 (c_mIsSq hm hg hG) hm.1 dX10_attackers_2 rfl (Nat.le_of_ble_eq_true rfl) ?_
  refine ev_if_eq (tgt := 17) dX10_attackers_5 (by decide) (fun h5 => ?_) (fun h5 => ?_)
  · first
    | exact absurd ((b2i_0 _).mp h14) (by rw [inB_bt, isBt_of hs]; decide)
    | exact absurd ((b2i_0 _).mp h5) (by rw [sqB_of hG hq]; decide)
  · refine ev_iload_2 dX10_attackers_8 ?_
    refine ev_iconst_0 dX10_attackers_9 ?_
    refine ev_iconst_1 dX10_attackers_10 ?_
    refine cl_X10_61 c_mIn dX10_attackers_11 rfl (Nat.le_of_ble_eq_true rfl) ?_
    refine ev_if_ne (tgt := 21) dX10_attackers_14 (by decide) (fun h14 => ?_) (fun h14 => ?_)
    · refine ev_lconst_0 dX10_attackers_21 ?_
      refine ev_lstore_3 dX10_attackers_22 rfl rfl ?_
      refine ev_iconst_0 dX10_attackers_23 ?_
      refine ev_istore_5 dX10_attackers_24 rfl rfl ?_
      exact c_mAttr_26 hm hG hW hs hq _ 0 rfl (Nat.zero_le _) σ 0 hg frE.rf (fun z _ => by rw [lb_0]; simp)
    · first
      | exact absurd ((b2i_0 _).mp h14) (by rw [inB_bt, isBt_of hs]; decide)
      | exact absurd ((b2i_0 _).mp h5) (by rw [sqB_of hG hq]; decide)
