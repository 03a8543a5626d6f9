theorem inB_f {v lo hi : Int32} (h : v < lo ∨ hi < v) : inB v lo hi = false := decide_eq_false (fun z => h.elim z.1 z.2)
theorem inB_t {v lo hi : Int32} (h : ¬ (v < lo ∨ hi < v)) : inB v lo hi = true := decide_eq_true ⟨fun z => h (Or.inl z), fun z => h (Or.inr z)⟩
theorem inB_n {a b c : Nat} {lo hi : Int32} (e1 : lo = nI b) (e2 : hi = nI c) (h1 : b ≤ a) (h2 : a ≤ c) (hc : c < 2 ^ 31) : inB (nI a) lo hi = true := by
  subst e1; subst e2
  rw [nI_inB (by omega) (by omega) hc]; exact decide_eq_true ⟨h1, h2⟩

set_option maxRecDepth 100000 in
set_option maxHeartbeats 4000000 in
theorem c_mFeedBad {ae ad : Nat → Nat} {sh : mSh} {σ : mSt} (hm : mModel ad sh) {s : Int32} (h : s < 0 ∨ 127 < s) : Ct yX10_feed cX10_feed 2 (some .int) 1 0 0 [.ref (ad 61), .int s] ae ad sh σ (mEq (some (.int (-2))) ad sh σ) := by
  refine Ct.ofL (own := RX10) (ini := false) (ls := [some (.ref (ad 61)), some (.int s)]) (by decide +kernel) rfl (fun h => by cases h) (Nat.le_of_ble_eq_true rfl) rfl ?_
  refine ev_iload_1 dX10_feed_0 ?_
  refine ev_iconst_0 dX10_feed_1 ?_
  refine ev_bipush_127 dX10_feed_2 ?_
  refine cl_X10_61 c_mIn dX10_feed_4 rfl (Nat.le_of_ble_eq_true rfl) ?_
  refine ev_if_ne (tgt := 13) dX10_feed_7 (by decide) (fun h7 => absurd h7 (by rw [inB_f h]; decide)) (fun h7 => ?_)
  refine ev_bipush_m2 dX10_feed_10 ?_
  exact ev_ireturn dX10_feed_12
set_option maxRecDepth 100000 in
set_option maxHeartbeats 4000000 in
theorem c_mFeedFull {ae ad : Nat → Nat} {sh : mSh} {σ : mSt} (hm : mModel ad sh) {tl : Nat} {s : Int32} (h : ¬ (s < 0 ∨ 127 < s)) (ht : σ.1 61 4 = nI tl) (hl : tl = 60) : Ct yX10_feed cX10_feed 2 (some .int) 1 0 0 [.ref (ad 61), .int s] ae ad sh σ (mEq (some (.int (-4))) ad sh σ) := by
  refine Ct.ofL (own := RX10) (ini := false) (ls := [some (.ref (ad 61)), some (.int s)]) (by decide +kernel) rfl (fun h => by cases h) (Nat.le_of_ble_eq_true rfl) rfl ?_
  refine ev_iload_1 dX10_feed_0 ?_
  refine ev_iconst_0 dX10_feed_1 ?_
  refine ev_bipush_127 dX10_feed_2 ?_
  refine cl_X10_61 c_mIn dX10_feed_4 rfl (Nat.le_of_ble_eq_true rfl) ?_
  refine ev_if_ne (tgt := 13) dX10_feed_7 (by decide) (fun h7 => ?_) (fun h7 => ?_)
  · refine ev_aload_0 dX10_feed_13 ?_
    refine gf_X10_85 dX10_feed_14 hm.1 rfl ?_
    rw [ht]
    refine ev_bipush_60 dX10_feed_17 ?_
    refine ev_icmp_ne (tgt := 25) dX10_feed_19 (by decide) (fun h19 => ?_) (fun h19 => ?_)
    · exact absurd (show nI tl = 60 from by rw [hl]; rfl) h19
    · refine ev_bipush_m4 dX10_feed_22 ?_
      exact ev_ireturn dX10_feed_24
  · exact absurd h7 (by rw [inB_t h]; decide)
set_option maxRecDepth 100000 in
set_option maxHeartbeats 4000000 in
theorem c_mFeed {ae ad : Nat → Nat} {sh : mSh} {σ : mSt} (hm : mModel ad sh) {tl : Nat} {s : Int32} (h : ¬ (s < 0 ∨ 127 < s)) (ht : σ.1 61 4 = nI tl) (hl : tl < 60) : Ct yX10_feed cX10_feed 2 (some .int) 1 0 0 [.ref (ad 61), .int s] ae ad sh σ (mPi ad sh (fun x σ' => x = nI (tl + 1) ∧ σ'.1 64 = upd (σ.1 64) tl s ∧ σ'.1 61 = upd (σ.1 61) 4 (nI (tl + 1)) ∧ (∀ j, j ≠ 61 → j ≠ 64 → σ'.1 j = σ.1 j) ∧ σ'.2 = σ.2)) := by
  refine Ct.ofL (own := RX10) (ini := false) (ls := [some (.ref (ad 61)), some (.int s)]) (by decide +kernel) rfl (fun h => by cases h) (Nat.le_of_ble_eq_true rfl) rfl ?_
  refine ev_iload_1 dX10_feed_0 ?_
  refine ev_iconst_0 dX10_feed_1 ?_
  refine ev_bipush_127 dX10_feed_2 ?_
  refine cl_X10_61 c_mIn dX10_feed_4 rfl (Nat.le_of_ble_eq_true rfl) ?_
  refine ev_if_ne (tgt := 13) dX10_feed_7 (by decide) (fun h7 => ?_) (fun h7 => ?_)
  · refine ev_aload_0 dX10_feed_13 ?_
    refine gf_X10_85 dX10_feed_14 hm.1 rfl ?_
    rw [ht]
    refine ev_bipush_60 dX10_feed_17 ?_
    refine ev_icmp_ne (tgt := 25) dX10_feed_19 (by decide) (fun h19 => ?_) (fun h19 => ?_)
    · refine ev_aload_0 dX10_feed_25 ?_
      refine gf_X10_18 dX10_feed_26 hm.1 rfl ?_
      refine ev_aload_0 dX10_feed_29 ?_
      refine ev_dup dX10_feed_30 rfl ?_
      refine gf_X10_85 dX10_feed_31 hm.1 rfl ?_
      rw [ht]
      refine ev_dup_x1 dX10_feed_34 rfl rfl ?_
      refine ev_iconst_1 dX10_feed_35 ?_
      refine ev_iadd dX10_feed_36 ?_
      rw [show nI tl + (1 : Int32) = nI (tl + 1) from nI_add (tl) (1)]
      refine pf_X10_85 dX10_feed_37 hm.1 rfl ?_
      refine ev_abs (fun σ37 hw37 hf37 hl37 => ?_)
      have ztape_37 := (hf37 64 (by decide)).trans (Eq.refl _)
      refine ev_iload_1 dX10_feed_40 ?_
      refine ev_stk (k := tl) hm.2.2.2.1 ztape_37 rfl (by omega) (by decide) dX10_feed_41 (fun σ41 hw41 hf41 hl41 => ?_)
      have zfld_41 := (hf41 61 (by decide)).trans hw37
      refine ev_aload_0 dX10_feed_42 ?_
      refine gf_X10_85 dX10_feed_43 hm.1 rfl ?_
      rw [zfld_41, upd_at]
      refine ev_pi dX10_feed_46 ⟨rfl, hw41, zfld_41, fun j x61 x64 => ?_, ?_⟩
      · rw [hf41 j x64, hf37 j x61]
      · rw [hl41, hl37]
    · exact absurd ((nI_eq (b := 60) (by omega) (by decide)).mp h19) (by omega)
  · exact absurd h7 (by rw [inB_t h]; decide)
set_option maxRecDepth 100000 in
set_option maxHeartbeats 4000000 in
theorem c_mSideNo {ae ad : Nat → Nat} {sh : mSh} {σ : mSt} (hm : mModel ad sh) {s : Int32} (h : isBt s = false) : Ct yX10_side cX10_side 2 (some .int) 4 0 0 [.ref (ad 61), .int s] ae ad sh σ (mEq (some (.int (-2))) ad sh σ) := by
  refine Ct.ofL (own := RX10) (ini := false) (ls := [some (.ref (ad 61)), some (.int s)]) (by decide +kernel) rfl (fun h => by cases h) (Nat.le_of_ble_eq_true rfl) rfl ?_
  refine ev_iload_1 dX10_side_0 ?_
  refine ev_iconst_0 dX10_side_1 ?_
  refine ev_iconst_1 dX10_side_2 ?_
  refine cl_X10_61 c_mIn dX10_side_3 rfl (Nat.le_of_ble_eq_true rfl) ?_
  refine ev_if_eq (tgt := 18) dX10_side_6 (by decide) (fun h6 => ?_) (fun h6 => absurd (by rw [inB_bt, h]; rfl) h6)
  refine ev_bipush_m2 dX10_side_18 ?_
  exact ev_ireturn dX10_side_20
set_option maxRecDepth 100000 in
set_option maxHeartbeats 4000000 in
theorem c_mSide {ae ad : Nat → Nat} {sh : mSh} {σ : mSt} (hm : mModel ad sh) {g : Nat → Int32} (hg : σ.1 62 = g) {k : Nat} (hk : k ≤ 1) (hG1 : wfP (upd g 0 (nI k))) (hW1 : wfL (upd g 0 (nI k))) : Ct yX10_side cX10_side 2 (some .int) 4 0 0 [.ref (ad 61), .int (nI k)] ae ad sh σ (mPi ad sh (fun x σ' => x = g 0 ∧ begR σ σ' (begG (upd g 0 (nI k))))) := by
  refine Ct.ofL (own := RX10) (ini := false) (ls := [some (.ref (ad 61)), some (.int (nI k))]) (by decide +kernel) rfl (fun h => by cases h) (Nat.le_of_ble_eq_true rfl) rfl ?_
  refine ev_iload_1 dX10_side_0 ?_
  refine ev_iconst_0 dX10_side_1 ?_
  refine ev_iconst_1 dX10_side_2 ?_
  refine cl_X10_61 c_mIn dX10_side_3 rfl (Nat.le_of_ble_eq_true rfl) ?_
  refine ev_if_eq (tgt := 18) dX10_side_6 (by decide) (fun h6 => absurd h6 (by rw [inB_bt, isBt_of hk]; decide)) (fun h6 => ?_)
  refine ev_aload_0 dX10_side_9 ?_
  refine ev_iconst_0 dX10_side_10 ?_
  refine ev_iload_1 dX10_side_11 ?_
  refine cg_X10_133 (c_mSets hm hg (k := 0) (v := nI k) (by omega) hG1 hW1) hm.1 dX10_side_12 rfl (Nat.le_of_ble_eq_true rfl) (fun r1 σ1 h1 => ?_)
  obtain ⟨e1, h1⟩ := h1
  refine ev_goto (tgt := 20) dX10_side_15 (by decide) ?_
  exact ev_pi dX10_side_20 ⟨e1, h1⟩
set_option maxRecDepth 100000 in
set_option maxHeartbeats 4000000 in
theorem c_mHandNo {ae ad : Nat → Nat} {sh : mSh} {σ : mSt} (hm : mModel ad sh) {s x n : Int32} (h : ¬ (isBt s = true ∧ isTy x = true)) : Ct yX10_hand cX10_hand 4 (some .int) 4 0 0 [.ref (ad 61), .int s, .int x, .int n] ae ad sh σ (mEq (some (.int (-1))) ad sh σ) := by
  refine Ct.ofL (own := RX10) (ini := false) (ls := [some (.ref (ad 61)), some (.int s), some (.int x), some (.int n)]) (by decide +kernel) rfl (fun h => by cases h) (Nat.le_of_ble_eq_true rfl) rfl ?_
  refine ev_iload_1 dX10_hand_0 ?_
  refine ev_iconst_0 dX10_hand_1 ?_
  refine ev_iconst_1 dX10_hand_2 ?_
  refine cl_X10_61 c_mIn dX10_hand_3 rfl (Nat.le_of_ble_eq_true rfl) ?_
  refine ev_if_eq (tgt := 16) dX10_hand_6 (by decide) (fun h6 => ?_) (fun h6 => ?_)
  · refine ev_iconst_m1 dX10_hand_16 ?_
    exact ev_ireturn dX10_hand_17
  · refine ev_iload_2 dX10_hand_9 ?_
    refine cl_X10_120 c_mIsType dX10_hand_10 rfl (Nat.le_of_ble_eq_true rfl) ?_
    refine ev_if_ne (tgt := 18) dX10_hand_13 (by decide) (fun h13 => ?_) (fun h13 => ?_)
    · exact absurd ⟨(inB_bt s).symm.trans (b2i_t h6), b2i_t h13⟩ h
    · refine ev_iconst_m1 dX10_hand_16 ?_
      exact ev_ireturn dX10_hand_17
set_option maxRecDepth 100000 in
set_option maxHeartbeats 4000000 in
theorem c_mHandBad {ae ad : Nat → Nat} {sh : mSh} {σ : mSt} (hm : mModel ad sh) {n : Int32} {s t : Nat} (hs : s ≤ 1) (ht : t < 6) (h : n < 0 ∨ 9 < n) : Ct yX10_hand cX10_hand 4 (some .int) 4 0 0 [.ref (ad 61), .int (nI s), .int (nI t), .int n] ae ad sh σ (mEq (some (.int (-2))) ad sh σ) := by
  refine Ct.ofL (own := RX10) (ini := false) (ls := [some (.ref (ad 61)), some (.int (nI s)), some (.int (nI t)), some (.int n)]) (by decide +kernel) rfl (fun h => by cases h) (Nat.le_of_ble_eq_true rfl) rfl ?_
  refine ev_iload_1 dX10_hand_0 ?_
  refine ev_iconst_0 dX10_hand_1 ?_
  refine ev_iconst_1 dX10_hand_2 ?_
  refine cl_X10_61 c_mIn dX10_hand_3 rfl (Nat.le_of_ble_eq_true rfl) ?_
  refine ev_if_eq (tgt := 16) dX10_hand_6 (by decide) (fun h6 => ?_) (fun h6 => ?_)
  · first
    | exact absurd ((b2i_0 _).mp h6) (by rw [inB_bt, isBt_of hs]; decide)
    | exact absurd ((b2i_0 _).mp h13) (by rw [isTy_of ht]; decide)
  · refine ev_iload_2 dX10_hand_9 ?_
    refine cl_X10_120 c_mIsType dX10_hand_10 rfl (Nat.le_of_ble_eq_true rfl) ?_
    refine ev_if_ne (tgt := 18) dX10_hand_13 (by decide) (fun h13 => ?_) (fun h13 => ?_)
    · refine ev_iload_3 dX10_hand_18 ?_
      refine ev_iconst_0 dX10_hand_19 ?_
      refine ev_bipush_9 dX10_hand_20 ?_
      refine cl_X10_61 c_mIn dX10_hand_22 rfl (Nat.le_of_ble_eq_true rfl) ?_
      refine ev_if_eq (tgt := 45) dX10_hand_25 (by decide) (fun h25 => ?_) (fun h25 => absurd (by rw [inB_f h]; rfl) h25)
      refine ev_bipush_m2 dX10_hand_45 ?_
      exact ev_ireturn dX10_hand_47
    · first
      | exact absurd ((b2i_0 _).mp h6) (by rw [inB_bt, isBt_of hs]; decide)
      | exact absurd ((b2i_0 _).mp h13) (by rw [isTy_of ht]; decide)
set_option maxRecDepth 100000 in
set_option maxHeartbeats 4000000 in
theorem c_mHand {ae ad : Nat → Nat} {sh : mSh} {σ : mSt} (hm : mModel ad sh) {g : Nat → Int32} (hg : σ.1 62 = g) {s t n : Nat} (hs : s ≤ 1) (ht : t < 6) (hn : n ≤ 9) (hG1 : wfP (upd g (37 + (6 * s + t)) (nI n))) (hW1 : wfL (upd g (37 + (6 * s + t)) (nI n))) : Ct yX10_hand cX10_hand 4 (some .int) 4 0 0 [.ref (ad 61), .int (nI s), .int (nI t), .int (nI n)] ae ad sh σ (mPi ad sh (fun x σ' => x = g (37 + (6 * s + t)) ∧ begR σ σ' (begG (upd g (37 + (6 * s + t)) (nI n))))) := by
  refine Ct.ofL (own := RX10) (ini := false) (ls := [some (.ref (ad 61)), some (.int (nI s)), some (.int (nI t)), some (.int (nI n))]) (by decide +kernel) rfl (fun h => by cases h) (Nat.le_of_ble_eq_true rfl) rfl ?_
  refine ev_iload_1 dX10_hand_0 ?_
  refine ev_iconst_0 dX10_hand_1 ?_
  refine ev_iconst_1 dX10_hand_2 ?_
  refine cl_X10_61 c_mIn dX10_hand_3 rfl (Nat.le_of_ble_eq_true rfl) ?_
  refine ev_if_eq (tgt := 16) dX10_hand_6 (by decide) (fun h6 => ?_) (fun h6 => ?_)
  · first
    | exact absurd ((b2i_0 _).mp h6) (by rw [inB_bt, isBt_of hs]; decide)
    | exact absurd ((b2i_0 _).mp h13) (by rw [isTy_of ht]; decide)
  · refine ev_iload_2 dX10_hand_9 ?_
    refine cl_X10_120 c_mIsType dX10_hand_10 rfl (Nat.le_of_ble_eq_true rfl) ?_
    refine ev_if_ne (tgt := 18) dX10_hand_13 (by decide) (fun h13 => ?_) (fun h13 => ?_)
    · refine ev_iload_3 dX10_hand_18 ?_
      refine ev_iconst_0 dX10_hand_19 ?_
      refine ev_bipush_9 dX10_hand_20 ?_
      refine cl_X10_61 c_mIn dX10_hand_22 rfl (Nat.le_of_ble_eq_true rfl) ?_
      refine ev_if_eq (tgt := 45) dX10_hand_25 (by decide) (fun h25 => absurd h25 (by rw [inB_n (lo := 0) (hi := 9) (b := 0) (c := 9) rfl rfl (Nat.zero_le _) hn (by decide)]; decide)) (fun h25 => ?_)
      refine ev_aload_0 dX10_hand_28 ?_
      refine ev_bipush_37 dX10_hand_29 ?_
      refine ev_bipush_6 dX10_hand_31 ?_
      refine ev_iload_1 dX10_hand_33 ?_
      refine ev_imul dX10_hand_34 ?_
      rw [show (6 : Int32) * nI s = nI (6 * s) from nI_mul (6) (s)]
      refine ev_iadd dX10_hand_35 ?_
      rw [show (37 : Int32) + nI (6 * s) = nI (37 + (6 * s)) from nI_add (37) (6 * s)]
      refine ev_iload_2 dX10_hand_36 ?_
      refine ev_iadd dX10_hand_37 ?_
      rw [show nI (37 + (6 * s)) + nI t = nI (37 + (6 * s) + t) from nI_add (37 + (6 * s)) (t)]
      rw [show 37 + 6 * s + t = 37 + (6 * s + t) from Nat.add_assoc _ _ _]
      refine ev_iload_3 dX10_hand_38 ?_
      refine cg_X10_133 (c_mSets hm hg (k := 37 + (6 * s + t)) (v := nI n) (by omega) hG1 hW1) hm.1 dX10_hand_39 rfl (Nat.le_of_ble_eq_true rfl) (fun r1 σ1 h1 => ?_)
      obtain ⟨e1, h1⟩ := h1
      refine ev_goto (tgt := 47) dX10_hand_42 (by decide) ?_
      exact ev_pi dX10_hand_47 ⟨e1, h1⟩
    · first
      | exact absurd ((b2i_0 _).mp h6) (by rw [inB_bt, isBt_of hs]; decide)
      | exact absurd ((b2i_0 _).mp h13) (by rw [isTy_of ht]; decide)
set_option maxRecDepth 100000 in
set_option maxHeartbeats 4000000 in
theorem c_mRuleNo {ae ad : Nat → Nat} {sh : mSh} {σ : mSt} (hm : mModel ad sh) {c v : Int32} (h : c < 0 ∨ 1 < c) : Ct yX10_rule cX10_rule 3 (some .int) 4 0 0 [.ref (ad 61), .int c, .int v] ae ad sh σ (mEq (some (.int (-1))) ad sh σ) := by
  refine Ct.ofL (own := RX10) (ini := false) (ls := [some (.ref (ad 61)), some (.int c), some (.int v)]) (by decide +kernel) rfl (fun h => by cases h) (Nat.le_of_ble_eq_true rfl) rfl ?_
  refine ev_iload_1 dX10_rule_0 ?_
  refine ev_iconst_0 dX10_rule_1 ?_
  refine ev_iconst_1 dX10_rule_2 ?_
  refine cl_X10_61 c_mIn dX10_rule_3 rfl (Nat.le_of_ble_eq_true rfl) ?_
  refine ev_if_ne (tgt := 11) dX10_rule_6 (by decide) (fun h6 => absurd h6 (by rw [inB_f h]; decide)) (fun h6 => ?_)
  refine ev_iconst_m1 dX10_rule_9 ?_
  exact ev_ireturn dX10_rule_10
set_option maxRecDepth 100000 in
set_option maxHeartbeats 4000000 in
theorem c_mRuleBad0 {ae ad : Nat → Nat} {sh : mSh} {σ : mSt} (hm : mModel ad sh) {v : Int32} (h : v < 0 ∨ 1 < v) : Ct yX10_rule cX10_rule 3 (some .int) 4 0 0 [.ref (ad 61), .int 0, .int v] ae ad sh σ (mEq (some (.int (-2))) ad sh σ) := by
  refine Ct.ofL (own := RX10) (ini := false) (ls := [some (.ref (ad 61)), some (.int 0), some (.int v)]) (by decide +kernel) rfl (fun h => by cases h) (Nat.le_of_ble_eq_true rfl) rfl ?_
  refine ev_iload_1 dX10_rule_0 ?_
  refine ev_iconst_0 dX10_rule_1 ?_
  refine ev_iconst_1 dX10_rule_2 ?_
  refine cl_X10_61 c_mIn dX10_rule_3 rfl (Nat.le_of_ble_eq_true rfl) ?_
  refine ev_if_ne (tgt := 11) dX10_rule_6 (by decide) (fun h6 => ?_) (fun h6 => ?_)
  · refine ev_iload_2 dX10_rule_11 ?_
    refine ev_iconst_0 dX10_rule_12 ?_
    refine ev_iconst_1 dX10_rule_13 ?_
    refine ev_iload_1 dX10_rule_14 ?_
    refine ev_iadd dX10_rule_15 ?_
    rw [show (1 : Int32) + 0 = 1 from rfl]
    refine cl_X10_61 c_mIn dX10_rule_16 rfl (Nat.le_of_ble_eq_true rfl) ?_
    refine ev_if_eq (tgt := 34) dX10_rule_19 (by decide) (fun h19 => ?_) (fun h19 => absurd (by rw [inB_f h]; rfl) h19)
    refine ev_bipush_m2 dX10_rule_34 ?_
    exact ev_ireturn dX10_rule_36
  · exact absurd h6 (by decide)
set_option maxRecDepth 100000 in
set_option maxHeartbeats 4000000 in
theorem c_mRule0 {ae ad : Nat → Nat} {sh : mSh} {σ : mSt} (hm : mModel ad sh) {g : Nat → Int32} (hg : σ.1 62 = g) {v : Nat} (hv : v ≤ 1) (hG1 : wfP (upd g 55 (nI v))) (hW1 : wfL (upd g 55 (nI v))) : Ct yX10_rule cX10_rule 3 (some .int) 4 0 0 [.ref (ad 61), .int 0, .int (nI v)] ae ad sh σ (mPi ad sh (fun x σ' => x = g 55 ∧ begR σ σ' (begG (upd g 55 (nI v))))) := by
  refine Ct.ofL (own := RX10) (ini := false) (ls := [some (.ref (ad 61)), some (.int 0), some (.int (nI v))]) (by decide +kernel) rfl (fun h => by cases h) (Nat.le_of_ble_eq_true rfl) rfl ?_
  refine ev_iload_1 dX10_rule_0 ?_
  refine ev_iconst_0 dX10_rule_1 ?_
  refine ev_iconst_1 dX10_rule_2 ?_
  refine cl_X10_61 c_mIn dX10_rule_3 rfl (Nat.le_of_ble_eq_true rfl) ?_
  refine ev_if_ne (tgt := 11) dX10_rule_6 (by decide) (fun h6 => ?_) (fun h6 => ?_)
  · refine ev_iload_2 dX10_rule_11 ?_
    refine ev_iconst_0 dX10_rule_12 ?_
    refine ev_iconst_1 dX10_rule_13 ?_
    refine ev_iload_1 dX10_rule_14 ?_
    refine ev_iadd dX10_rule_15 ?_
    rw [show (1 : Int32) + 0 = 1 from rfl]
    refine cl_X10_61 c_mIn dX10_rule_16 rfl (Nat.le_of_ble_eq_true rfl) ?_
    refine ev_if_eq (tgt := 34) dX10_rule_19 (by decide) (fun h19 => absurd h19 (by rw [inB_n (lo := 0) (hi := 1) (b := 0) (c := 1) rfl rfl (Nat.zero_le _) hv (by decide)]; decide)) (fun h19 => ?_)
    refine ev_aload_0 dX10_rule_22 ?_
    refine ev_bipush_55 dX10_rule_23 ?_
    refine ev_iload_1 dX10_rule_25 ?_
    refine ev_iadd dX10_rule_26 ?_
    rw [show (55 : Int32) + 0 = nI 55 from rfl]
    refine ev_iload_2 dX10_rule_27 ?_
    refine cg_X10_133 (c_mSets hm hg (k := 55) (v := nI v) (by omega) hG1 hW1) hm.1 dX10_rule_28 rfl (Nat.le_of_ble_eq_true rfl) (fun r1 σ1 h1 => ?_)
    obtain ⟨e1, h1⟩ := h1
    refine ev_goto (tgt := 36) dX10_rule_31 (by decide) ?_
    exact ev_pi dX10_rule_36 ⟨e1, h1⟩
  · exact absurd h6 (by decide)
set_option maxRecDepth 100000 in
set_option maxHeartbeats 4000000 in
theorem c_mRuleBad1 {ae ad : Nat → Nat} {sh : mSh} {σ : mSt} (hm : mModel ad sh) {v : Int32} (h : v < 0 ∨ 2 < v) : Ct yX10_rule cX10_rule 3 (some .int) 4 0 0 [.ref (ad 61), .int 1, .int v] ae ad sh σ (mEq (some (.int (-2))) ad sh σ) := by
  refine Ct.ofL (own := RX10) (ini := false) (ls := [some (.ref (ad 61)), some (.int 1), some (.int v)]) (by decide +kernel) rfl (fun h => by cases h) (Nat.le_of_ble_eq_true rfl) rfl ?_
  refine ev_iload_1 dX10_rule_0 ?_
  refine ev_iconst_0 dX10_rule_1 ?_
  refine ev_iconst_1 dX10_rule_2 ?_
  refine cl_X10_61 c_mIn dX10_rule_3 rfl (Nat.le_of_ble_eq_true rfl) ?_
  refine ev_if_ne (tgt := 11) dX10_rule_6 (by decide) (fun h6 => ?_) (fun h6 => ?_)
  · refine ev_iload_2 dX10_rule_11 ?_
    refine ev_iconst_0 dX10_rule_12 ?_
    refine ev_iconst_1 dX10_rule_13 ?_
    refine ev_iload_1 dX10_rule_14 ?_
    refine ev_iadd dX10_rule_15 ?_
    rw [show (1 : Int32) + 1 = 2 from rfl]
    refine cl_X10_61 c_mIn dX10_rule_16 rfl (Nat.le_of_ble_eq_true rfl) ?_
    refine ev_if_eq (tgt := 34) dX10_rule_19 (by decide) (fun h19 => ?_) (fun h19 => absurd (by rw [inB_f h]; rfl) h19)
    refine ev_bipush_m2 dX10_rule_34 ?_
    exact ev_ireturn dX10_rule_36
  · exact absurd h6 (by decide)
set_option maxRecDepth 100000 in
set_option maxHeartbeats 4000000 in
theorem c_mRule1 {ae ad : Nat → Nat} {sh : mSh} {σ : mSt} (hm : mModel ad sh) {g : Nat → Int32} (hg : σ.1 62 = g) {v : Nat} (hv : v ≤ 2) (hG1 : wfP (upd g 56 (nI v))) (hW1 : wfL (upd g 56 (nI v))) : Ct yX10_rule cX10_rule 3 (some .int) 4 0 0 [.ref (ad 61), .int 1, .int (nI v)] ae ad sh σ (mPi ad sh (fun x σ' => x = g 56 ∧ begR σ σ' (begG (upd g 56 (nI v))))) := by
  refine Ct.ofL (own := RX10) (ini := false) (ls := [some (.ref (ad 61)), some (.int 1), some (.int (nI v))]) (by decide +kernel) rfl (fun h => by cases h) (Nat.le_of_ble_eq_true rfl) rfl ?_
  refine ev_iload_1 dX10_rule_0 ?_
  refine ev_iconst_0 dX10_rule_1 ?_
  refine ev_iconst_1 dX10_rule_2 ?_
  refine cl_X10_61 c_mIn dX10_rule_3 rfl (Nat.le_of_ble_eq_true rfl) ?_
  refine ev_if_ne (tgt := 11) dX10_rule_6 (by decide) (fun h6 => ?_) (fun h6 => ?_)
  · refine ev_iload_2 dX10_rule_11 ?_
    refine ev_iconst_0 dX10_rule_12 ?_
    refine ev_iconst_1 dX10_rule_13 ?_
    refine ev_iload_1 dX10_rule_14 ?_
    refine ev_iadd dX10_rule_15 ?_
    rw [show (1 : Int32) + 1 = 2 from rfl]
    refine cl_X10_61 c_mIn dX10_rule_16 rfl (Nat.le_of_ble_eq_true rfl) ?_
    refine ev_if_eq (tgt := 34) dX10_rule_19 (by decide) (fun h19 => absurd h19 (by rw [inB_n (lo := 0) (hi := 2) (b := 0) (c := 2) rfl rfl (Nat.zero_le _) hv (by decide)]; decide)) (fun h19 => ?_)
    refine ev_aload_0 dX10_rule_22 ?_
    refine ev_bipush_55 dX10_rule_23 ?_
    refine ev_iload_1 dX10_rule_25 ?_
    refine ev_iadd dX10_rule_26 ?_
    rw [show (55 : Int32) + 1 = nI 56 from rfl]
    refine ev_iload_2 dX10_rule_27 ?_
    refine cg_X10_133 (c_mSets hm hg (k := 56) (v := nI v) (by omega) hG1 hW1) hm.1 dX10_rule_28 rfl (Nat.le_of_ble_eq_true rfl) (fun r1 σ1 h1 => ?_)
    obtain ⟨e1, h1⟩ := h1
    refine ev_goto (tgt := 36) dX10_rule_31 (by decide) ?_
    exact ev_pi dX10_rule_36 ⟨e1, h1⟩
  · exact absurd h6 (by decide)
set_option maxRecDepth 100000 in
set_option maxHeartbeats 4000000 in
theorem c_mTypeNo {ae ad : Nat → Nat} {sh : mSh} {σ : mSt} (hm : mModel ad sh) {x c v : Int32} (h : ¬ (isTy x = true ∧ ¬ (c < 0 ∨ 1 < c))) : Ct yX10_type cX10_type 4 (some .int) 4 0 0 [.ref (ad 61), .int x, .int c, .int v] ae ad sh σ (mEq (some (.int (-1))) ad sh σ) := by
  refine Ct.ofL (own := RX10) (ini := false) (ls := [some (.ref (ad 61)), some (.int x), some (.int c), some (.int v)]) (by decide +kernel) rfl (fun h => by cases h) (Nat.le_of_ble_eq_true rfl) rfl ?_
  refine ev_iload_1 dX10_type_0 ?_
  refine cl_X10_120 c_mIsType dX10_type_1 rfl (Nat.le_of_ble_eq_true rfl) ?_
  refine ev_if_eq (tgt := 16) dX10_type_4 (by decide) (fun h4 => ?_) (fun h4 => ?_)
  · refine ev_iconst_m1 dX10_type_16 ?_
    exact ev_ireturn dX10_type_17
  · refine ev_iload_2 dX10_type_7 ?_
    refine ev_iconst_0 dX10_type_8 ?_
    refine ev_iconst_1 dX10_type_9 ?_
    refine cl_X10_61 c_mIn dX10_type_10 rfl (Nat.le_of_ble_eq_true rfl) ?_
    refine ev_if_ne (tgt := 18) dX10_type_13 (by decide) (fun h13 => ?_) (fun h13 => ?_)
    · exact absurd ⟨b2i_t h4, fun z => by
        rw [inB_f z] at h13
        exact h13 rfl⟩ h
    · refine ev_iconst_m1 dX10_type_16 ?_
      exact ev_ireturn dX10_type_17
theorem inB_m1 (v : Int32) : inB v (-1) 5 = (decide (v = -1) || isTy v) := by
  rw [← inB_ty]
  unfold inB
  by_cases h : v = -1
  · subst h; decide
  · have e : (v < -1 ↔ v < 0) := by
      rw [Int32.lt_iff_toInt_lt, Int32.lt_iff_toInt_lt]
      have h1 : (-1 : Int32).toInt = -1 := by decide
      have h2 : (0 : Int32).toInt = 0 := by decide
      rw [h1, h2]
      have : v.toInt ≠ -1 := fun z => h (Int32.toInt_inj.mp (z.trans h1.symm))
      omega
    simp [h, e]
theorem m1_v {n : Nat} (hn : n ≤ 6) : inB (nI n - 1) (-1) 5 = true := by
  have h : ∀ n, n ≤ 6 → inB (nI n - 1) (-1) 5 = true := by decide +kernel
  exact h n hn

set_option maxRecDepth 100000 in
set_option maxHeartbeats 4000000 in
theorem c_mTypeBad0 {ae ad : Nat → Nat} {sh : mSh} {σ : mSt} (hm : mModel ad sh) {t : Nat} (ht : t < 6) {v : Int32} (h : isBt v = false) : Ct yX10_type cX10_type 4 (some .int) 4 0 0 [.ref (ad 61), .int (nI t), .int 0, .int v] ae ad sh σ (mEq (some (.int (-2))) ad sh σ) := by
  refine Ct.ofL (own := RX10) (ini := false) (ls := [some (.ref (ad 61)), some (.int (nI t)), some (.int 0), some (.int v)]) (by decide +kernel) rfl (fun h => by cases h) (Nat.le_of_ble_eq_true rfl) rfl ?_
  refine ev_iload_1 dX10_type_0 ?_
  refine cl_X10_120 c_mIsType dX10_type_1 rfl (Nat.le_of_ble_eq_true rfl) ?_
  refine ev_if_eq (tgt := 16) dX10_type_4 (by decide) (fun h4 => ?_) (fun h4 => ?_)
  · first
    | exact absurd ((b2i_0 _).mp h4) (by rw [isTy_of ht]; decide)
    | exact absurd h13 (by decide)
  · refine ev_iload_2 dX10_type_7 ?_
    refine ev_iconst_0 dX10_type_8 ?_
    refine ev_iconst_1 dX10_type_9 ?_
    refine cl_X10_61 c_mIn dX10_type_10 rfl (Nat.le_of_ble_eq_true rfl) ?_
    refine ev_if_ne (tgt := 18) dX10_type_13 (by decide) (fun h13 => ?_) (fun h13 => ?_)
    · refine ev_iload_2 dX10_type_18 ?_
      refine ev_if_ne (tgt := 46) dX10_type_19 (by decide) (fun h19 => absurd h19 (by decide)) (fun h19 => ?_)
      refine ev_iload_3 dX10_type_22 ?_
      refine ev_iconst_0 dX10_type_23 ?_
      refine ev_iconst_1 dX10_type_24 ?_
      refine cl_X10_61 c_mIn dX10_type_25 rfl (Nat.le_of_ble_eq_true rfl) ?_
      refine ev_if_eq (tgt := 43) dX10_type_28 (by decide) (fun h28 => ?_) (fun h28 => absurd (by rw [inB_bt, h]; rfl) h28)
      refine ev_bipush_m2 dX10_type_43 ?_
      exact ev_ireturn dX10_type_45
    · first
      | exact absurd ((b2i_0 _).mp h4) (by rw [isTy_of ht]; decide)
      | exact absurd h13 (by decide)
set_option maxRecDepth 100000 in
set_option maxHeartbeats 4000000 in
theorem c_mTypeBad1 {ae ad : Nat → Nat} {sh : mSh} {σ : mSt} (hm : mModel ad sh) {t : Nat} (ht : t < 6) {v : Int32} (h1v : ¬ v = -1) (h : isTy v = false) : Ct yX10_type cX10_type 4 (some .int) 4 0 0 [.ref (ad 61), .int (nI t), .int 1, .int v] ae ad sh σ (mEq (some (.int (-2))) ad sh σ) := by
  refine Ct.ofL (own := RX10) (ini := false) (ls := [some (.ref (ad 61)), some (.int (nI t)), some (.int 1), some (.int v)]) (by decide +kernel) rfl (fun h => by cases h) (Nat.le_of_ble_eq_true rfl) rfl ?_
  refine ev_iload_1 dX10_type_0 ?_
  refine cl_X10_120 c_mIsType dX10_type_1 rfl (Nat.le_of_ble_eq_true rfl) ?_
  refine ev_if_eq (tgt := 16) dX10_type_4 (by decide) (fun h4 => ?_) (fun h4 => ?_)
  · first
    | exact absurd ((b2i_0 _).mp h4) (by rw [isTy_of ht]; decide)
    | exact absurd h13 (by decide)
  · refine ev_iload_2 dX10_type_7 ?_
    refine ev_iconst_0 dX10_type_8 ?_
    refine ev_iconst_1 dX10_type_9 ?_
    refine cl_X10_61 c_mIn dX10_type_10 rfl (Nat.le_of_ble_eq_true rfl) ?_
    refine ev_if_ne (tgt := 18) dX10_type_13 (by decide) (fun h13 => ?_) (fun h13 => ?_)
    · refine ev_iload_2 dX10_type_18 ?_
      refine ev_if_ne (tgt := 46) dX10_type_19 (by decide) (fun h19 => ?_) (fun h19 => (by exfalso; revert h19; decide))
      refine ev_iload_3 dX10_type_46 ?_
      refine ev_iconst_m1 dX10_type_47 ?_
      refine ev_iconst_5 dX10_type_48 ?_
      refine cl_X10_61 c_mIn dX10_type_49 rfl (Nat.le_of_ble_eq_true rfl) ?_
      refine ev_if_eq (tgt := 73) dX10_type_52 (by decide) (fun h52 => ?_) (fun h52 => absurd (by rw [inB_m1, h, decide_eq_false h1v]; rfl) h52)
      refine ev_bipush_m2 dX10_type_73 ?_
      exact ev_ireturn dX10_type_75
    · first
      | exact absurd ((b2i_0 _).mp h4) (by rw [isTy_of ht]; decide)
      | exact absurd h13 (by decide)
set_option maxRecDepth 100000 in
set_option maxHeartbeats 4000000 in
theorem c_mType0 {ae ad : Nat → Nat} {sh : mSh} {σ : mSt} (hm : mModel ad sh) {g : Nat → Int32} (hg : σ.1 62 = g) {t : Nat} (ht : t < 6) {n : Nat} (hn : n ≤ 1) (hG1 : wfP (upd g (58 + 21 * t) (nI n))) (hW1 : wfL (upd g (58 + 21 * t) (nI n))) : Ct yX10_type cX10_type 4 (some .int) 4 0 0 [.ref (ad 61), .int (nI t), .int 0, .int (nI n)] ae ad sh σ (mPi ad sh (fun x σ' => x = g (58 + 21 * t) ∧ begR σ σ' (begG (upd g (58 + 21 * t) (nI n))))) := by
  refine Ct.ofL (own := RX10) (ini := false) (ls := [some (.ref (ad 61)), some (.int (nI t)), some (.int 0), some (.int (nI n))]) (by decide +kernel) rfl (fun h => by cases h) (Nat.le_of_ble_eq_true rfl) rfl ?_
  refine ev_iload_1 dX10_type_0 ?_
  refine cl_X10_120 c_mIsType dX10_type_1 rfl (Nat.le_of_ble_eq_true rfl) ?_
  refine ev_if_eq (tgt := 16) dX10_type_4 (by decide) (fun h4 => ?_) (fun h4 => ?_)
  · first
    | exact absurd ((b2i_0 _).mp h4) (by rw [isTy_of ht]; decide)
    | exact absurd h13 (by decide)
  · refine ev_iload_2 dX10_type_7 ?_
    refine ev_iconst_0 dX10_type_8 ?_
    refine ev_iconst_1 dX10_type_9 ?_
    refine cl_X10_61 c_mIn dX10_type_10 rfl (Nat.le_of_ble_eq_true rfl) ?_
    refine ev_if_ne (tgt := 18) dX10_type_13 (by decide) (fun h13 => ?_) (fun h13 => ?_)
    · refine ev_iload_2 dX10_type_18 ?_
      refine ev_if_ne (tgt := 46) dX10_type_19 (by decide) (fun h19 => absurd h19 (by decide)) (fun h19 => ?_)
      refine ev_iload_3 dX10_type_22 ?_
      refine ev_iconst_0 dX10_type_23 ?_
      refine ev_iconst_1 dX10_type_24 ?_
      refine cl_X10_61 c_mIn dX10_type_25 rfl (Nat.le_of_ble_eq_true rfl) ?_
      refine ev_if_eq (tgt := 43) dX10_type_28 (by decide) (fun h28 => absurd h28 (by rw [inB_bt, isBt_of hn]; decide)) (fun h28 => ?_)
      refine ev_aload_0 dX10_type_31 ?_
      refine ev_iload_1 dX10_type_32 ?_
      refine cl_X10_54 (c_typeAt (t := (t))) dX10_type_33 rfl (Nat.le_of_ble_eq_true rfl) ?_
      refine ev_iload_3 dX10_type_36 ?_
      refine cg_X10_133 (c_mSets hm hg (k := 58 + 21 * t) (v := nI n) (by omega) hG1 hW1) hm.1 dX10_type_37 rfl (Nat.le_of_ble_eq_true rfl) (fun r1 σ1 h1 => ?_)
      obtain ⟨e1, h1⟩ := h1
      refine ev_goto (tgt := 45) dX10_type_40 (by decide) ?_
      exact ev_pi dX10_type_45 ⟨e1, h1⟩
    · first
      | exact absurd ((b2i_0 _).mp h4) (by rw [isTy_of ht]; decide)
      | exact absurd h13 (by decide)
set_option maxRecDepth 100000 in
set_option maxHeartbeats 4000000 in
theorem c_mType1 {ae ad : Nat → Nat} {sh : mSh} {σ : mSt} (hm : mModel ad sh) {g : Nat → Int32} (hg : σ.1 62 = g) {t : Nat} (ht : t < 6) {n : Nat} (hn : n ≤ 6) (hG1 : wfP (upd g (59 + 21 * t) (nI n))) (hW1 : wfL (upd g (59 + 21 * t) (nI n))) : Ct yX10_type cX10_type 4 (some .int) 4 0 0 [.ref (ad 61), .int (nI t), .int 1, .int (nI n - 1)] ae ad sh σ (mPi ad sh (fun x σ' => x = g (59 + 21 * t) - 1 ∧ begR σ σ' (begG (upd g (59 + 21 * t) (nI n))))) := by
  refine Ct.ofL (own := RX10) (ini := false) (ls := [some (.ref (ad 61)), some (.int (nI t)), some (.int 1), some (.int (nI n - 1))]) (by decide +kernel) rfl (fun h => by cases h) (Nat.le_of_ble_eq_true rfl) rfl ?_
  refine ev_iload_1 dX10_type_0 ?_
  refine cl_X10_120 c_mIsType dX10_type_1 rfl (Nat.le_of_ble_eq_true rfl) ?_
  refine ev_if_eq (tgt := 16) dX10_type_4 (by decide) (fun h4 => ?_) (fun h4 => ?_)
  · first
    | exact absurd ((b2i_0 _).mp h4) (by rw [isTy_of ht]; decide)
    | exact absurd h13 (by decide)
  · refine ev_iload_2 dX10_type_7 ?_
    refine ev_iconst_0 dX10_type_8 ?_
    refine ev_iconst_1 dX10_type_9 ?_
    refine cl_X10_61 c_mIn dX10_type_10 rfl (Nat.le_of_ble_eq_true rfl) ?_
    refine ev_if_ne (tgt := 18) dX10_type_13 (by decide) (fun h13 => ?_) (fun h13 => ?_)
    · refine ev_iload_2 dX10_type_18 ?_
      refine ev_if_ne (tgt := 46) dX10_type_19 (by decide) (fun h19 => ?_) (fun h19 => (by exfalso; revert h19; decide))
      refine ev_iload_3 dX10_type_46 ?_
      refine ev_iconst_m1 dX10_type_47 ?_
      refine ev_iconst_5 dX10_type_48 ?_
      refine cl_X10_61 c_mIn dX10_type_49 rfl (Nat.le_of_ble_eq_true rfl) ?_
      refine ev_if_eq (tgt := 73) dX10_type_52 (by decide) (fun h52 => absurd h52 (by rw [m1_v hn]; decide)) (fun h52 => ?_)
      refine ev_aload_0 dX10_type_55 ?_
      refine ev_iload_1 dX10_type_56 ?_
      refine cl_X10_54 (c_typeAt (t := (t))) dX10_type_57 rfl (Nat.le_of_ble_eq_true rfl) ?_
      refine ev_iconst_1 dX10_type_60 ?_
      refine ev_iadd dX10_type_61 ?_
      rw [show nI (58 + 21 * t) + (1 : Int32) = nI (58 + 21 * t + 1) from nI_add (58 + 21 * t) (1)]
      rw [show 58 + 21 * t + 1 = 59 + 21 * t by omega]
      refine ev_iload_3 dX10_type_62 ?_
      refine ev_iconst_1 dX10_type_63 ?_
      refine ev_iadd dX10_type_64 ?_
      rw [Int32.sub_add_cancel]
      refine cg_X10_133 (c_mSets hm hg (k := 59 + 21 * t) (v := nI n) (by omega) hG1 hW1) hm.1 dX10_type_65 rfl (Nat.le_of_ble_eq_true rfl) (fun r1 σ1 h1 => ?_)
      obtain ⟨e1, h1⟩ := h1
      refine ev_iconst_1 dX10_type_68 ?_
      refine ev_isub dX10_type_69 ?_
      refine ev_goto (tgt := 75) dX10_type_70 (by decide) ?_
      exact ev_pi dX10_type_75 ⟨congrArg (fun z => z - 1) e1, h1⟩
    · first
      | exact absurd ((b2i_0 _).mp h4) (by rw [isTy_of ht]; decide)
      | exact absurd h13 (by decide)
set_option maxRecDepth 100000 in
set_option maxHeartbeats 4000000 in
theorem c_mAt {ae ad : Nat → Nat} {sh : mSh} {σ : mSt} (hm : mModel ad sh) {g : Nat → Int32} (hg : σ.1 62 = g) (hG : wfP g) {q : Int32} : Ct yX10_at cX10_at 2 (some .int) 2 0 0 [.ref (ad 61), .int q] ae ad sh σ (mEq (some (.int (atR g q))) ad sh σ) := by
  refine Ct.ofL (own := RX10) (ini := false) (ls := [some (.ref (ad 61)), some (.int q)]) (by decide +kernel) rfl (fun h => by cases h) (Nat.le_of_ble_eq_true rfl) rfl ?_
  refine ev_aload_0 dX10_at_0 ?_
  refine ev_iload_1 dX10_at_1 ?_
  refine cl_X10_149 (c_mIsSq hm hg hG) hm.1 dX10_at_2 rfl (Nat.le_of_ble_eq_true rfl) ?_
  refine ev_if_ne (tgt := 12) dX10_at_5 (by decide) (fun h5 => ?_) (fun h5 => ?_)
  · have h36 := sq36 hG
    obtain ⟨jj, e, hj⟩ := sqB_in hG (b2i_t h5)
    subst e
    have h12 := wf_m hG (q := jj) (by omega)
    have hmn := (hG.2.2.1 jj (by omega)).1
    refine ev_aload_0 dX10_at_12 ?_
    refine ev_iload_1 dX10_at_13 ?_
    refine cl_X10_69 (c_mMan hm hg hG (q := jj) (by omega)) hm.1 dX10_at_14 rfl (Nat.le_of_ble_eq_true rfl) ?_
    refine ev_if_ge (tgt := 25) dX10_at_17 (by decide) (fun h17 => ?_) (fun h17 => ?_)
    · refine ev_aload_0 dX10_at_25 ?_
      refine ev_iload_1 dX10_at_26 ?_
      refine cl_X10_69 (c_mMan hm hg hG (q := jj) (by omega)) hm.1 dX10_at_27 rfl (Nat.le_of_ble_eq_true rfl) ?_
      first
      | exact ev_iret dX10_at_30 (by rw [atR, if_neg (by rw [(b2i_0 _).mp h5]; decide)]) rfl
      | exact ev_iret dX10_at_30 (by
          have e0 := m1_neg h12
          have e2 : nI (mN g jj) = 0 ↔ mN g jj = 0 := nI_eq (b := 0) (by omega) (by decide)
          rw [atR, if_pos (b2i_t h5), nI_clamp (by omega), hmn]
          first
          | (rw [if_neg (fun z => Int32.not_lt.mpr h17 (e0.mpr (e2.mp z)))]; done)
          | (rw [if_pos (e2.mpr (e0.mp (Int32.not_le.mp h17)))]; done)) rfl
    · refine ev_bipush_m5 dX10_at_20 ?_
      refine ev_goto (tgt := 30) dX10_at_22 (by decide) ?_
      first
      | exact ev_iret dX10_at_30 (by rw [atR, if_neg (by rw [(b2i_0 _).mp h5]; decide)]) rfl
      | exact ev_iret dX10_at_30 (by
          have e0 := m1_neg h12
          have e2 : nI (mN g jj) = 0 ↔ mN g jj = 0 := nI_eq (b := 0) (by omega) (by decide)
          rw [atR, if_pos (b2i_t h5), nI_clamp (by omega), hmn]
          first
          | (rw [if_neg (fun z => Int32.not_lt.mpr h17 (e0.mpr (e2.mp z)))]; done)
          | (rw [if_pos (e2.mpr (e0.mp (Int32.not_le.mp h17)))]; done)) rfl
  · refine ev_iconst_m1 dX10_at_8 ?_
    refine ev_goto (tgt := 30) dX10_at_9 (by decide) ?_
    first
    | exact ev_iret dX10_at_30 (by rw [atR, if_neg (by rw [(b2i_0 _).mp h5]; decide)]) rfl
    | exact ev_iret dX10_at_30 (by
        have e0 := m1_neg h12
        have e2 : nI (mN g jj) = 0 ↔ mN g jj = 0 := nI_eq (b := 0) (by omega) (by decide)
        rw [atR, if_pos (b2i_t h5), nI_clamp (by omega), hmn]
        first
        | (rw [if_neg (fun z => Int32.not_lt.mpr h17 (e0.mpr (e2.mp z)))]; done)
        | (rw [if_pos (e2.mpr (e0.mp (Int32.not_le.mp h17)))]; done)) rfl
