set_option maxRecDepth 100000 in
set_option maxHeartbeats 4000000 in
theorem c_mSeqNo1 {ae ad : Nat → Nat} {sh : mSh} {σ : mSt} (hm : mModel ad sh) {d x : Int32} (h : d < 0 ∨ 2 < d) : Ct yX10_sequences cX10_sequences 5 (some .int) 10 0 0 [.ref (ad 61), .int d, .int x] ae ad sh σ (mEq (some (.int (-2))) ad sh σ) := by
  refine Ct.ofL (own := RX10) (ini := false) (ls := [some (.ref (ad 61)), some (.int d), some (.int x), none, none]) (by decide +kernel) rfl (fun h => by cases h) (Nat.le_of_ble_eq_true rfl) rfl ?_
  refine ev_iload_1 dX10_sequences_0 ?_
  refine ev_iconst_0 dX10_sequences_1 ?_
  refine ev_iconst_2 dX10_sequences_2 ?_
  refine cl_X10_61 c_mIn dX10_sequences_3 rfl (Nat.le_of_ble_eq_true rfl) ?_
  refine ev_if_ne (tgt := 12) dX10_sequences_6 (by decide) (fun h6 => absurd h6 (by rw [inB_f h]; decide)) (fun h6 => ?_)
  refine ev_bipush_m2 dX10_sequences_9 ?_
  exact ev_ireturn dX10_sequences_11
set_option maxRecDepth 100000 in
set_option maxHeartbeats 4000000 in
theorem c_mSeqNo2 {ae ad : Nat → Nat} {sh : mSh} {σ : mSt} (hm : mModel ad sh) {d x : Int32} (hd : ¬ (d < 0 ∨ 2 < d)) (h : isBt x = false) : Ct yX10_sequences cX10_sequences 5 (some .int) 10 0 0 [.ref (ad 61), .int d, .int x] ae ad sh σ (mEq (some (.int (-1))) ad sh σ) := by
  refine Ct.ofL (own := RX10) (ini := false) (ls := [some (.ref (ad 61)), some (.int d), some (.int x), none, none]) (by decide +kernel) rfl (fun h => by cases h) (Nat.le_of_ble_eq_true rfl) rfl ?_
  refine ev_iload_1 dX10_sequences_0 ?_
  refine ev_iconst_0 dX10_sequences_1 ?_
  refine ev_iconst_2 dX10_sequences_2 ?_
  refine cl_X10_61 c_mIn dX10_sequences_3 rfl (Nat.le_of_ble_eq_true rfl) ?_
  refine ev_if_ne (tgt := 12) dX10_sequences_6 (by decide) (fun h6 => ?_) (fun h6 => ?_)
  · refine ev_iload_2 dX10_sequences_12 ?_
    refine ev_iconst_0 dX10_sequences_13 ?_
    refine ev_iconst_1 dX10_sequences_14 ?_
    refine cl_X10_61 c_mIn dX10_sequences_15 rfl (Nat.le_of_ble_eq_true rfl) ?_
    refine ev_if_ne (tgt := 23) dX10_sequences_18 (by decide) (fun h18 => absurd h18 (by rw [inB_bt, h]; decide)) (fun h18 => ?_)
    refine ev_iconst_m1 dX10_sequences_21 ?_
    exact ev_ireturn dX10_sequences_22
  · exact absurd h6 (by rw [inB_t hd]; decide)
/-- the pairs that begin with the first k legal moves -/
def prS (g : Nat → Int32) (k : Nat) : Nat := (((legalG g).take k).map (fun m => (legalG (playsG g m)).length)).sum
theorem prS_s {g : Nat → Int32} {k m : Nat} (h : (legalG g)[k]? = some m) : prS g (k + 1) = prS g k + (legalG (playsG g m)).length := by
  unfold prS
  rw [List.take_add_one, h]
  simp
theorem prS_all (g : Nat → Int32) : prS g (legalG g).length = pairG g := by
  unfold prS pairG pairN
  rw [List.take_length]
  rfl
theorem mliR.B {σ σ' : mSt} {g : Nat → Int32} {L : List Nat} (hl : mliR σ 0 g L) (h : ∀ q, 66 ≤ q → q ≤ 69 → ∀ k, k < 1600 → σ'.1 q k = σ.1 q k) (h2 : σ'.1 70 0 = σ.1 70 0) : mliR σ' 0 g L := by
  refine ⟨h2.trans hl.1, hl.2.1, fun i m hi => ?_⟩
  have hil : i < L.length := (List.getElem?_eq_some_iff.mp hi).1
  have := hl.2.1
  rw [h 66 (by decide) (by decide) _ (by omega), h 67 (by decide) (by decide) _ (by omega), h 68 (by decide) (by decide) _ (by omega), h 69 (by decide) (by decide) _ (by omega)]
  exact hl.2.2 i m hi

set_option maxRecDepth 100000 in
set_option maxHeartbeats 4000000 in
theorem c_mSeq_68 {ae ad : Nat → Nat} {sh : mSh} {σ : mSt} (hm : mModel ad sh) {g : Nat → Int32} (hG : wfP g) (hW : wfL g) {d v : Int32} : ∀ (n k : Nat), (legalG g).length - k = n → k ≤ (legalG g).length → ∀ σ2 : mSt, σ2.1 62 = g → mdR σ2 g → frM σ σ2 → Ev RX10 cX10_sequences 5 false (some .int) (mRm 10 0 0) ae (mPi ad sh (fun x σ' => x = nI (pairG g) ∧ mdR σ' g ∧ sqR σ' g ∧ frM σ σ')) 68 [some (.ref (ad 61)), some (.int d), some (.int v), some (.int (nI (prS g k))), some (.int (nI k))] [] 0 0 ad sh σ2 := by
  have h445 := legal_len hG
  intro n
  induction n with
  | zero =>
    intro k hn hkl σ2 hg hk hfr
    have e : k = (legalG g).length := by omega
    subst e
    refine ev_iload_4 dX10_sequences_68 ?_
    refine ev_aload_0 dX10_sequences_70 ?_
    refine gf_X10_36 dX10_sequences_71 hm.1 rfl ?_
    refine ev_iconst_0 dX10_sequences_74 ?_
    refine ev_ldk (k := 0) hm.2.2.2.2.2.2.2.2.2.1 rfl rfl (by omega) (by decide) dX10_sequences_75 ?_
    rw [hk.2.1]
    refine ev_icmp_ge (tgt := 141) dX10_sequences_76 (by decide) (fun h76 => ?_) (fun h76 => absurd (Int32.le_refl _) h76)
    refine ev_aload_0 dX10_sequences_141 ?_
    refine gf_X10_42 dX10_sequences_142 hm.1 rfl ?_
    refine ev_iconst_2 dX10_sequences_145 ?_
    refine ev_iload_3 dX10_sequences_146 ?_
    refine ev_stk (k := 2) hm.2.2.2.2.2.2.2.2.2.2.2.1 rfl rfl (by omega) (by decide) dX10_sequences_147 (fun σ147 hw147 hf147 hl147 => ?_)
    have znow_147 := (hf147 62 (by decide)).trans hg
    have zkinds_147 := (hf147 66 (by decide)).trans (Eq.refl _)
    have zfroms_147 := (hf147 67 (by decide)).trans (Eq.refl _)
    have ztos_147 := (hf147 68 (by decide)).trans (Eq.refl _)
    have zwhats_147 := (hf147 69 (by decide)).trans (Eq.refl _)
    have zmany_147 := (hf147 70 (by decide)).trans (Eq.refl _)
    have zbehind_147 := (hf147 71 (by decide)).trans (Eq.refl _)
    refine ev_iload_3 dX10_sequences_148 ?_
    refine ev_pi dX10_sequences_149 ⟨by rw [prS_all], ?_, ?_, hfr.tr ⟨fun j _ b => hf147 j (by omega), ⟨by rw [hf147 61 (by decide)], by rw [hf147 61 (by decide)]⟩, hl147⟩⟩
    · unfold mdR
      rw [hf147 61 (by decide)]
      exact ⟨hk.1, hk.2.B (fun q a b k _ => by rw [hf147 q (by omega)]) (by rw [hf147 70 (by decide)])⟩
    · unfold sqR
      rw [hw147, upd_at, prS_all]; exact Or.inr rfl
  | succ n ih =>
    intro k hn hkl σ2 hg hk hfr
    have hlt : k < (legalG g).length := by omega
    obtain ⟨m, hx⟩ : ∃ m, (legalG g)[k]? = some m := ⟨_, List.getElem?_eq_getElem hlt⟩
    obtain ⟨r1, r2, r3, r4⟩ := mli0 hk.2 hx
    have hm0 := legal_ok hG hW (List.mem_of_getElem? hx)
    refine ev_iload_4 dX10_sequences_68 ?_
    refine ev_aload_0 dX10_sequences_70 ?_
    refine gf_X10_36 dX10_sequences_71 hm.1 rfl ?_
    refine ev_iconst_0 dX10_sequences_74 ?_
    refine ev_ldk (k := 0) hm.2.2.2.2.2.2.2.2.2.1 rfl rfl (by omega) (by decide) dX10_sequences_75 ?_
    rw [hk.2.1]
    refine ev_icmp_ge (tgt := 141) dX10_sequences_76 (by decide) (fun h76 => absurd h76 (nI_ge hlt (by omega))) (fun h76 => ?_)
    refine ev_aload_0 dX10_sequences_79 ?_
    refine ev_iconst_0 dX10_sequences_80 ?_
    refine cg_X10_210 (c_mKeeps hm (d := 0) (by decide) hg rfl) hm.1 dX10_sequences_81 rfl (Nat.le_of_ble_eq_true rfl) (fun σk hk1 => ?_)
    obtain ⟨k1, k2, k3⟩ := hk1
    have znow_81 := (k2 62 (by decide)).trans hg
    have zkinds_81 := (k2 66 (by decide)).trans (Eq.refl _)
    have zfroms_81 := (k2 67 (by decide)).trans (Eq.refl _)
    have ztos_81 := (k2 68 (by decide)).trans (Eq.refl _)
    have zwhats_81 := (k2 69 (by decide)).trans (Eq.refl _)
    have zmany_81 := (k2 70 (by decide)).trans (Eq.refl _)
    have zsequenceKnown_81 := (k2 72 (by decide)).trans (Eq.refl _)
    refine ev_aload_0 dX10_sequences_84 ?_
    refine ev_aload_0 dX10_sequences_85 ?_
    refine gf_X10_24 dX10_sequences_86 hm.1 rfl ?_
    refine ev_iload_4 dX10_sequences_89 ?_
    refine ev_ldk (k := k) hm.2.2.2.2.2.1 zkinds_81 rfl (by omega) (by decide) dX10_sequences_91 ?_
    rw [r1]
    refine ev_aload_0 dX10_sequences_92 ?_
    refine gf_X10_27 dX10_sequences_93 hm.1 rfl ?_
    refine ev_iload_4 dX10_sequences_96 ?_
    refine ev_ldk (k := k) hm.2.2.2.2.2.2.1 zfroms_81 rfl (by omega) (by decide) dX10_sequences_98 ?_
    rw [r2]
    refine ev_aload_0 dX10_sequences_99 ?_
    refine gf_X10_30 dX10_sequences_100 hm.1 rfl ?_
    refine ev_iload_4 dX10_sequences_103 ?_
    refine ev_ldk (k := k) hm.2.2.2.2.2.2.2.1 ztos_81 rfl (by omega) (by decide) dX10_sequences_105 ?_
    rw [r3]
    refine ev_aload_0 dX10_sequences_106 ?_
    refine gf_X10_33 dX10_sequences_107 hm.1 rfl ?_
    refine ev_iload_4 dX10_sequences_110 ?_
    refine ev_ldk (k := k) hm.2.2.2.2.2.2.2.2.1 zwhats_81 rfl (by omega) (by decide) dX10_sequences_112 ?_
    rw [r4]
    refine cg_X10_213 (c_mPlays hm znow_81 hG hW hm0) hm.1 dX10_sequences_113 rfl (Nat.le_of_ble_eq_true rfl) (fun σp hp1 => ?_)
    obtain ⟨p1, p2, p3⟩ := hp1
    have zkinds_113 := (p2 66 (by decide)).trans zkinds_81
    have zfroms_113 := (p2 67 (by decide)).trans zfroms_81
    have ztos_113 := (p2 68 (by decide)).trans ztos_81
    have zwhats_113 := (p2 69 (by decide)).trans zwhats_81
    have zmany_113 := (p2 70 (by decide)).trans zmany_81
    have zbehind_113 := (p2 71 (by decide)).trans k1
    have zsequenceKnown_113 := (p2 72 (by decide)).trans zsequenceKnown_81
    refine ev_aload_0 dX10_sequences_116 ?_
    refine ev_iconst_1 dX10_sequences_117 ?_
    refine cg_X10_236 (c_mLists hm (pl_wfP hG hW hm0) (pl_wfL hG hW hm0) (d := 1) (by decide) p1) hm.1 dX10_sequences_118 rfl (Nat.le_of_ble_eq_true rfl) (fun σq hq1 => ?_)
    obtain ⟨q1, q2⟩ := hq1
    have gq := q2.now p1
    refine ev_iload_3 dX10_sequences_121 ?_
    refine ev_aload_0 dX10_sequences_122 ?_
    refine gf_X10_36 dX10_sequences_123 hm.1 rfl ?_
    refine ev_iconst_1 dX10_sequences_126 ?_
    refine ev_ldk (k := 1) hm.2.2.2.2.2.2.2.2.2.1 rfl rfl (by omega) (by decide) dX10_sequences_127 ?_
    rw [q1.1]
    refine ev_iadd dX10_sequences_128 ?_
    rw [show nI (prS g k) + nI ((legalG (playsG g m)).length) = nI (prS g k + ((legalG (playsG g m)).length)) from nI_add (prS g k) ((legalG (playsG g m)).length)]
    refine ev_istore_3 dX10_sequences_129 rfl rfl ?_
    refine ev_aload_0 dX10_sequences_130 ?_
    refine ev_iconst_0 dX10_sequences_131 ?_
    refine cg_X10_219 (c_mAgain hm (d := 0) (by decide) gq rfl) hm.1 dX10_sequences_132 rfl (Nat.le_of_ble_eq_true rfl) (fun σa ha1 => ?_)
    obtain ⟨a1, a2, a3⟩ := ha1
    have a1 : σa.1 62 = g := a1.trans (again_row (g := g) (fun j hj => by
      rw [q2.2.2.2.2.1 _ (Or.inl (by omega)), p2 71 (by decide), k1]
      exact kp_at hj) (fun j hj => pl_hi hj))
    refine ev_iinc_4 (v := 1) dX10_sequences_135 (by decide) rfl rfl ?_
    rw [show nI k + 1 = nI (k + 1) from nI_add (k) 1]
    refine ev_goto (tgt := 68) dX10_sequences_138 (by decide) ?_
    have hs2 : ∀ q, 66 ≤ q → q ≤ 69 → ∀ z, z < 1600 → σa.1 q z = σ2.1 q z := fun q b1 b2 z hz => by
      rw [a2 q (by omega), q2.2.2.1 q b1 b2 z (Or.inl (by omega)), p2 q (by omega), k2 q (by omega)]
    have h700 : σa.1 70 0 = σ2.1 70 0 := by rw [a2 70 (by decide), q2.2.2.2.1 0 (by decide), p2 70 (by decide), k2 70 (by decide)]
    have h61 : ∀ z, z ≠ 17 → σa.1 61 z = σ2.1 61 z := fun z hz => by rw [a2 61 (by decide), q2.2.1 z hz, p2 61 (by decide), k2 61 (by decide)]
    have hj : ∀ j, j ≤ 64 → j ≠ 61 → σa.1 j = σ2.1 j := fun j b1 b2 => by
      by_cases y : j = 62
      · subst y; rw [a1, hg]
      · rw [a2 j y, q2.1 j b2 (by omega) (by omega) (by omega), p2 j y, k2 j (by omega)]
    exact Ev.to (by rw [prS_s hx]) rfl rfl (ih (k + 1) (by omega) (by omega) σa a1 ⟨(h61 13 (by decide)).trans hk.1, hk.2.B hs2 h700⟩ (hfr.tr ⟨hj, ⟨h61 2 (by decide), h61 4 (by decide)⟩, by rw [a3, q2.2.2.2.2.2, p3, k3]⟩))
set_option maxRecDepth 100000 in
set_option maxHeartbeats 4000000 in
theorem c_mSeq {ae ad : Nat → Nat} {sh : mSh} {σ : mSt} (hm : mModel ad sh) {g : Nat → Int32} (hg : σ.1 62 = g) (hG : wfP g) (hW : wfL g) (hk0 : lkR σ g) (hs0 : sqR σ g) {d k : Nat} (hd : d ≤ 2) (hk1 : k ≤ 1) : Ct yX10_sequences cX10_sequences 5 (some .int) 10 0 0 [.ref (ad 61), .int (nI d), .int (nI k)] ae ad sh σ (mPi ad sh (fun x σ' => x = nI (seqG g (nI d)) ∧ mdR σ' g ∧ sqR σ' g ∧ frM σ σ')) := by
  refine Ct.ofL (own := RX10) (ini := false) (ls := [some (.ref (ad 61)), some (.int (nI d)), some (.int (nI k)), none, none]) (by decide +kernel) rfl (fun h => by cases h) (Nat.le_of_ble_eq_true rfl) rfl ?_
  have h445 := legal_len hG
  refine ev_iload_1 dX10_sequences_0 ?_
  refine ev_iconst_0 dX10_sequences_1 ?_
  refine ev_iconst_2 dX10_sequences_2 ?_
  refine cl_X10_61 c_mIn dX10_sequences_3 rfl (Nat.le_of_ble_eq_true rfl) ?_
  refine ev_if_ne (tgt := 12) dX10_sequences_6 (by decide) (fun h6 => ?_) (fun h6 => ?_)
  · refine ev_iload_2 dX10_sequences_12 ?_
    refine ev_iconst_0 dX10_sequences_13 ?_
    refine ev_iconst_1 dX10_sequences_14 ?_
    refine cl_X10_61 c_mIn dX10_sequences_15 rfl (Nat.le_of_ble_eq_true rfl) ?_
    refine ev_if_ne (tgt := 23) dX10_sequences_18 (by decide) (fun h18 => ?_) (fun h18 => ?_)
    · refine ev_aload_0 dX10_sequences_23 ?_
      refine cg_X10_239 (c_mLooks hm hg hG hW hk0) hm.1 dX10_sequences_24 rfl (Nat.le_of_ble_eq_true rfl) (fun σ1 h124 => ?_)
      obtain ⟨hk, f1, f72⟩ := h124
      have g124 := f1.now hg
      have hs1 : sqR σ1 g := by unfold sqR; rw [f72]; exact hs0
      refine ev_iload_1 dX10_sequences_27 ?_
      refine ev_iconst_2 dX10_sequences_28 ?_
      refine ev_icmp_ge (tgt := 47) dX10_sequences_29 (by decide) (fun h29 => ?_) (fun h29 => ?_)
      · refine ev_aload_0 dX10_sequences_47 ?_
        refine gf_X10_42 dX10_sequences_48 hm.1 rfl ?_
        refine ev_iconst_2 dX10_sequences_51 ?_
        refine ev_ldk (k := 2) hm.2.2.2.2.2.2.2.2.2.2.2.1 rfl rfl (by omega) (by decide) dX10_sequences_52 ?_
        refine ev_if_lt (tgt := 63) dX10_sequences_53 (by decide) (fun h53 => ?_) (fun h53 => ?_)
        · refine ev_iconst_0 dX10_sequences_63 ?_
          refine ev_istore_3 dX10_sequences_64 rfl rfl ?_
          refine ev_iconst_0 dX10_sequences_65 ?_
          refine ev_istore_4 dX10_sequences_66 rfl rfl ?_
          have e2 : seqG g (nI d) = pairG g := by
            have h2 : ¬ d < 2 := fun z => absurd h29 (nI_ge (b := 2) z (by decide))
            have : d = 2 := by omega
            subst this
            unfold seqG
            rw [if_neg (by decide), if_neg (by decide)]
          rw [e2]
          exact Ev.to (by rfl) rfl rfl (c_mSeq_68 hm hG hW _ 0 rfl (Nat.zero_le _) σ1 g124 hk f1)
        · refine ev_aload_0 dX10_sequences_56 ?_
          refine gf_X10_42 dX10_sequences_57 hm.1 rfl ?_
          refine ev_iconst_2 dX10_sequences_60 ?_
          refine ev_ldk (k := 2) hm.2.2.2.2.2.2.2.2.2.2.2.1 rfl rfl (by omega) (by decide) dX10_sequences_61 ?_
          first
          | exact ev_pi dX10_sequences_62 ⟨by unfold seqG; rw [if_pos h33]; rfl, hk, hs1, f1⟩
          | exact ev_pi dX10_sequences_62 ⟨by
              have h2 : d < 2 := (nI_ltI (by omega) (b := 2) (by decide)).mp (Int32.not_le.mp h29)
              have h1 : ¬ d = 0 := fun z => h33 (by rw [z]; rfl)
              have : d = 1 := by omega
              subst this
              unfold seqG
              rw [if_neg (by decide), if_pos (show nI 1 = 1 from rfl)], hk, hs1, f1⟩
          | exact ev_pi dX10_sequences_62 ⟨by
              have e2 : seqG g (nI d) = pairG g := by
                have h2 : ¬ d < 2 := fun z => absurd h29 (nI_ge (b := 2) z (by decide))
                have : d = 2 := by omega
                subst this
                unfold seqG
                rw [if_neg (by decide), if_neg (by decide)]
              rw [e2]
              rcases hs1 with z | z
              · exact absurd (by rw [z]; decide) h53
              · exact z, hk, hs1, f1⟩
      · refine ev_iload_1 dX10_sequences_32 ?_
        refine ev_if_ne (tgt := 40) dX10_sequences_33 (by decide) (fun h33 => ?_) (fun h33 => ?_)
        · refine ev_aload_0 dX10_sequences_40 ?_
          refine gf_X10_36 dX10_sequences_41 hm.1 rfl ?_
          refine ev_iconst_0 dX10_sequences_44 ?_
          refine ev_ldk (k := 0) hm.2.2.2.2.2.2.2.2.2.1 rfl rfl (by omega) (by decide) dX10_sequences_45 ?_
          rw [hk.2.1]
          first
          | exact ev_pi dX10_sequences_46 ⟨by unfold seqG; rw [if_pos h33]; rfl, hk, hs1, f1⟩
          | exact ev_pi dX10_sequences_46 ⟨by
              have h2 : d < 2 := (nI_ltI (by omega) (b := 2) (by decide)).mp (Int32.not_le.mp h29)
              have h1 : ¬ d = 0 := fun z => h33 (by rw [z]; rfl)
              have : d = 1 := by omega
              subst this
              unfold seqG
              rw [if_neg (by decide), if_pos (show nI 1 = 1 from rfl)], hk, hs1, f1⟩
          | exact ev_pi dX10_sequences_46 ⟨by
              have e2 : seqG g (nI d) = pairG g := by
                have h2 : ¬ d < 2 := fun z => absurd h29 (nI_ge (b := 2) z (by decide))
                have : d = 2 := by omega
                subst this
                unfold seqG
                rw [if_neg (by decide), if_neg (by decide)]
              rw [e2]
              rcases hs1 with z | z
              · exact absurd (by rw [z]; decide) h53
              · exact z, hk, hs1, f1⟩
        · refine ev_iconst_1 dX10_sequences_36 ?_
          refine ev_goto (tgt := 46) dX10_sequences_37 (by decide) ?_
          first
          | exact ev_pi dX10_sequences_46 ⟨by unfold seqG; rw [if_pos h33]; rfl, hk, hs1, f1⟩
          | exact ev_pi dX10_sequences_46 ⟨by
              have h2 : d < 2 := (nI_ltI (by omega) (b := 2) (by decide)).mp (Int32.not_le.mp h29)
              have h1 : ¬ d = 0 := fun z => h33 (by rw [z]; rfl)
              have : d = 1 := by omega
              subst this
              unfold seqG
              rw [if_neg (by decide), if_pos (show nI 1 = 1 from rfl)], hk, hs1, f1⟩
          | exact ev_pi dX10_sequences_46 ⟨by
              have e2 : seqG g (nI d) = pairG g := by
                have h2 : ¬ d < 2 := fun z => absurd h29 (nI_ge (b := 2) z (by decide))
                have : d = 2 := by omega
                subst this
                unfold seqG
                rw [if_neg (by decide), if_neg (by decide)]
              rw [e2]
              rcases hs1 with z | z
              · exact absurd (by rw [z]; decide) h53
              · exact z, hk, hs1, f1⟩
    · exact absurd h18 (by rw [inB_bt, isBt_of hk1]; decide)
  · exact absurd h6 (by rw [inB_n (lo := 0) (hi := 2) (b := 0) (c := 2) rfl rfl (Nat.zero_le _) hd (by decide)]; decide)
set_option maxRecDepth 100000 in
set_option maxHeartbeats 4000000 in
theorem c_mMakeNo {ae ad : Nat → Nat} {sh : mSh} {σ : mSt} (hm : mModel ad sh) {g : Nat → Int32} (hg : σ.1 62 = g) (hG : wfP g) (hW : wfL g) (hk0 : lkR σ g) {i : Int32} (hi : pickG g i = none) : Ct yX10_make cX10_make 3 (some .int) 10 0 0 [.ref (ad 61), .int i] ae ad sh σ (mPi ad sh (fun x σ' => x = -1 ∧ mdR σ' g ∧ frM σ σ' ∧ σ'.1 72 = σ.1 72)) := by
  refine Ct.ofL (own := RX10) (ini := false) (ls := [some (.ref (ad 61)), some (.int i), none]) (by decide +kernel) rfl (fun h => by cases h) (Nat.le_of_ble_eq_true rfl) rfl ?_
  refine ev_aload_0 dX10_make_0 ?_
  refine cg_X10_239 (c_mLooks hm hg hG hW hk0) hm.1 dX10_make_1 rfl (Nat.le_of_ble_eq_true rfl) (fun σ1 h11 => ?_)
  obtain ⟨hk, f1, f72⟩ := h11
  have g11 := f1.now hg
  refine ev_iload_1 dX10_make_4 ?_
  refine ev_iconst_0 dX10_make_5 ?_
  refine ev_aload_0 dX10_make_6 ?_
  refine gf_X10_36 dX10_make_7 hm.1 rfl ?_
  refine ev_iconst_0 dX10_make_10 ?_
  refine ev_ldk (k := 0) hm.2.2.2.2.2.2.2.2.2.1 rfl rfl (by omega) (by decide) dX10_make_11 ?_
  rw [hk.2.1]
  refine ev_iconst_1 dX10_make_12 ?_
  refine ev_isub dX10_make_13 ?_
  refine cl_X10_61 c_mIn dX10_make_14 rfl (Nat.le_of_ble_eq_true rfl) ?_
  rw [pickN_none hG hi]
  refine ev_if_ne (tgt := 22) dX10_make_17 (by decide) (fun h17 => absurd h17 (by decide)) (fun h17 => ?_)
  refine ev_iconst_m1 dX10_make_20 ?_
  exact ev_pi dX10_make_21 ⟨rfl, hk, f1, f72⟩
set_option maxRecDepth 100000 in
set_option maxHeartbeats 4000000 in
theorem c_mMakeFull {ae ad : Nat → Nat} {sh : mSh} {σ : mSt} (hm : mModel ad sh) {g : Nat → Int32} (hg : σ.1 62 = g) (hG : wfP g) (hW : wfL g) (hk0 : lkR σ g) {kk m : Nat} (hkk : (legalG g)[kk]? = some m) (hkl : kk < (legalG g).length) (hin : inB (nI kk) 0 (nI (legalG g).length - 1) = true) (hD : g 57 = nI 40) : Ct yX10_make cX10_make 3 (some .int) 10 0 0 [.ref (ad 61), .int (nI kk)] ae ad sh σ (mPi ad sh (fun x σ' => x = -4 ∧ mdR σ' g ∧ frM σ σ' ∧ σ'.1 72 = σ.1 72)) := by
  refine Ct.ofL (own := RX10) (ini := false) (ls := [some (.ref (ad 61)), some (.int (nI kk)), none]) (by decide +kernel) rfl (fun h => by cases h) (Nat.le_of_ble_eq_true rfl) rfl ?_
  refine ev_aload_0 dX10_make_0 ?_
  refine cg_X10_239 (c_mLooks hm hg hG hW hk0) hm.1 dX10_make_1 rfl (Nat.le_of_ble_eq_true rfl) (fun σ1 h11 => ?_)
  obtain ⟨hk, f1, f72⟩ := h11
  have g11 := f1.now hg
  refine ev_iload_1 dX10_make_4 ?_
  refine ev_iconst_0 dX10_make_5 ?_
  refine ev_aload_0 dX10_make_6 ?_
  refine gf_X10_36 dX10_make_7 hm.1 rfl ?_
  refine ev_iconst_0 dX10_make_10 ?_
  refine ev_ldk (k := 0) hm.2.2.2.2.2.2.2.2.2.1 rfl rfl (by omega) (by decide) dX10_make_11 ?_
  rw [hk.2.1]
  refine ev_iconst_1 dX10_make_12 ?_
  refine ev_isub dX10_make_13 ?_
  refine cl_X10_61 c_mIn dX10_make_14 rfl (Nat.le_of_ble_eq_true rfl) ?_
  rw [hin]
  refine ev_if_ne (tgt := 22) dX10_make_17 (by decide) (fun h17 => ?_) (fun h17 => ?_)
  · refine ev_aload_0 dX10_make_22 ?_
    refine gf_X10_11 dX10_make_23 hm.1 rfl ?_
    refine ev_bipush_57 dX10_make_26 ?_
    refine ev_ldk (k := 57) hm.2.1 g11 rfl (by omega) (by decide) dX10_make_28 ?_
    rw [hD]
    refine ev_bipush_40 dX10_make_29 ?_
    refine ev_icmp_ne (tgt := 37) dX10_make_31 (by decide) (fun h31 => ?_) (fun h31 => ?_)
    · exact absurd (show nI 40 = 40 from rfl) h31
    · refine ev_bipush_m4 dX10_make_34 ?_
      exact ev_pi dX10_make_36 ⟨rfl, hk, f1, f72⟩
  · exact absurd h17 (by decide)
/-- the row with its position laid behind the made moves -/
def lnF (g : Nat → Int32) (D n : Nat) : Nat → Int32 := fun i => if 208 + 53 * D ≤ i ∧ i < 208 + 53 * D + n then g (i - (208 + 53 * D)) else g i
theorem ln_0 {g : Nat → Int32} {D : Nat} : lnF g D 0 = g := by
  funext i; unfold lnF; rw [if_neg (by omega)]
theorem ln_lo {g : Nat → Int32} {D n i : Nat} (h : i < 208) : lnF g D n i = g i := by
  unfold lnF; rw [if_neg (by omega)]
theorem ln_s {g : Nat → Int32} {D n : Nat} : upd (lnF g D n) (208 + 53 * D + n) (g n) = lnF g D (n + 1) := by
  funext i
  by_cases z : i = 208 + 53 * D + n
  · subst z
    rw [upd_at]
    unfold lnF
    rw [if_pos (by omega), Nat.add_sub_cancel_left]
  · rw [upd_ne z]
    unfold lnF
    by_cases y : 208 + 53 * D ≤ i ∧ i < 208 + 53 * D + n
    · rw [if_pos y, if_pos (by omega)]
    · rw [if_neg y, if_neg (by omega)]
theorem ln_55 {g : Nat → Int32} {D n : Nat} : ∀ i, i < 208 → lnF g D n i = g i := fun i hi => ln_lo hi

set_option maxRecDepth 100000 in
set_option maxHeartbeats 4000000 in
theorem c_mMake_39 {ae ad : Nat → Nat} {sh : mSh} {σ : mSt} (hm : mModel ad sh) {g : Nat → Int32} {D : Nat} (hD : g 57 = nI D) (hD4 : D < 40) {kk : Nat} {Post : mPost} (K : ∀ σ' : mSt, (σ'.1 62 = lnF g D 53 ∧ (∀ j, j ≠ 62 → σ'.1 j = σ.1 j) ∧ σ'.2 = σ.2) → Ev RX10 cX10_make 3 false (some .int) (mRm 10 0 0) ae Post 78 [some (.ref (ad 61)), some (.int (nI kk)), none] [] 0 0 ad sh σ') : ∀ (n i : Nat), 53 - i = n → i ≤ 53 → ∀ σ2 : mSt, (σ2.1 62 = lnF g D i ∧ (∀ j, j ≠ 62 → σ2.1 j = σ.1 j) ∧ σ2.2 = σ.2) → Ev RX10 cX10_make 3 false (some .int) (mRm 10 0 0) ae Post 39 [some (.ref (ad 61)), some (.int (nI kk)), some (.int (nI i))] [] 0 0 ad sh σ2 := by
  intro n
  induction n with
  | zero =>
    intro i hn0 hi σ2 hn
    have e : i = 53 := by omega
    subst e
    refine ev_iload_2 dX10_make_39 ?_
    refine ev_bipush_53 dX10_make_40 ?_
    refine ev_icmp_ge (tgt := 78) dX10_make_42 (by decide) (fun h42 => ?_) (fun h42 => absurd (Int32.le_refl _) h42)
    refine ev_drop_2 ?_
    exact K _ hn
  | succ n ih =>
    intro i hn0 hi σ2 hn
    have hlt : i < 53 := by omega
    refine ev_iload_2 dX10_make_39 ?_
    refine ev_bipush_53 dX10_make_40 ?_
    refine ev_icmp_ge (tgt := 78) dX10_make_42 (by decide) (fun h42 => absurd h42 (nI_ge (b := 53) hlt (by decide))) (fun h42 => ?_)
    refine ev_aload_0 dX10_make_45 ?_
    refine gf_X10_11 dX10_make_46 hm.1 rfl ?_
    refine ev_sipush_208 dX10_make_49 ?_
    refine ev_bipush_53 dX10_make_52 ?_
    refine ev_aload_0 dX10_make_54 ?_
    refine gf_X10_11 dX10_make_55 hm.1 rfl ?_
    refine ev_bipush_57 dX10_make_58 ?_
    refine ev_ldk (k := 57) hm.2.1 hn.1 rfl (by omega) (by decide) dX10_make_60 ?_
    rw [ln_lo (by decide), hD]
    refine ev_imul dX10_make_61 ?_
    rw [show (53 : Int32) * nI D = nI (53 * D) from nI_mul (53) (D)]
    refine ev_iadd dX10_make_62 ?_
    rw [show (208 : Int32) + nI (53 * D) = nI (208 + (53 * D)) from nI_add (208) (53 * D)]
    refine ev_iload_2 dX10_make_63 ?_
    refine ev_iadd dX10_make_64 ?_
    rw [show nI (208 + (53 * D)) + nI i = nI (208 + (53 * D) + i) from nI_add (208 + (53 * D)) (i)]
    refine ev_aload_0 dX10_make_65 ?_
    refine gf_X10_11 dX10_make_66 hm.1 rfl ?_
    refine ev_iload_2 dX10_make_69 ?_
    refine ev_ldk (k := i) hm.2.1 hn.1 rfl (by omega) (by decide) dX10_make_70 ?_
    rw [ln_lo (by omega)]
    refine ev_stk (k := 208 + (53 * D) + i) hm.2.1 hn.1 rfl (by omega) (by decide) dX10_make_71 (fun σ71 hw71 hf71 hl71 => ?_)
    refine ev_iinc_2 (v := 1) dX10_make_72 (by decide) rfl rfl ?_
    rw [show nI i + 1 = nI (i + 1) from nI_add (i) 1]
    refine ev_goto (tgt := 39) dX10_make_75 (by decide) ?_
    exact ih (i + 1) (by omega) (by omega) _ ⟨hw71.trans ln_s, fun j xx => (hf71 j xx).trans (hn.2.1 j xx), hl71.trans hn.2.2⟩
theorem playsG_lw {g g' : Nat → Int32} (hG : wfP g) (hW : wfL g) {m : Nat} (hm : mvOk g m) (h : ∀ i, i < 208 → g' i = g i) : (∀ i, i < 53 → playsG g' m i = playsG g m i) ∧ wfP g' ∧ wfL g' ∧ mvOk g' m ∧ fromN g' m = fromN g m ∧ toN g' m = toN g m ∧ whN g' m = whN g m := by
  have h36 := sq36 hG
  have hG' : wfP g' := wfP_lw (fun i hi => h i (by omega)) hG
  have hW' : wfL g' := wfL_of (fun i _ h2 _ => h i h2) (fun k hk z => by rw [← z]; unfold riN clN; rw [h _ (by omega)]) hW
  have hc : ∀ i, i < 208 → clN g' i = clN g i := fun i hi => by rw [clN, clN, h i hi]
  have ec : cN g' = cN g := hc _ (by decide)
  have er : rN g' = rN g := hc _ (by decide)
  have etu : tuN g' = tuN g := hc _ (by decide)
  have emN : ∀ q, q < 36 → mN g' q = mN g q := fun q hq => hc _ (by omega)
  have ehN : ∀ i, i < 12 → hN g' i = hN g i := fun i hi => hc _ (by omega)
  have eri : ∀ k, k < 4 → riN g' k = riN g k := fun k hk => hc _ (by omega)
  have eex : ∀ k, k < 4 → exN g' k = exN g k := fun k hk => hc _ (by omega)
  have eca : ∀ k i, k < 4 → i ≤ 5 → caN g' k i = caN g k i := fun k i hk hi => hc _ (by omega)
  have epr : ∀ t, t < 6 → proN g' t = proN g t := fun t ht => hc _ (by omega)
  have htu := tu_le hG
  rcases hm with ⟨k1, v1, v2, v3, v4, v5⟩ | ⟨k1, v1, v2, v3, v4, v5, v6, v7, v8, v9⟩ | ⟨k1, v1, v2, v3, v4⟩
  · have hm0 : mvOk g m := Or.inl ⟨k1, v1, v2, v3, v4, v5⟩
    have h12 := wf_m hG (q := mA m) (by omega)
    have hc12 := wf_m hG (q := mB m) (by omega)
    have hty := tyN_lt v3 h12
    have ea := emN (mA m) (by omega)
    have eb := emN (mB m) (by omega)
    have hm' : mvOk g' m := Or.inl ⟨k1, by rw [ec, er]; exact v1, by rw [ec, er]; exact v2, by rw [ea]; exact v3, by rw [ea, etu]; exact v4, v5⟩
    have efar : ∀ s q, farG g' s q = farG g s q := fun s q => by unfold farG; rw [ec, er]
    have ego : goerN g' m = goerN g m := by unfold goerN; rw [if_pos k1, if_pos k1, ea]
    have epb : proB g' m = proB g m := by unfold proB; rw [ea, epr _ hty, efar]
    have ecap : capN g' m = capN g m := by unfold capN; rw [if_pos k1, if_pos k1, eb]
    have hgt : goerN g m = mN g (mA m) := if_pos k1
    have earr : arrN g' m = arrN g m := by
      unfold arrN
      rw [epb, ego, hgt, epr _ hty]
    have esq : ∀ q, q < 36 → sqP g' m q = sqP g m q := fun q hq => by
      rw [← congrFun (sq_man (g := g') k1) q, ← congrFun (sq_man (g := g) k1) q, earr]
      unfold updN
      rw [emN q hq]
    have egn : gainB g' m = gainB g m := by
      unfold gainB
      rw [ecap, hc 55 (by decide), etu]
      by_cases z : capN g m = 0
      · rw [z]; simp
      · have e2 : capN g m = mN g (mB m) := if_pos k1
        have := tyN_lt (m := capN g m) (by omega) (by omega)
        rw [ehN _ (by omega)]
    have ehd : ∀ i, i < 12 → hdP g' m i = hdP g m i := fun i hi => by
      unfold hdP
      rw [egn, etu, ecap, ehN i hi]
    have ets : ∀ q, tSet g' m q = tSet g m q := fun q => by
      unfold tSet
      rw [if_neg (by omega), if_neg (by omega)]
    have eri2 : ∀ k, k < 4 → riP g' m k = riP g m k := fun k hk => by
      unfold riP tchB
      rw [ets, ets, eca k 2 hk (by decide), eca k 4 hk (by decide), eri k hk]
    refine ⟨fun i hi => ?_, hG', hW', hm', ?_, ?_, ?_⟩
    · unfold playsG
      rw [etu]
      by_cases i0 : i = 0
      · rw [if_pos i0, if_pos i0]
      · rw [if_neg i0, if_neg i0]
        by_cases i1 : i < 37
        · rw [if_pos i1, if_pos i1, esq _ (by omega)]
        · rw [if_neg i1, if_neg i1]
          by_cases i2 : i < 49
          · rw [if_pos i2, if_pos i2, ehd _ (by omega)]
          · rw [if_neg i2, if_neg i2, if_pos hi, if_pos hi, eri2 _ (by omega)]
    · unfold fromN; rw [if_pos k1, if_pos k1]
    · unfold toN; rw [if_neg (by omega), if_neg (by omega)]
    · unfold whN; rw [if_pos k1, if_pos k1, ea]
  · have c2 := ca_lt hW (k := mA m) v1 (i := 2) (by decide) (by decide)
    have c3 := ca_lt hW (k := mA m) v1 (i := 3) (by decide) (by decide)
    have c4 := ca_lt hW (k := mA m) v1 (i := 4) (by decide) (by decide)
    have c5 := ca_lt hW (k := mA m) v1 (i := 5) (by decide) (by decide)
    have e2 := eca (mA m) 2 v1 (by decide)
    have e3 := eca (mA m) 3 v1 (by decide)
    have e4 := eca (mA m) 4 v1 (by decide)
    have e5 := eca (mA m) 5 v1 (by decide)
    have hm' : mvOk g' m := Or.inr (Or.inl ⟨k1, v1, by rw [eex _ v1]; exact v2, by rw [e2, emN _ c2]; exact v3, by rw [e4, emN _ c4]; exact v4, by rw [e2, e4]; exact v5, by rw [e3, e5]; exact v6, by rw [e2, e3, e4, emN _ c3]; exact v7, by rw [e2, e4, e5, emN _ c5]; exact v8, v9⟩)
    have esq : ∀ q, q < 36 → sqP g' m q = sqP g m q := fun q hq => by
      rw [← congrFun (sq_cast (g := g') k1) q, ← congrFun (sq_cast (g := g) k1) q]
      show updN (updN (updN (updN (mN g') (caN g' (mA m) 2) 0) (caN g' (mA m) 4) 0) (caN g' (mA m) 3) (mN g' (caN g' (mA m) 2))) (caN g' (mA m) 5) (mN g' (caN g' (mA m) 4)) q = updN (updN (updN (updN (mN g) (caN g (mA m) 2) 0) (caN g (mA m) 4) 0) (caN g (mA m) 3) (mN g (caN g (mA m) 2))) (caN g (mA m) 5) (mN g (caN g (mA m) 4)) q
      rw [e2, e3, e4, e5, emN _ c2, emN _ c4]
      unfold updN
      rw [emN q hq]
    have ehd : ∀ i, i < 12 → hdP g' m i = hdP g m i := fun i hi => by
      rw [← congrFun (hd_cast (g := g') k1) i, ← congrFun (hd_cast (g := g) k1) i, ehN i hi]
    have ets : ∀ q, tSet g' m q = tSet g m q := fun q => by
      unfold tSet
      rw [if_pos k1, if_pos k1]
      simp only [anyF]
      rw [eca _ _ v1 (by decide), eca _ _ v1 (by decide), eca _ _ v1 (by decide), eca _ _ v1 (by decide)]
    have eri2 : ∀ k, k < 4 → riP g' m k = riP g m k := fun k hk => by
      unfold riP tchB
      rw [ets, ets, eca k 2 hk (by decide), eca k 4 hk (by decide), eri k hk]
    refine ⟨fun i hi => ?_, hG', hW', hm', ?_, ?_, ?_⟩
    · unfold playsG
      rw [etu]
      by_cases i0 : i = 0
      · rw [if_pos i0, if_pos i0]
      · rw [if_neg i0, if_neg i0]
        by_cases i1 : i < 37
        · rw [if_pos i1, if_pos i1, esq _ (by omega)]
        · rw [if_neg i1, if_neg i1]
          by_cases i2 : i < 49
          · rw [if_pos i2, if_pos i2, ehd _ (by omega)]
          · rw [if_neg i2, if_neg i2, if_pos hi, if_pos hi, eri2 _ (by omega)]
    · unfold fromN; rw [if_neg (by omega), if_pos k1, if_neg (by omega), if_pos k1, e2]
    · unfold toN; rw [if_pos k1, if_pos k1, e3]
    · unfold whN; rw [if_neg (by omega), if_neg (by omega)]
  · have eb := emN (mB m) (by omega)
    have hm' : mvOk g' m := Or.inr (Or.inr ⟨k1, v1, by rw [ec, er]; exact v2, by rw [eb]; exact v3, by rw [etu, ehN _ (by omega)]; exact v4⟩)
    have ego : goerN g' m = goerN g m := by unfold goerN; rw [if_neg (by omega), if_neg (by omega), if_neg (by omega), if_neg (by omega), etu]
    have esq : ∀ q, q < 36 → sqP g' m q = sqP g m q := fun q hq => by
      rw [← congrFun (sq_drop (g := g') k1) q, ← congrFun (sq_drop (g := g) k1) q, ego]
      unfold updN
      rw [emN q hq]
    have ehd : ∀ i, i < 12 → hdP g' m i = hdP g m i := fun i hi => by
      rw [← congrFun (hd_drop (g := g') k1) i, ← congrFun (hd_drop (g := g) k1) i, etu]
      unfold updN
      rw [ehN i hi, ehN _ (by omega)]
    have ets : ∀ q, tSet g' m q = tSet g m q := fun q => by
      unfold tSet
      rw [if_neg (by omega), if_neg (by omega)]
    have eri2 : ∀ k, k < 4 → riP g' m k = riP g m k := fun k hk => by
      unfold riP tchB
      rw [ets, ets, eca k 2 hk (by decide), eca k 4 hk (by decide), eri k hk]
    refine ⟨fun i hi => ?_, hG', hW', hm', ?_, ?_, ?_⟩
    · unfold playsG
      rw [etu]
      by_cases i0 : i = 0
      · rw [if_pos i0, if_pos i0]
      · rw [if_neg i0, if_neg i0]
        by_cases i1 : i < 37
        · rw [if_pos i1, if_pos i1, esq _ (by omega)]
        · rw [if_neg i1, if_neg i1]
          by_cases i2 : i < 49
          · rw [if_pos i2, if_pos i2, ehd _ (by omega)]
          · rw [if_neg i2, if_neg i2, if_pos hi, if_pos hi, eri2 _ (by omega)]
    · unfold fromN; rw [if_neg (by omega), if_neg (by omega), if_neg (by omega), if_neg (by omega)]
    · unfold toN; rw [if_neg (by omega), if_neg (by omega)]
    · unfold whN; rw [if_neg (by omega), if_neg (by omega)]

