theorem dgF_s (f : Nat → Int32) (n : Nat) (d : Int32) : dgF f (n + 1) d = 31 * dgF f n d + f n := rfl
theorem ri_ex {g : Nat → Int32} (hG : wfP g) (hW : wfL g) {k : Nat} (hk : k < 4) (h : ¬ g (184 + 6 * k) = 1) : (0 : Int32) = g (49 + k) := by
  obtain ⟨⟨a1, a2⟩, _, _, a4⟩ := hW.2.2.2.2.2.2 k hk
  obtain ⟨b1, b2⟩ := hG.2.2.2.2.1 k hk
  have h0 : riN g k = 0 := by
    rcases (show riN g k = 0 ∨ riN g k = 1 by omega) with z | z
    · exact z
    · exact absurd (by rw [a1, a4 z]; rfl) h
  rw [b1, h0]; rfl

set_option maxRecDepth 100000 in
set_option maxHeartbeats 4000000 in
theorem c_mDig_76 {ae ad : Nat → Nat} {sh : mSh} {σ : mSt} (hm : mModel ad sh) {g : Nat → Int32} (hg : σ.1 62 = g) (hG : wfP g) (hW : wfL g) : ∀ (n i : Nat), 4 - i = n → i ≤ 4 → Ev RX10 cX10_digestOf 3 false (some .int) (mRm 1 0 0) ae (mEq (some (.int (dgG g))) ad sh σ) 76 [some (.ref (ad 61)), some (.int (dgF (fun k => g (49 + k)) i (31 * dgF (fun i => g (37 + i)) 12 (dgF (fun q => g (1 + q)) (cN g * rN g) 17) + g 0))), some (.int (nI i))] [] 0 0 ad sh σ := by
  intro n
  induction n with
  | zero =>
    intro i hn hi 
    have e : i = 4 := by omega
    subst e
    have hN := sq36 hG
    refine ev_iload_2 dX10_digestOf_76 ?_
    refine ev_iconst_4 dX10_digestOf_77 ?_
    refine ev_icmp_ge (tgt := 119) dX10_digestOf_78 (by decide) (fun h78 => ?_) (fun h78 => absurd (Int32.le_refl _) h78)
    refine ev_iload_1 dX10_digestOf_119 ?_
    exact ev_ireturn dX10_digestOf_120
  | succ n ih =>
    intro i hn hi 
    have hlt : i < 4 := by omega
    have hN := sq36 hG
    refine ev_iload_2 dX10_digestOf_76 ?_
    refine ev_iconst_4 dX10_digestOf_77 ?_
    refine ev_icmp_ge (tgt := 119) dX10_digestOf_78 (by decide) (fun h78 => absurd h78 (nI_ge (b := 4) hlt (by decide))) (fun h78 => ?_)
    refine ev_bipush_31 dX10_digestOf_81 ?_
    refine ev_iload_1 dX10_digestOf_83 ?_
    refine ev_imul dX10_digestOf_84 ?_
    refine ev_aload_0 dX10_digestOf_85 ?_
    refine gf_X10_11 dX10_digestOf_86 hm.1 rfl ?_
    refine ev_iload_2 dX10_digestOf_89 ?_
    refine cl_X10_72 (c_castleAt (t := (i))) dX10_digestOf_90 rfl (Nat.le_of_ble_eq_true rfl) ?_
    refine ev_ldk (k := 184 + 6 * i) hm.2.1 hg rfl (by omega) (by decide) dX10_digestOf_93 ?_
    refine ev_iconst_1 dX10_digestOf_94 ?_
    refine ev_icmp_ne (tgt := 110) dX10_digestOf_95 (by decide) (fun h95 => ?_) (fun h95 => ?_)
    · refine ev_iconst_0 dX10_digestOf_110 ?_
      rw [ri_ex hG hW hlt h95]
      refine ev_iadd dX10_digestOf_111 ?_
      refine ev_istore_1 dX10_digestOf_112 rfl rfl ?_
      refine ev_iinc_2 (v := 1) dX10_digestOf_113 (by decide) rfl rfl ?_
      rw [show nI i + 1 = nI (i + 1) from nI_add (i) 1]
      refine ev_goto (tgt := 76) dX10_digestOf_116 (by decide) ?_
      exact Ev.to (by rfl) rfl rfl (ih (i + 1) (by omega) (by omega))
    · refine ev_aload_0 dX10_digestOf_98 ?_
      refine gf_X10_11 dX10_digestOf_99 hm.1 rfl ?_
      refine ev_bipush_49 dX10_digestOf_102 ?_
      refine ev_iload_2 dX10_digestOf_104 ?_
      refine ev_iadd dX10_digestOf_105 ?_
      rw [show (49 : Int32) + nI i = nI (49 + i) from nI_add (49) (i)]
      refine ev_ldk (k := 49 + i) hm.2.1 hg rfl (by omega) (by decide) dX10_digestOf_106 ?_
      refine ev_goto (tgt := 111) dX10_digestOf_107 (by decide) ?_
      refine ev_iadd dX10_digestOf_111 ?_
      refine ev_istore_1 dX10_digestOf_112 rfl rfl ?_
      refine ev_iinc_2 (v := 1) dX10_digestOf_113 (by decide) rfl rfl ?_
      rw [show nI i + 1 = nI (i + 1) from nI_add (i) 1]
      refine ev_goto (tgt := 76) dX10_digestOf_116 (by decide) ?_
      exact Ev.to (by rfl) rfl rfl (ih (i + 1) (by omega) (by omega))
set_option maxRecDepth 100000 in
set_option maxHeartbeats 4000000 in
theorem c_mDig_35 {ae ad : Nat → Nat} {sh : mSh} {σ : mSt} (hm : mModel ad sh) {g : Nat → Int32} (hg : σ.1 62 = g) (hG : wfP g) (hW : wfL g) : ∀ (n i : Nat), 12 - i = n → i ≤ 12 → Ev RX10 cX10_digestOf 3 false (some .int) (mRm 1 0 0) ae (mEq (some (.int (dgG g))) ad sh σ) 35 [some (.ref (ad 61)), some (.int (dgF (fun i => g (37 + i)) i (dgF (fun q => g (1 + q)) (cN g * rN g) 17))), some (.int (nI i))] [] 0 0 ad sh σ := by
  intro n
  induction n with
  | zero =>
    intro i hn hi 
    have e : i = 12 := by omega
    subst e
    have hN := sq36 hG
    refine ev_iload_2 dX10_digestOf_35 ?_
    refine ev_bipush_12 dX10_digestOf_36 ?_
    refine ev_icmp_ge (tgt := 62) dX10_digestOf_38 (by decide) (fun h38 => ?_) (fun h38 => absurd (Int32.le_refl _) h38)
    refine ev_bipush_31 dX10_digestOf_62 ?_
    refine ev_iload_1 dX10_digestOf_64 ?_
    refine ev_imul dX10_digestOf_65 ?_
    refine ev_aload_0 dX10_digestOf_66 ?_
    refine gf_X10_11 dX10_digestOf_67 hm.1 rfl ?_
    refine ev_iconst_0 dX10_digestOf_70 ?_
    refine ev_ldk (k := 0) hm.2.1 hg rfl (by omega) (by decide) dX10_digestOf_71 ?_
    refine ev_iadd dX10_digestOf_72 ?_
    refine ev_istore_1 dX10_digestOf_73 rfl rfl ?_
    refine ev_iconst_0 dX10_digestOf_74 ?_
    refine ev_istore_2 dX10_digestOf_75 rfl rfl ?_
    exact c_mDig_76 hm hg hG hW 4 0 rfl (by decide)
  | succ n ih =>
    intro i hn hi 
    have hlt : i < 12 := by omega
    have hN := sq36 hG
    refine ev_iload_2 dX10_digestOf_35 ?_
    refine ev_bipush_12 dX10_digestOf_36 ?_
    refine ev_icmp_ge (tgt := 62) dX10_digestOf_38 (by decide) (fun h38 => absurd h38 (nI_ge (b := 12) hlt (by decide))) (fun h38 => ?_)
    refine ev_bipush_31 dX10_digestOf_41 ?_
    refine ev_iload_1 dX10_digestOf_43 ?_
    refine ev_imul dX10_digestOf_44 ?_
    refine ev_aload_0 dX10_digestOf_45 ?_
    refine gf_X10_11 dX10_digestOf_46 hm.1 rfl ?_
    refine ev_bipush_37 dX10_digestOf_49 ?_
    refine ev_iload_2 dX10_digestOf_51 ?_
    refine ev_iadd dX10_digestOf_52 ?_
    rw [show (37 : Int32) + nI i = nI (37 + i) from nI_add (37) (i)]
    refine ev_ldk (k := 37 + i) hm.2.1 hg rfl (by omega) (by decide) dX10_digestOf_53 ?_
    refine ev_iadd dX10_digestOf_54 ?_
    refine ev_istore_1 dX10_digestOf_55 rfl rfl ?_
    refine ev_iinc_2 (v := 1) dX10_digestOf_56 (by decide) rfl rfl ?_
    rw [show nI i + 1 = nI (i + 1) from nI_add (i) 1]
    refine ev_goto (tgt := 35) dX10_digestOf_59 (by decide) ?_
    exact Ev.to (by rfl) rfl rfl (ih (i + 1) (by omega) (by omega))
set_option maxRecDepth 100000 in
set_option maxHeartbeats 4000000 in
theorem c_mDig_5 {ae ad : Nat → Nat} {sh : mSh} {σ : mSt} (hm : mModel ad sh) {g : Nat → Int32} (hg : σ.1 62 = g) (hG : wfP g) (hW : wfL g) : ∀ (n i : Nat), cN g * rN g - i = n → i ≤ cN g * rN g → Ev RX10 cX10_digestOf 3 false (some .int) (mRm 1 0 0) ae (mEq (some (.int (dgG g))) ad sh σ) 5 [some (.ref (ad 61)), some (.int (dgF (fun q => g (1 + q)) i (17))), some (.int (nI i))] [] 0 0 ad sh σ := by
  intro n
  induction n with
  | zero =>
    intro i hn hi 
    have e : i = cN g * rN g := by omega
    subst e
    have hN := sq36 hG
    refine ev_iload_2 dX10_digestOf_5 ?_
    refine ev_aload_0 dX10_digestOf_6 ?_
    refine cl_X10_65 (c_mSquares hm hg hG) hm.1 dX10_digestOf_7 rfl (Nat.le_of_ble_eq_true rfl) ?_
    refine ev_icmp_ge (tgt := 33) dX10_digestOf_10 (by decide) (fun h10 => ?_) (fun h10 => absurd (Int32.le_refl _) h10)
    refine ev_iconst_0 dX10_digestOf_33 ?_
    refine ev_istore_2 dX10_digestOf_34 rfl rfl ?_
    exact c_mDig_35 hm hg hG hW 12 0 rfl (by decide)
  | succ n ih =>
    intro i hn hi 
    have hlt : i < cN g * rN g := by omega
    have hN := sq36 hG
    refine ev_iload_2 dX10_digestOf_5 ?_
    refine ev_aload_0 dX10_digestOf_6 ?_
    refine cl_X10_65 (c_mSquares hm hg hG) hm.1 dX10_digestOf_7 rfl (Nat.le_of_ble_eq_true rfl) ?_
    refine ev_icmp_ge (tgt := 33) dX10_digestOf_10 (by decide) (fun h10 => absurd h10 (nI_ge hlt (by omega))) (fun h10 => ?_)
    refine ev_bipush_31 dX10_digestOf_13 ?_
    refine ev_iload_1 dX10_digestOf_15 ?_
    refine ev_imul dX10_digestOf_16 ?_
    refine ev_aload_0 dX10_digestOf_17 ?_
    refine gf_X10_11 dX10_digestOf_18 hm.1 rfl ?_
    refine ev_iconst_1 dX10_digestOf_21 ?_
    refine ev_iload_2 dX10_digestOf_22 ?_
    refine ev_iadd dX10_digestOf_23 ?_
    rw [show (1 : Int32) + nI i = nI (1 + i) from nI_add (1) (i)]
    refine ev_ldk (k := 1 + i) hm.2.1 hg rfl (by omega) (by decide) dX10_digestOf_24 ?_
    refine ev_iadd dX10_digestOf_25 ?_
    refine ev_istore_1 dX10_digestOf_26 rfl rfl ?_
    refine ev_iinc_2 (v := 1) dX10_digestOf_27 (by decide) rfl rfl ?_
    rw [show nI i + 1 = nI (i + 1) from nI_add (i) 1]
    refine ev_goto (tgt := 5) dX10_digestOf_30 (by decide) ?_
    exact Ev.to (by rfl) rfl rfl (ih (i + 1) (by omega) (by omega))
set_option maxRecDepth 100000 in
set_option maxHeartbeats 4000000 in
theorem c_mDigest {ae ad : Nat → Nat} {sh : mSh} {σ : mSt} (hm : mModel ad sh) {g : Nat → Int32} (hg : σ.1 62 = g) (hG : wfP g) (hW : wfL g) : Ct yX10_digestOf cX10_digestOf 3 (some .int) 1 0 0 [.ref (ad 61)] ae ad sh σ (mEq (some (.int (dgG g))) ad sh σ) := by
  refine Ct.ofL (own := RX10) (ini := false) (ls := [some (.ref (ad 61)), none, none]) (by decide +kernel) rfl (fun h => by cases h) (Nat.le_of_ble_eq_true rfl) rfl ?_
  refine ev_bipush_17 dX10_digestOf_0 ?_
  refine ev_istore_1 dX10_digestOf_2 rfl rfl ?_
  refine ev_iconst_0 dX10_digestOf_3 ?_
  refine ev_istore_2 dX10_digestOf_4 rfl rfl ?_
  exact c_mDig_5 hm hg hG hW _ 0 rfl (Nat.zero_le _)
set_option maxRecDepth 100000 in
set_option maxHeartbeats 4000000 in
theorem c_mStirs {ae ad : Nat → Nat} {sh : mSh} {σ : mSt} (hm : mModel ad sh) : Ct yX10_stirs cX10_stirs 2 none 0 0 0 [.ref (ad 61)] ae ad sh σ (mPv ad sh (fun σ' => σ'.1 61 = upd (σ.1 61) 13 0 ∧ (∀ k, k < 3 → σ'.1 72 k = -1) ∧ (∀ j, j ≠ 61 → j ≠ 72 → σ'.1 j = σ.1 j) ∧ σ'.2 = σ.2)) := by
  refine Ct.ofL (own := RX10) (ini := false) (ls := [some (.ref (ad 61)), none]) (by decide +kernel) rfl (fun h => by cases h) (Nat.le_of_ble_eq_true rfl) rfl ?_
  refine ev_aload_0 dX10_stirs_0 ?_
  refine ev_iconst_0 dX10_stirs_1 ?_
  refine pf_X10_75 (by decide) (by decide) dX10_stirs_2 hm.1 rfl ?_
  refine ev_abs (fun σ2 hw2 hf2 hl2 => ?_)
  have zsequenceKnown_2 := (hf2 72 (by decide)).trans (Eq.refl _)
  refine ev_iconst_0 dX10_stirs_5 ?_
  refine ev_istore_1 dX10_stirs_6 rfl rfl ?_
  refine ev_iload_1 dX10_stirs_7 ?_
  refine ev_iconst_3 dX10_stirs_8 ?_
  refine ev_icmp_ge (tgt := 25) dX10_stirs_9 (by decide) (fun h9 => absurd h9 (by decide)) (fun h9 => ?_)
  refine ev_aload_0 dX10_stirs_12 ?_
  refine gf_X10_42 dX10_stirs_13 hm.1 rfl ?_
  refine ev_iload_1 dX10_stirs_16 ?_
  refine ev_iconst_m1 dX10_stirs_17 ?_
  refine ev_stk (k := 0) hm.2.2.2.2.2.2.2.2.2.2.2.1 zsequenceKnown_2 rfl (by omega) (by decide) dX10_stirs_18 (fun σ18 hw18 hf18 hl18 => ?_)
  have zfld_18 := (hf18 61 (by decide)).trans hw2
  refine ev_iinc_1 (v := 1) dX10_stirs_19 (by decide) rfl rfl ?_
  rw [show (0 : Int32) + (1) = 1 from rfl]
  refine ev_goto (tgt := 7) dX10_stirs_22 (by decide) ?_
  refine ev_iload_1 dX10_stirs_7 ?_
  refine ev_iconst_3 dX10_stirs_8 ?_
  refine ev_icmp_ge (tgt := 25) dX10_stirs_9 (by decide) (fun h9 => absurd h9 (by decide)) (fun h9 => ?_)
  refine ev_aload_0 dX10_stirs_12 ?_
  refine gf_X10_42 dX10_stirs_13 hm.1 rfl ?_
  refine ev_iload_1 dX10_stirs_16 ?_
  refine ev_iconst_m1 dX10_stirs_17 ?_
  refine ev_stk (k := 1) hm.2.2.2.2.2.2.2.2.2.2.2.1 hw18 rfl (by omega) (by decide) dX10_stirs_18 (fun σ18r1 hw18r1 hf18r1 hl18r1 => ?_)
  have zfld_18r1 := (hf18r1 61 (by decide)).trans zfld_18
  refine ev_iinc_1 (v := 1) dX10_stirs_19 (by decide) rfl rfl ?_
  rw [show (1 : Int32) + (1) = 2 from rfl]
  refine ev_goto (tgt := 7) dX10_stirs_22 (by decide) ?_
  refine ev_iload_1 dX10_stirs_7 ?_
  refine ev_iconst_3 dX10_stirs_8 ?_
  refine ev_icmp_ge (tgt := 25) dX10_stirs_9 (by decide) (fun h9 => absurd h9 (by decide)) (fun h9 => ?_)
  refine ev_aload_0 dX10_stirs_12 ?_
  refine gf_X10_42 dX10_stirs_13 hm.1 rfl ?_
  refine ev_iload_1 dX10_stirs_16 ?_
  refine ev_iconst_m1 dX10_stirs_17 ?_
  refine ev_stk (k := 2) hm.2.2.2.2.2.2.2.2.2.2.2.1 hw18r1 rfl (by omega) (by decide) dX10_stirs_18 (fun σ18r2 hw18r2 hf18r2 hl18r2 => ?_)
  have zfld_18r2 := (hf18r2 61 (by decide)).trans zfld_18r1
  refine ev_iinc_1 (v := 1) dX10_stirs_19 (by decide) rfl rfl ?_
  rw [show (2 : Int32) + (1) = 3 from rfl]
  refine ev_goto (tgt := 7) dX10_stirs_22 (by decide) ?_
  refine ev_iload_1 dX10_stirs_7 ?_
  refine ev_iconst_3 dX10_stirs_8 ?_
  refine ev_icmp_ge (tgt := 25) dX10_stirs_9 (by decide) (fun h9 => ?_) (fun h9 => (by exfalso; revert h9; decide))
  refine ev_pv dX10_stirs_25 ⟨zfld_18r2, fun k hk => ?_, fun j x61 x72 => ?_, ?_⟩
  · rw [hw18r2]
    rcases (show k = 0 ∨ k = 1 ∨ k = 2 by omega) with z | z | z <;> subst z <;> rfl
  · rw [hf18r2 j x72, hf18r1 j x72, hf18 j x72, hf2 j x61]
  · rw [hl18r2, hl18r1, hl18, hl2]
theorem dg_lw {g g' : Nat → Int32} (hG : wfP g) (h : ∀ i, i < 55 → g' i = g i) : dgG g' = dgG g := by
  have e1 : cN g' = cN g := by unfold cN clN; rw [h _ (by decide)]
  have e2 : rN g' = rN g := by unfold rN clN; rw [h _ (by decide)]
  have h36 := sq36 hG
  unfold dgG dgP
  rw [e1, e2, h 0 (by decide), dgF_cong (f := fun q => g' (1 + q)) (f' := fun q => g (1 + q)) _ _ (fun k hk => h _ (by omega)), dgF_cong (f := fun i => g' (37 + i)) (f' := fun i => g (37 + i)) _ _ (fun k hk => h _ (by omega)), dgF_cong (f := fun k => g' (49 + k)) (f' := fun k => g (49 + k)) _ _ (fun k hk => h _ (by omega))]
/-- the row after begins -/
def begG (g : Nat → Int32) : Nat → Int32 := upd (upd g 57 0) 2328 (dgG g)
theorem bg_ne {g : Nat → Int32} {i : Nat} (h : i ≠ 57) (h2 : i ≠ 2328) : begG g i = g i := by unfold begG; rw [upd_ne h2, upd_ne h]
/-- a change of the reference's row with all that it knew forgotten -/
def begR (σ σ' : mSt) (g' : Nat → Int32) : Prop := σ'.1 62 = g' ∧ σ'.1 61 = upd (σ.1 61) 13 0 ∧ (∀ k, k < 3 → σ'.1 72 k = -1) ∧ (∀ j, j ≠ 61 → j ≠ 62 → j ≠ 72 → σ'.1 j = σ.1 j) ∧ σ'.2 = σ.2
theorem up_wfP {g : Nat → Int32} {j : Nat} {x : Int32} (hG : wfP g) (h : 55 ≤ j) : wfP (upd g j x) := wfP_up hG h
theorem up_wfL {g : Nat → Int32} {j : Nat} {x : Int32} (hW : wfL g) (h : j = 57 ∨ 208 ≤ j) : wfL (upd g j x) := wfL_of (fun i h1 h2 h3 => upd_ne (by omega)) (fun k hk z => by rw [← z]; exact (cl_ne (by omega)).symm) hW

set_option maxRecDepth 100000 in
set_option maxHeartbeats 4000000 in
theorem c_mBegins {ae ad : Nat → Nat} {sh : mSh} {σ : mSt} (hm : mModel ad sh) {g : Nat → Int32} (hg : σ.1 62 = g) (hG : wfP g) (hW : wfL g) : Ct yX10_begins cX10_begins 1 none 2 0 0 [.ref (ad 61)] ae ad sh σ (mPv ad sh (fun σ' => begR σ σ' (begG g))) := by
  refine Ct.ofL (own := RX10) (ini := false) (ls := [some (.ref (ad 61))]) (by decide +kernel) rfl (fun h => by cases h) (Nat.le_of_ble_eq_true rfl) rfl ?_
  refine ev_aload_0 dX10_begins_0 ?_
  refine cg_X10_79 (c_mStirs hm) hm.1 dX10_begins_1 rfl (Nat.le_of_ble_eq_true rfl) (fun σs1 hs1 => ?_)
  obtain ⟨s1_1, s2_1, s3_1, s4_1⟩ := hs1
  have znow_1 := (s3_1 62 (by decide) (by decide)).trans hg
  refine ev_aload_0 dX10_begins_4 ?_
  refine gf_X10_11 dX10_begins_5 hm.1 rfl ?_
  refine ev_bipush_57 dX10_begins_8 ?_
  refine ev_iconst_0 dX10_begins_10 ?_
  refine ev_stk (k := 57) hm.2.1 znow_1 rfl (by omega) (by decide) dX10_begins_11 (fun σ11 hw11 hf11 hl11 => ?_)
  refine ev_aload_0 dX10_begins_12 ?_
  refine gf_X10_11 dX10_begins_13 hm.1 rfl ?_
  refine ev_sipush_2328 dX10_begins_16 ?_
  refine ev_aload_0 dX10_begins_19 ?_
  refine cl_X10_82 (c_mDigest hm hw11 (up_wfP hG (by decide)) (up_wfL hW (Or.inl rfl))) hm.1 dX10_begins_20 rfl (Nat.le_of_ble_eq_true rfl) ?_
  refine ev_stk (k := 2328) hm.2.1 hw11 rfl (by omega) (by decide) dX10_begins_23 (fun σ23 hw23 hf23 hl23 => ?_)
  refine ev_pv dX10_begins_24 ⟨?_, ?_, fun k hk => ?_, fun j x61 x62 x72 => ?_, ?_⟩
  · rw [hw23, dg_lw hG (fun i hi => upd_ne (by omega))]; rfl
  · rw [hf23 61 (by decide), hf11 61 (by decide), s1_1]
  · rw [hf23 72 (by decide), hf11 72 (by decide)]; exact s2_1 k hk
  · rw [hf23 j x62, hf11 j x62, s3_1 j x61 x72]
  · rw [hl23, hl11, s4_1]
set_option maxRecDepth 100000 in
set_option maxHeartbeats 4000000 in
theorem c_mSets {ae ad : Nat → Nat} {sh : mSh} {σ : mSt} (hm : mModel ad sh) {g : Nat → Int32} (hg : σ.1 62 = g) {k : Nat} {v : Int32} (hk : k < 2369) (hG1 : wfP (upd g k v)) (hW1 : wfL (upd g k v)) : Ct yX10_sets cX10_sets 4 (some .int) 3 0 0 [.ref (ad 61), .int (nI k), .int v] ae ad sh σ (mPi ad sh (fun x σ' => x = g k ∧ begR σ σ' (begG (upd g k v)))) := by
  refine Ct.ofL (own := RX10) (ini := false) (ls := [some (.ref (ad 61)), some (.int (nI k)), some (.int v), none]) (by decide +kernel) rfl (fun h => by cases h) (Nat.le_of_ble_eq_true rfl) rfl ?_
  refine ev_aload_0 dX10_sets_0 ?_
  refine gf_X10_11 dX10_sets_1 hm.1 rfl ?_
  refine ev_iload_1 dX10_sets_4 ?_
  refine ev_ldk (k := k) hm.2.1 hg rfl (by omega) (by decide) dX10_sets_5 ?_
  refine ev_istore_3 dX10_sets_6 rfl rfl ?_
  refine ev_aload_0 dX10_sets_7 ?_
  refine gf_X10_11 dX10_sets_8 hm.1 rfl ?_
  refine ev_iload_1 dX10_sets_11 ?_
  refine ev_iload_2 dX10_sets_12 ?_
  refine ev_stk (k := k) hm.2.1 hg rfl (by omega) (by decide) dX10_sets_13 (fun σ13 hw13 hf13 hl13 => ?_)
  refine ev_aload_0 dX10_sets_14 ?_
  refine cg_X10_58 (c_mBegins hm hw13 hG1 hW1) hm.1 dX10_sets_15 rfl (Nat.le_of_ble_eq_true rfl) (fun σb15 hb15 => ?_)
  obtain ⟨b1_15, b2_15, b3_15, b4_15, b5_15⟩ := hb15
  refine ev_iload_3 dX10_sets_18 ?_
  refine ev_pi dX10_sets_19 ⟨rfl, b1_15, ?_, b3_15, fun j x61 x62 x72 => ?_, ?_⟩
  · rw [b2_15, hf13 61 (by decide)]
  · rw [b4_15 j x61 x62 x72, hf13 j x62]
  · rw [b5_15, hl13]
