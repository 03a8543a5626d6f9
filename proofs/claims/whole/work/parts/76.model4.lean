theorem cnt_s {c : Nat → Bool} {n : Nat} : nI (cntF c n) + 1 = nI (cntF c n + 1) := nI_add _ 1
theorem cntF_t {c : Nat → Bool} {n : Nat} (h : c n = true) : cntF c (n + 1) = cntF c n + 1 := by rw [cntF, if_pos h]
theorem cntF_f {c : Nat → Bool} {n : Nat} (h : ¬ c n = true) : cntF c (n + 1) = cntF c n := by rw [cntF, if_neg h, Nat.add_zero]
theorem pop_mask (c : Nat → Bool) : popI (maskF c 4) = nI (cntF c 4) := by
  simp only [maskF, cntF]
  cases c 0 <;> cases c 1 <;> cases c 2 <;> cases c 3 <;> decide +kernel
theorem pop_rm {a b c d : Nat} (ha : a ≤ 1) (hb : b ≤ 1) (hc : c ≤ 1) (hd : d ≤ 1) : popI (nI (a + 2 * b + 4 * c + 8 * d)) = nI (a + b + c + d) := by
  have h : ∀ a, a ≤ 1 → ∀ b, b ≤ 1 → ∀ c, c ≤ 1 → ∀ d, d ≤ 1 → popI (nI (a + 2 * b + 4 * c + 8 * d)) = nI (a + b + c + d) := by decide +kernel
  exact h a ha b hb c hc d hd
theorem cas_cnt (g : Nat → Int32) : casG g = nI (cntF (fun k => decide (exN g k = 1)) 4) := pop_mask _
theorem rit_cnt {g : Nat → Int32} (hG : wfP g) : popI (nI (rmN g)) = nI (cntF (fun k => decide (riN g k = 1)) 4) := by
  have h := fun k hk => (hG.2.2.2.2.1 k hk).2
  unfold rmN
  rw [pop_rm (h 0 (by decide)) (h 1 (by decide)) (h 2 (by decide)) (h 3 (by decide))]
  congr 1
  have e : ∀ k, k < 4 → riN g k = if decide (riN g k = 1) = true then 1 else 0 := fun k hk => by
    have := h k hk
    rcases (show riN g k = 0 ∨ riN g k = 1 by omega) with z | z <;> rw [z] <;> rfl
  simp only [cntF]
  rw [← e 0 (by decide), ← e 1 (by decide), ← e 2 (by decide), ← e 3 (by decide)]
  omega
theorem ex_1 {g : Nat → Int32} (hW : wfL g) {k : Nat} (hk : k < 4) : g (184 + 6 * k) = 1 ↔ exN g k = 1 := by
  obtain ⟨⟨a1, a2⟩, _, _, _⟩ := hW.2.2.2.2.2.2 k hk
  rw [a1]
  exact nI_eq (b := 1) (by omega) (by decide)
theorem ri_1 {g : Nat → Int32} (hG : wfP g) {k : Nat} (hk : k < 4) : g (49 + k) = 1 ↔ riN g k = 1 := by
  obtain ⟨a1, a2⟩ := hG.2.2.2.2.1 k hk
  rw [a1]
  exact nI_eq (b := 1) (by omega) (by decide)

set_option maxRecDepth 100000 in
set_option maxHeartbeats 4000000 in
theorem c_mCastles0_4 {ae ad : Nat → Nat} {sh : mSh} {σ : mSt} (hm : mModel ad sh) {g : Nat → Int32} (hg : σ.1 62 = g) (hG : wfP g) (hW : wfL g) : ∀ (n i : Nat), 4 - i = n → i ≤ 4 → Ev RX10 cX10_castles 4 false (some .int) (mRm 1 0 0) ae (mEq (some (.int (nI (cntF (fun k => decide (exN g k = 1)) 4)))) ad sh σ) 4 [some (.ref (ad 61)), some (.int 0), some (.int (nI (cntF (fun k => decide (exN g k = 1)) i))), some (.int (nI i))] [] 0 0 ad sh σ := by
  intro n
  induction n with
  | zero =>
    intro i hn hi
    have e : i = 4 := by omega
    subst e
    refine ev_iload_3 dX10_castles_4 ?_
    refine ev_iconst_4 dX10_castles_5 ?_
    refine ev_icmp_ge (tgt := 48) dX10_castles_6 (by decide) (fun h6 => ?_) (fun h6 => absurd (Int32.le_refl _) h6)
    refine ev_iload_2 dX10_castles_48 ?_
    exact ev_ireturn dX10_castles_49
  | succ n ih =>
    intro i hn hi
    have hlt : i < 4 := by omega
    refine ev_iload_3 dX10_castles_4 ?_
    refine ev_iconst_4 dX10_castles_5 ?_
    refine ev_icmp_ge (tgt := 48) dX10_castles_6 (by decide) (fun h6 => absurd h6 (nI_ge (b := 4) hlt (by decide))) (fun h6 => ?_)
    refine ev_aload_0 dX10_castles_9 ?_
    refine gf_X10_11 dX10_castles_10 hm.1 rfl ?_
    refine ev_iload_3 dX10_castles_13 ?_
    refine cl_X10_72 (c_castleAt (t := (i))) dX10_castles_14 rfl (Nat.le_of_ble_eq_true rfl) ?_
    refine ev_ldk (k := 184 + 6 * i) hm.2.1 hg rfl (by omega) (by decide) dX10_castles_17 ?_
    refine ev_iconst_1 dX10_castles_18 ?_
    refine ev_icmp_ne (tgt := 42) dX10_castles_19 (by decide) (fun h19 => ?_) (fun h19 => ?_)
    · refine ev_iinc_3 (v := 1) dX10_castles_42 (by decide) rfl rfl ?_
      rw [show nI i + 1 = nI (i + 1) from nI_add (i) 1]
      refine ev_goto (tgt := 4) dX10_castles_45 (by decide) ?_
      exact Ev.to (by rw [cntF_f (fun z => by exact h19 ((ex_1 hW hlt).mpr (of_decide_eq_true z)))]) rfl rfl (ih (i + 1) (by omega) (by omega))
    · refine ev_iload_1 dX10_castles_22 ?_
      refine ev_if_eq (tgt := 39) dX10_castles_23 (by decide) (fun h23 => ?_) (fun h23 => (by exfalso; revert h23; decide))
      skip
      refine ev_iinc_2 (v := 1) dX10_castles_39 (by decide) rfl rfl ?_
      rw [cnt_s]
      refine ev_iinc_3 (v := 1) dX10_castles_42 (by decide) rfl rfl ?_
      rw [show nI i + 1 = nI (i + 1) from nI_add (i) 1]
      refine ev_goto (tgt := 4) dX10_castles_45 (by decide) ?_
      exact Ev.to (by rw [cntF_t (decide_eq_true ((ex_1 hW hlt).mp h19))]) rfl rfl (ih (i + 1) (by omega) (by omega))
set_option maxRecDepth 100000 in
set_option maxHeartbeats 4000000 in
theorem c_mCastles0 {ae ad : Nat → Nat} {sh : mSh} {σ : mSt} (hm : mModel ad sh) {g : Nat → Int32} (hg : σ.1 62 = g) (hG : wfP g) (hW : wfL g) : Ct yX10_castles cX10_castles 4 (some .int) 1 0 0 [.ref (ad 61), .int 0] ae ad sh σ (mEq (some (.int (nI (cntF (fun k => decide (exN g k = 1)) 4)))) ad sh σ) := by
  refine Ct.ofL (own := RX10) (ini := false) (ls := [some (.ref (ad 61)), some (.int 0), none, none]) (by decide +kernel) rfl (fun h => by cases h) (Nat.le_of_ble_eq_true rfl) rfl ?_
  refine ev_iconst_0 dX10_castles_0 ?_
  refine ev_istore_2 dX10_castles_1 rfl rfl ?_
  refine ev_iconst_0 dX10_castles_2 ?_
  refine ev_istore_3 dX10_castles_3 rfl rfl ?_
  exact c_mCastles0_4 hm hg hG hW 4 0 rfl (by decide)
set_option maxRecDepth 100000 in
set_option maxHeartbeats 4000000 in
theorem c_mCastles1_4 {ae ad : Nat → Nat} {sh : mSh} {σ : mSt} (hm : mModel ad sh) {g : Nat → Int32} (hg : σ.1 62 = g) (hG : wfP g) (hW : wfL g) : ∀ (n i : Nat), 4 - i = n → i ≤ 4 → Ev RX10 cX10_castles 4 false (some .int) (mRm 1 0 0) ae (mEq (some (.int (nI (cntF (fun k => decide (riN g k = 1)) 4)))) ad sh σ) 4 [some (.ref (ad 61)), some (.int 1), some (.int (nI (cntF (fun k => decide (riN g k = 1)) i))), some (.int (nI i))] [] 0 0 ad sh σ := by
  intro n
  induction n with
  | zero =>
    intro i hn hi
    have e : i = 4 := by omega
    subst e
    refine ev_iload_3 dX10_castles_4 ?_
    refine ev_iconst_4 dX10_castles_5 ?_
    refine ev_icmp_ge (tgt := 48) dX10_castles_6 (by decide) (fun h6 => ?_) (fun h6 => absurd (Int32.le_refl _) h6)
    refine ev_iload_2 dX10_castles_48 ?_
    exact ev_ireturn dX10_castles_49
  | succ n ih =>
    intro i hn hi
    have hlt : i < 4 := by omega
    refine ev_iload_3 dX10_castles_4 ?_
    refine ev_iconst_4 dX10_castles_5 ?_
    refine ev_icmp_ge (tgt := 48) dX10_castles_6 (by decide) (fun h6 => absurd h6 (nI_ge (b := 4) hlt (by decide))) (fun h6 => ?_)
    refine ev_aload_0 dX10_castles_9 ?_
    refine gf_X10_11 dX10_castles_10 hm.1 rfl ?_
    refine ev_iload_3 dX10_castles_13 ?_
    refine cl_X10_72 (c_castleAt (t := (i))) dX10_castles_14 rfl (Nat.le_of_ble_eq_true rfl) ?_
    refine ev_ldk (k := 184 + 6 * i) hm.2.1 hg rfl (by omega) (by decide) dX10_castles_17 ?_
    refine ev_iconst_1 dX10_castles_18 ?_
    refine ev_icmp_ne (tgt := 42) dX10_castles_19 (by decide) (fun h19 => ?_) (fun h19 => ?_)
    · refine ev_iinc_3 (v := 1) dX10_castles_42 (by decide) rfl rfl ?_
      rw [show nI i + 1 = nI (i + 1) from nI_add (i) 1]
      refine ev_goto (tgt := 4) dX10_castles_45 (by decide) ?_
      exact Ev.to (by rw [cntF_f (fun z => by first | exact h36 ((ri_1 hG hlt).mpr (of_decide_eq_true z)) | exact h19 ((ex_1 hW hlt).mpr ((hW.2.2.2.2.2.2 i hlt).2.2.2 (of_decide_eq_true z))))]) rfl rfl (ih (i + 1) (by omega) (by omega))
    · refine ev_iload_1 dX10_castles_22 ?_
      refine ev_if_eq (tgt := 39) dX10_castles_23 (by decide) (fun h23 => absurd h23 (by decide)) (fun h23 => ?_)
      refine ev_aload_0 dX10_castles_26 ?_
      refine gf_X10_11 dX10_castles_27 hm.1 rfl ?_
      refine ev_bipush_49 dX10_castles_30 ?_
      refine ev_iload_3 dX10_castles_32 ?_
      refine ev_iadd dX10_castles_33 ?_
      rw [show (49 : Int32) + nI i = nI (49 + i) from nI_add (49) (i)]
      refine ev_ldk (k := 49 + i) hm.2.1 hg rfl (by omega) (by decide) dX10_castles_34 ?_
      refine ev_iconst_1 dX10_castles_35 ?_
      refine ev_icmp_ne (tgt := 42) dX10_castles_36 (by decide) (fun h36 => ?_) (fun h36 => ?_)
      · refine ev_iinc_3 (v := 1) dX10_castles_42 (by decide) rfl rfl ?_
        rw [show nI i + 1 = nI (i + 1) from nI_add (i) 1]
        refine ev_goto (tgt := 4) dX10_castles_45 (by decide) ?_
        exact Ev.to (by rw [cntF_f (fun z => by first | exact h36 ((ri_1 hG hlt).mpr (of_decide_eq_true z)) | exact h19 ((ex_1 hW hlt).mpr ((hW.2.2.2.2.2.2 i hlt).2.2.2 (of_decide_eq_true z))))]) rfl rfl (ih (i + 1) (by omega) (by omega))
      · skip
        refine ev_iinc_2 (v := 1) dX10_castles_39 (by decide) rfl rfl ?_
        rw [cnt_s]
        refine ev_iinc_3 (v := 1) dX10_castles_42 (by decide) rfl rfl ?_
        rw [show nI i + 1 = nI (i + 1) from nI_add (i) 1]
        refine ev_goto (tgt := 4) dX10_castles_45 (by decide) ?_
        exact Ev.to (by rw [cntF_t (decide_eq_true ((ri_1 hG hlt).mp h36))]) rfl rfl (ih (i + 1) (by omega) (by omega))
set_option maxRecDepth 100000 in
set_option maxHeartbeats 4000000 in
theorem c_mCastles1 {ae ad : Nat → Nat} {sh : mSh} {σ : mSt} (hm : mModel ad sh) {g : Nat → Int32} (hg : σ.1 62 = g) (hG : wfP g) (hW : wfL g) : Ct yX10_castles cX10_castles 4 (some .int) 1 0 0 [.ref (ad 61), .int 1] ae ad sh σ (mEq (some (.int (nI (cntF (fun k => decide (riN g k = 1)) 4)))) ad sh σ) := by
  refine Ct.ofL (own := RX10) (ini := false) (ls := [some (.ref (ad 61)), some (.int 1), none, none]) (by decide +kernel) rfl (fun h => by cases h) (Nat.le_of_ble_eq_true rfl) rfl ?_
  refine ev_iconst_0 dX10_castles_0 ?_
  refine ev_istore_2 dX10_castles_1 rfl rfl ?_
  refine ev_iconst_0 dX10_castles_2 ?_
  refine ev_istore_3 dX10_castles_3 rfl rfl ?_
  exact c_mCastles1_4 hm hg hG hW 4 0 rfl (by decide)
set_option maxRecDepth 100000 in
set_option maxHeartbeats 4000000 in
theorem c_mMen_4 {ae ad : Nat → Nat} {sh : mSh} {σ : mSt} (hm : mModel ad sh) {g : Nat → Int32} (hg : σ.1 62 = g) (hG : wfP g) : ∀ (n i : Nat), cN g * rN g - i = n → i ≤ cN g * rN g → Ev RX10 cX10_men 3 false (some .int) (mRm 1 0 0) ae (mEq (some (.int (nI (cntF (fun q => decide (1 ≤ mN g q)) (cN g * rN g))))) ad sh σ) 4 [some (.ref (ad 61)), some (.int (nI (cntF (fun q => decide (1 ≤ mN g q)) i))), some (.int (nI i))] [] 0 0 ad sh σ := by
  intro n
  induction n with
  | zero =>
    intro i hn hi 
    have e : i = cN g * rN g := by omega
    subst e
    have hN := sq36 hG
    refine ev_iload_2 dX10_men_4 ?_
    refine ev_aload_0 dX10_men_5 ?_
    refine cl_X10_65 (c_mSquares hm hg hG) hm.1 dX10_men_6 rfl (Nat.le_of_ble_eq_true rfl) ?_
    refine ev_icmp_ge (tgt := 29) dX10_men_9 (by decide) (fun h9 => ?_) (fun h9 => absurd (Int32.le_refl _) h9)
    refine ev_iload_1 dX10_men_29 ?_
    exact ev_ireturn dX10_men_30
  | succ n ih =>
    intro i hn hi 
    have hlt : i < cN g * rN g := by omega
    have hN := sq36 hG
    refine ev_iload_2 dX10_men_4 ?_
    refine ev_aload_0 dX10_men_5 ?_
    refine cl_X10_65 (c_mSquares hm hg hG) hm.1 dX10_men_6 rfl (Nat.le_of_ble_eq_true rfl) ?_
    refine ev_icmp_ge (tgt := 29) dX10_men_9 (by decide) (fun h9 => absurd h9 (nI_ge hlt (by omega))) (fun h9 => ?_)
    refine ev_aload_0 dX10_men_12 ?_
    refine ev_iload_2 dX10_men_13 ?_
    refine cl_X10_69 (c_mMan hm hg hG (q := i) (by omega)) hm.1 dX10_men_14 rfl (Nat.le_of_ble_eq_true rfl) ?_
    have e0 := m1_neg (wf_m hG (q := i) (by omega))
    refine ev_if_lt (tgt := 23) dX10_men_17 (by decide) (fun h17 => ?_) (fun h17 => ?_)
    · refine ev_iinc_2 (v := 1) dX10_men_23 (by decide) rfl rfl ?_
      rw [show nI i + 1 = nI (i + 1) from nI_add (i) 1]
      refine ev_goto (tgt := 4) dX10_men_26 (by decide) ?_
      exact Ev.to (by rw [cntF_f (fun z => by have := of_decide_eq_true z; have := e0.mp h17; omega)]) rfl rfl (ih (i + 1) (by omega) (by omega))
    · have e1 : ¬ mN g i = 0 := fun z => h17 (e0.mpr z)
      refine ev_iinc_1 (v := 1) dX10_men_20 (by decide) rfl rfl ?_
      rw [cnt_s]
      refine ev_iinc_2 (v := 1) dX10_men_23 (by decide) rfl rfl ?_
      rw [show nI i + 1 = nI (i + 1) from nI_add (i) 1]
      refine ev_goto (tgt := 4) dX10_men_26 (by decide) ?_
      exact Ev.to (by rw [cntF_t (decide_eq_true (by have := e0; omega))]) rfl rfl (ih (i + 1) (by omega) (by omega))
set_option maxRecDepth 100000 in
set_option maxHeartbeats 4000000 in
theorem c_mMen {ae ad : Nat → Nat} {sh : mSh} {σ : mSt} (hm : mModel ad sh) {g : Nat → Int32} (hg : σ.1 62 = g) (hG : wfP g) : Ct yX10_men cX10_men 3 (some .int) 1 0 0 [.ref (ad 61)] ae ad sh σ (mEq (some (.int (nI (cntF (fun q => decide (1 ≤ mN g q)) (cN g * rN g))))) ad sh σ) := by
  refine Ct.ofL (own := RX10) (ini := false) (ls := [some (.ref (ad 61)), none, none]) (by decide +kernel) rfl (fun h => by cases h) (Nat.le_of_ble_eq_true rfl) rfl ?_
  refine ev_iconst_0 dX10_men_0 ?_
  refine ev_istore_1 dX10_men_1 rfl rfl ?_
  refine ev_iconst_0 dX10_men_2 ?_
  refine ev_istore_2 dX10_men_3 rfl rfl ?_
  exact c_mMen_4 hm hg hG _ 0 rfl (Nat.zero_le _)
set_option maxRecDepth 100000 in
set_option maxHeartbeats 4000000 in
theorem c_mOcc_4 {ae ad : Nat → Nat} {sh : mSh} {σ : mSt} (hm : mModel ad sh) {g : Nat → Int32} (hg : σ.1 62 = g) {D : Nat} (hD : g 57 = nI D) (hD4 : D ≤ 40) : ∀ (n i : Nat), (D + 1) - i = n → i ≤ (D + 1) → Ev RX10 cX10_occurrences 3 false (some .int) (mRm 0 0 0) ae (mEq (some (.int (nI (ocG g D)))) ad sh σ) 4 [some (.ref (ad 61)), some (.int (nI (cntF (fun k => decide (g (2328 + k) = g (2328 + D))) i))), some (.int (nI i))] [] 0 0 ad sh σ := by
  intro n
  induction n with
  | zero =>
    intro i hn hi
    have e : i = (D + 1) := by omega
    subst e
    refine ev_iload_2 dX10_occurrences_4 ?_
    refine ev_aload_0 dX10_occurrences_5 ?_
    refine gf_X10_11 dX10_occurrences_6 hm.1 rfl ?_
    refine ev_bipush_57 dX10_occurrences_9 ?_
    refine ev_ldk (k := 57) hm.2.1 hg rfl (by omega) (by decide) dX10_occurrences_11 ?_
    rw [hD]
    refine ev_icmp_gt (tgt := 53) dX10_occurrences_12 (by decide) (fun h12 => ?_) (fun h12 => absurd (nI_lt (Nat.lt_succ_self D) (by omega)) h12)
    refine ev_iload_1 dX10_occurrences_53 ?_
    exact ev_ireturn dX10_occurrences_54
  | succ n ih =>
    intro i hn hi
    have hlt : i < (D + 1) := by omega
    refine ev_iload_2 dX10_occurrences_4 ?_
    refine ev_aload_0 dX10_occurrences_5 ?_
    refine gf_X10_11 dX10_occurrences_6 hm.1 rfl ?_
    refine ev_bipush_57 dX10_occurrences_9 ?_
    refine ev_ldk (k := 57) hm.2.1 hg rfl (by omega) (by decide) dX10_occurrences_11 ?_
    rw [hD]
    refine ev_icmp_gt (tgt := 53) dX10_occurrences_12 (by decide) (fun h12 => absurd h12 (nI_nlt (a := D) (b := i) (by omega) (by omega))) (fun h12 => ?_)
    refine ev_aload_0 dX10_occurrences_15 ?_
    refine gf_X10_11 dX10_occurrences_16 hm.1 rfl ?_
    refine ev_sipush_2328 dX10_occurrences_19 ?_
    refine ev_iload_2 dX10_occurrences_22 ?_
    refine ev_iadd dX10_occurrences_23 ?_
    rw [show (2328 : Int32) + nI i = nI (2328 + i) from nI_add (2328) (i)]
    refine ev_ldk (k := 2328 + i) hm.2.1 hg rfl (by omega) (by decide) dX10_occurrences_24 ?_
    refine ev_aload_0 dX10_occurrences_25 ?_
    refine gf_X10_11 dX10_occurrences_26 hm.1 rfl ?_
    refine ev_sipush_2328 dX10_occurrences_29 ?_
    refine ev_aload_0 dX10_occurrences_32 ?_
    refine gf_X10_11 dX10_occurrences_33 hm.1 rfl ?_
    refine ev_bipush_57 dX10_occurrences_36 ?_
    refine ev_ldk (k := 57) hm.2.1 hg rfl (by omega) (by decide) dX10_occurrences_38 ?_
    rw [hD]
    refine ev_iadd dX10_occurrences_39 ?_
    rw [show (2328 : Int32) + nI D = nI (2328 + D) from nI_add (2328) (D)]
    refine ev_ldk (k := 2328 + D) hm.2.1 hg rfl (by omega) (by decide) dX10_occurrences_40 ?_
    refine ev_icmp_ne (tgt := 47) dX10_occurrences_41 (by decide) (fun h41 => ?_) (fun h41 => ?_)
    · refine ev_iinc_2 (v := 1) dX10_occurrences_47 (by decide) rfl rfl ?_
      rw [show nI i + 1 = nI (i + 1) from nI_add (i) 1]
      refine ev_goto (tgt := 4) dX10_occurrences_50 (by decide) ?_
      exact Ev.to (by rw [cntF_f (fun z => h41 (of_decide_eq_true z))]) rfl rfl (ih (i + 1) (by omega) (by omega))
    · skip
      refine ev_iinc_1 (v := 1) dX10_occurrences_44 (by decide) rfl rfl ?_
      rw [cnt_s]
      refine ev_iinc_2 (v := 1) dX10_occurrences_47 (by decide) rfl rfl ?_
      rw [show nI i + 1 = nI (i + 1) from nI_add (i) 1]
      refine ev_goto (tgt := 4) dX10_occurrences_50 (by decide) ?_
      exact Ev.to (by rw [cntF_t (decide_eq_true h41)]) rfl rfl (ih (i + 1) (by omega) (by omega))
set_option maxRecDepth 100000 in
set_option maxHeartbeats 4000000 in
theorem c_mOcc {ae ad : Nat → Nat} {sh : mSh} {σ : mSt} (hm : mModel ad sh) {g : Nat → Int32} (hg : σ.1 62 = g) {D : Nat} (hD : g 57 = nI D) (hD4 : D ≤ 40) : Ct yX10_occurrences cX10_occurrences 3 (some .int) 0 0 0 [.ref (ad 61)] ae ad sh σ (mEq (some (.int (nI (ocG g D)))) ad sh σ) := by
  refine Ct.ofL (own := RX10) (ini := false) (ls := [some (.ref (ad 61)), none, none]) (by decide +kernel) rfl (fun h => by cases h) (Nat.le_of_ble_eq_true rfl) rfl ?_
  refine ev_iconst_0 dX10_occurrences_0 ?_
  refine ev_istore_1 dX10_occurrences_1 rfl rfl ?_
  refine ev_iconst_0 dX10_occurrences_2 ?_
  refine ev_istore_2 dX10_occurrences_3 rfl rfl ?_
  exact c_mOcc_4 hm hg hD hD4 _ 0 rfl (Nat.zero_le _)
set_option maxRecDepth 100000 in
set_option maxHeartbeats 4000000 in
theorem c_mIsDef {ae ad : Nat → Nat} {sh : mSh} {σ : mSt} (hm : mModel ad sh) {g : Nat → Int32} (hg : σ.1 62 = g) (hG : wfP g) (hW : wfL g) {t : Nat} (ht : t < 6) : Ct yX10_isDefined cX10_isDefined 2 (some .boolean) 1 0 0 [.ref (ad 61), .int (nI t)] ae ad sh σ (mEq (some (.int (b2i (decide (¬ pcG g t = 0))))) ad sh σ) := by
  refine Ct.ofL (own := RX10) (ini := false) (ls := [some (.ref (ad 61)), some (.int (nI t))]) (by decide +kernel) rfl (fun h => by cases h) (Nat.le_of_ble_eq_true rfl) rfl ?_
  refine ev_aload_0 dX10_isDefined_0 ?_
  refine gf_X10_11 dX10_isDefined_1 hm.1 rfl ?_
  refine ev_iload_1 dX10_isDefined_4 ?_
  refine cl_X10_54 (c_typeAt (t := (t))) dX10_isDefined_5 rfl (Nat.le_of_ble_eq_true rfl) ?_
  refine ev_iconst_2 dX10_isDefined_8 ?_
  refine ev_iadd dX10_isDefined_9 ?_
  rw [show nI (58 + 21 * t) + (2 : Int32) = nI (58 + 21 * t + 2) from nI_add (58 + 21 * t) (2)]
  refine ev_ldk (k := 58 + 21 * t + 2) hm.2.1 hg rfl (by omega) (by decide) dX10_isDefined_10 ?_
  refine ev_if_lt (tgt := 18) dX10_isDefined_11 (by decide) (fun h11 => ?_) (fun h11 => ?_)
  · refine ev_iconst_0 dX10_isDefined_18 ?_
    have e : (g (60 + 21 * t) < 0 ↔ pcG g t = 0) := by
      rcases (hW.2.2.2.2.1 t ht).2 with z | ⟨z1, z2⟩
      · rw [z]
        have : pcG g t = 0 := by unfold pcG clN; rw [z]; decide
        rw [this]; decide
      · rw [z1]
        exact ⟨fun y => absurd y (nI_pos (by have := (hW.2.2.2.2.1 t ht).1; omega)), fun y => by omega⟩
    rw [show 58 + 21 * t + 2 = 60 + 21 * t by omega, e] at h11
    exact ev_zret (b2i_nar _) dX10_isDefined_19 (by simp_all [b2i]) rfl
  · refine ev_iconst_1 dX10_isDefined_14 ?_
    refine ev_goto (tgt := 19) dX10_isDefined_15 (by decide) ?_
    have e : (g (60 + 21 * t) < 0 ↔ pcG g t = 0) := by
      rcases (hW.2.2.2.2.1 t ht).2 with z | ⟨z1, z2⟩
      · rw [z]
        have : pcG g t = 0 := by unfold pcG clN; rw [z]; decide
        rw [this]; decide
      · rw [z1]
        exact ⟨fun y => absurd y (nI_pos (by have := (hW.2.2.2.2.1 t ht).1; omega)), fun y => by omega⟩
    rw [show 58 + 21 * t + 2 = 60 + 21 * t by omega, e] at h11
    exact ev_zret (b2i_nar _) dX10_isDefined_19 (by simp_all [b2i]) rfl
