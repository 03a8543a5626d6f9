/-- rights taken away from slots -/
def tcR (g : Nat → Int32) (P : Nat → Bool) : Nat → Int32 := fun i => if 49 ≤ i ∧ i < 53 ∧ P (i - 49) = true then 0 else g i
theorem tc_in {g : Nat → Int32} {P : Nat → Bool} {k : Nat} (hk : k < 4) : tcR g P (49 + k) = if P k = true then 0 else g (49 + k) := by
  unfold tcR
  rw [Nat.add_sub_cancel_left]
  by_cases h : P k = true
  · rw [if_pos ⟨by omega, by omega, h⟩, if_pos h]
  · rw [if_neg (fun z => h z.2.2), if_neg h]
theorem tc_out {g : Nat → Int32} {P : Nat → Bool} {i : Nat} (h : i < 49 ∨ 53 ≤ i) : tcR g P i = g i := by
  unfold tcR
  rw [if_neg (by omega)]
theorem tc_cong {g : Nat → Int32} {P P' : Nat → Bool} (h : ∀ k, k < 4 → P k = P' k) : tcR g P = tcR g P' := by
  funext i
  by_cases z : 49 ≤ i ∧ i < 53
  · have e : i = 49 + (i - 49) := by omega
    rw [e, tc_in (by omega), tc_in (by omega), h _ (by omega)]
  · rw [tc_out (by omega), tc_out (by omega)]
theorem tc_0 {g : Nat → Int32} {P : Nat → Bool} (h : ∀ k, k < 4 → P k = false) : tcR g P = g := by
  funext i
  by_cases z : 49 ≤ i ∧ i < 53
  · have e : i = 49 + (i - 49) := by omega
    rw [e, tc_in (by omega), h _ (by omega)]; rfl
  · rw [tc_out (by omega)]
theorem tc_yes {g : Nat → Int32} {P : Nat → Bool} {i : Nat} (hi : i < 4) (h : P i = true) : upd (tcR g (fun k => decide (k < i) && P k)) (49 + i) 0 = tcR g (fun k => decide (k < i + 1) && P k) := by
  funext j
  by_cases z : j = 49 + i
  · subst z; rw [upd_at, tc_in hi]; simp [h]
  · rw [upd_ne z]
    by_cases y : 49 ≤ j ∧ j < 53
    · have e : j = 49 + (j - 49) := by omega
      rw [e, tc_in (by omega), tc_in (by omega), show decide (j - 49 < i + 1) = decide (j - 49 < i) from decide_eq_decide.mpr (by omega)]
    · rw [tc_out (by omega), tc_out (by omega)]
theorem tc_no {g : Nat → Int32} {P : Nat → Bool} {i : Nat} (h : P i = false) : tcR g (fun k => decide (k < i) && P k) = tcR g (fun k => decide (k < i + 1) && P k) := tc_cong (fun k _ => by
  by_cases z : k = i
  · subst z; simp [h]
  · rw [show decide (k < i + 1) = decide (k < i) from decide_eq_decide.mpr (by omega)])

set_option maxRecDepth 100000 in
set_option maxHeartbeats 4000000 in
theorem c_mTouch_2 {ae ad : Nat → Nat} {sh : mSh} {σ : mSt} (hm : mModel ad sh) {g : Nat → Int32} {A B : Nat → Nat} {q : Nat} (hq : q < 2 ^ 31) (ha : ∀ k, k < 4 → (g (184 + 6 * k + 2) = nI (A k) ∧ A k < 2 ^ 31) ∧ g (184 + 6 * k + 4) = nI (B k) ∧ B k < 2 ^ 31) : ∀ (n i : Nat), 4 - i = n → i ≤ 4 → ∀ σ2 : mSt, nowR σ σ2 (tcR g (fun k => decide (k < i) && (fun k => decide (A k = q) || decide (B k = q)) k)) → Ev RX10 cX10_touches 3 false none (mRm 1 0 0) ae (mPv ad sh (fun σ' => nowR σ σ' (tcR g (fun k => decide (A k = q) || decide (B k = q))))) 2 [some (.ref (ad 61)), some (.int (nI q)), some (.int (nI i))] [] 0 0 ad sh σ2 := by
  intro n
  induction n with
  | zero =>
    intro i hn0 hi σ2 hn
    have e : i = 4 := by omega
    subst e
    refine ev_iload_2 dX10_touches_2 ?_
    refine ev_iconst_4 dX10_touches_3 ?_
    refine ev_icmp_ge (tgt := 53) dX10_touches_4 (by decide) (fun h4 => ?_) (fun h4 => absurd (Int32.le_refl _) h4)
    exact ev_pv dX10_touches_53 ⟨hn.1.trans (tc_cong (fun k hk => by simp [hk])), hn.2⟩
  | succ n ih =>
    intro i hn0 hi σ2 hn
    have hlt : i < 4 := by omega
    obtain ⟨⟨a1, a2⟩, a3, a4⟩ := ha i hlt
    refine ev_iload_2 dX10_touches_2 ?_
    refine ev_iconst_4 dX10_touches_3 ?_
    refine ev_icmp_ge (tgt := 53) dX10_touches_4 (by decide) (fun h4 => absurd h4 (nI_ge (b := 4) hlt (by decide))) (fun h4 => ?_)
    refine ev_aload_0 dX10_touches_7 ?_
    refine gf_X10_11 dX10_touches_8 hm.1 rfl ?_
    refine ev_iload_2 dX10_touches_11 ?_
    refine cl_X10_72 (c_castleAt (t := (i))) dX10_touches_12 rfl (Nat.le_of_ble_eq_true rfl) ?_
    refine ev_iconst_2 dX10_touches_15 ?_
    refine ev_iadd dX10_touches_16 ?_
    rw [show nI (184 + 6 * i) + (2 : Int32) = nI (184 + 6 * i + 2) from nI_add (184 + 6 * i) (2)]
    refine ev_ldk (k := 184 + 6 * i + 2) hm.2.1 hn.1 rfl (by omega) (by decide) dX10_touches_17 ?_
    rw [tc_out (by omega), a1]
    refine ev_iload_1 dX10_touches_18 ?_
    refine ev_icmp_eq (tgt := 37) dX10_touches_19 (by decide) (fun h19 => ?_) (fun h19 => ?_)
    · have hP : (decide (A i = q) || decide (B i = q)) = true := by
        first
        | (rw [decide_eq_true ((nI_eq a2 hq).mp h19)]; rfl)
        | (rw [decide_eq_true ((nI_eq a4 hq).mp h34), Bool.or_true]; done)
      refine ev_aload_0 dX10_touches_37 ?_
      refine gf_X10_11 dX10_touches_38 hm.1 rfl ?_
      refine ev_bipush_49 dX10_touches_41 ?_
      refine ev_iload_2 dX10_touches_43 ?_
      refine ev_iadd dX10_touches_44 ?_
      rw [show (49 : Int32) + nI i = nI (49 + i) from nI_add (49) (i)]
      refine ev_iconst_0 dX10_touches_45 ?_
      refine ev_stk (k := 49 + i) hm.2.1 hn.1 rfl (by omega) (by decide) dX10_touches_46 (fun σ46 hw46 hf46 hl46 => ?_)
      refine ev_iinc_2 (v := 1) dX10_touches_47 (by decide) rfl rfl ?_
      rw [show nI i + 1 = nI (i + 1) from nI_add (i) 1]
      refine ev_goto (tgt := 2) dX10_touches_50 (by decide) ?_
      exact ih (i + 1) (by omega) (by omega) _ ⟨hw46.trans (tc_yes hlt hP), fun j xx => (hf46 j xx).trans (hn.2.1 j xx), hl46.trans hn.2.2⟩
    · refine ev_aload_0 dX10_touches_22 ?_
      refine gf_X10_11 dX10_touches_23 hm.1 rfl ?_
      refine ev_iload_2 dX10_touches_26 ?_
      refine cl_X10_72 (c_castleAt (t := (i))) dX10_touches_27 rfl (Nat.le_of_ble_eq_true rfl) ?_
      refine ev_iconst_4 dX10_touches_30 ?_
      refine ev_iadd dX10_touches_31 ?_
      rw [show nI (184 + 6 * i) + (4 : Int32) = nI (184 + 6 * i + 4) from nI_add (184 + 6 * i) (4)]
      refine ev_ldk (k := 184 + 6 * i + 4) hm.2.1 hn.1 rfl (by omega) (by decide) dX10_touches_32 ?_
      rw [tc_out (by omega), a3]
      refine ev_iload_1 dX10_touches_33 ?_
      refine ev_icmp_ne (tgt := 47) dX10_touches_34 (by decide) (fun h34 => ?_) (fun h34 => ?_)
      · refine ev_iinc_2 (v := 1) dX10_touches_47 (by decide) rfl rfl ?_
        rw [show nI i + 1 = nI (i + 1) from nI_add (i) 1]
        refine ev_goto (tgt := 2) dX10_touches_50 (by decide) ?_
        have hP : (decide (A i = q) || decide (B i = q)) = false := by rw [decide_eq_false (fun z => h19 (congrArg nI z)), decide_eq_false (fun z => h34 (congrArg nI z))]; rfl
        exact ih (i + 1) (by omega) (by omega) _ ⟨hn.1.trans (tc_no hP), hn.2⟩
      · have hP : (decide (A i = q) || decide (B i = q)) = true := by
          first
          | (rw [decide_eq_true ((nI_eq a2 hq).mp h19)]; rfl)
          | (rw [decide_eq_true ((nI_eq a4 hq).mp h34), Bool.or_true]; done)
        refine ev_aload_0 dX10_touches_37 ?_
        refine gf_X10_11 dX10_touches_38 hm.1 rfl ?_
        refine ev_bipush_49 dX10_touches_41 ?_
        refine ev_iload_2 dX10_touches_43 ?_
        refine ev_iadd dX10_touches_44 ?_
        rw [show (49 : Int32) + nI i = nI (49 + i) from nI_add (49) (i)]
        refine ev_iconst_0 dX10_touches_45 ?_
        refine ev_stk (k := 49 + i) hm.2.1 hn.1 rfl (by omega) (by decide) dX10_touches_46 (fun σ46 hw46 hf46 hl46 => ?_)
        refine ev_iinc_2 (v := 1) dX10_touches_47 (by decide) rfl rfl ?_
        rw [show nI i + 1 = nI (i + 1) from nI_add (i) 1]
        refine ev_goto (tgt := 2) dX10_touches_50 (by decide) ?_
        exact ih (i + 1) (by omega) (by omega) _ ⟨hw46.trans (tc_yes hlt hP), fun j xx => (hf46 j xx).trans (hn.2.1 j xx), hl46.trans hn.2.2⟩
set_option maxRecDepth 100000 in
set_option maxHeartbeats 4000000 in
theorem c_mTouch {ae ad : Nat → Nat} {sh : mSh} {σ : mSt} (hm : mModel ad sh) {g : Nat → Int32} {A B : Nat → Nat} {q : Nat} (hq : q < 2 ^ 31) (ha : ∀ k, k < 4 → (g (184 + 6 * k + 2) = nI (A k) ∧ A k < 2 ^ 31) ∧ g (184 + 6 * k + 4) = nI (B k) ∧ B k < 2 ^ 31) (hg : σ.1 62 = g) : Ct yX10_touches cX10_touches 3 none 1 0 0 [.ref (ad 61), .int (nI q)] ae ad sh σ (mPv ad sh (fun σ' => nowR σ σ' (tcR g (fun k => decide (A k = q) || decide (B k = q))))) := by
  refine Ct.ofL (own := RX10) (ini := false) (ls := [some (.ref (ad 61)), some (.int (nI q)), none]) (by decide +kernel) rfl (fun h => by cases h) (Nat.le_of_ble_eq_true rfl) rfl ?_
  refine ev_iconst_0 dX10_touches_0 ?_
  refine ev_istore_2 dX10_touches_1 rfl rfl ?_
  exact c_mTouch_2 hm hq ha 4 0 rfl (by decide) _ ⟨hg.trans (tc_0 (fun k _ => by simp)).symm, fun _ _ => rfl, rfl⟩
/-- the row with 53 cells laid to 53 * d -/
def kpF (b g : Nat → Int32) (d n : Nat) : Nat → Int32 := fun i => if 53 * d ≤ i ∧ i < 53 * d + n then g (i - 53 * d) else b i
theorem kp_0 {b g : Nat → Int32} {d : Nat} : kpF b g d 0 = b := by
  funext i; unfold kpF; rw [if_neg (by omega)]
theorem kp_s {b g : Nat → Int32} {d n : Nat} : upd (kpF b g d n) (53 * d + n) (g n) = kpF b g d (n + 1) := by
  funext i
  by_cases z : i = 53 * d + n
  · subst z
    rw [upd_at]
    unfold kpF
    rw [if_pos (by omega), Nat.add_sub_cancel_left]
  · rw [upd_ne z]
    unfold kpF
    by_cases y : 53 * d ≤ i ∧ i < 53 * d + n
    · rw [if_pos y, if_pos (by omega)]
    · rw [if_neg y, if_neg (by omega)]
theorem kp_at {b g : Nat → Int32} {d k : Nat} (h : k < 53) : kpF b g d 53 (53 * d + k) = g k := by
  unfold kpF
  rw [if_pos (by omega), Nat.add_sub_cancel_left]

set_option maxRecDepth 100000 in
set_option maxHeartbeats 4000000 in
theorem c_mKeeps_2 {ae ad : Nat → Nat} {sh : mSh} {σ : mSt} (hm : mModel ad sh) {g b : Nat → Int32} {d : Nat} (hd : d ≤ 1) (hg : σ.1 62 = g) : ∀ (n i : Nat), 53 - i = n → i ≤ 53 → ∀ σ2 : mSt, (σ2.1 71 = kpF b g d i ∧ (∀ j, j ≠ 71 → σ2.1 j = σ.1 j) ∧ σ2.2 = σ.2) → Ev RX10 cX10_keeps 3 false none (mRm 0 0 0) ae (mPv ad sh (fun σ' => σ'.1 71 = kpF b g d 53 ∧ (∀ j, j ≠ 71 → σ'.1 j = σ.1 j) ∧ σ'.2 = σ.2)) 2 [some (.ref (ad 61)), some (.int (nI d)), some (.int (nI i))] [] 0 0 ad sh σ2 := by
  intro n
  induction n with
  | zero =>
    intro i hn0 hi σ2 hn
    have e : i = 53 := by omega
    subst e
    refine ev_iload_2 dX10_keeps_2 ?_
    refine ev_bipush_53 dX10_keeps_3 ?_
    refine ev_icmp_ge (tgt := 31) dX10_keeps_5 (by decide) (fun h5 => ?_) (fun h5 => absurd (Int32.le_refl _) h5)
    exact ev_pv dX10_keeps_31 hn
  | succ n ih =>
    intro i hn0 hi σ2 hn
    have hlt : i < 53 := by omega
    have hgn : σ2.1 62 = g := (hn.2.1 62 (by decide)).trans hg
    refine ev_iload_2 dX10_keeps_2 ?_
    refine ev_bipush_53 dX10_keeps_3 ?_
    refine ev_icmp_ge (tgt := 31) dX10_keeps_5 (by decide) (fun h5 => absurd h5 (nI_ge (b := 53) hlt (by decide))) (fun h5 => ?_)
    refine ev_aload_0 dX10_keeps_8 ?_
    refine gf_X10_39 dX10_keeps_9 hm.1 rfl ?_
    refine ev_bipush_53 dX10_keeps_12 ?_
    refine ev_iload_1 dX10_keeps_14 ?_
    refine ev_imul dX10_keeps_15 ?_
    rw [show (53 : Int32) * nI d = nI (53 * d) from nI_mul (53) (d)]
    refine ev_iload_2 dX10_keeps_16 ?_
    refine ev_iadd dX10_keeps_17 ?_
    rw [show nI (53 * d) + nI i = nI (53 * d + i) from nI_add (53 * d) (i)]
    refine ev_aload_0 dX10_keeps_18 ?_
    refine gf_X10_11 dX10_keeps_19 hm.1 rfl ?_
    refine ev_iload_2 dX10_keeps_22 ?_
    refine ev_ldk (k := i) hm.2.1 hgn rfl (by omega) (by decide) dX10_keeps_23 ?_
    refine ev_stk (k := 53 * d + i) hm.2.2.2.2.2.2.2.2.2.2.1 hn.1 rfl (by omega) (by decide) dX10_keeps_24 (fun σ24 hw24 hf24 hl24 => ?_)
    have znow_24 := (hf24 62 (by decide)).trans hgn
    refine ev_iinc_2 (v := 1) dX10_keeps_25 (by decide) rfl rfl ?_
    rw [show nI i + 1 = nI (i + 1) from nI_add (i) 1]
    refine ev_goto (tgt := 2) dX10_keeps_28 (by decide) ?_
    exact ih (i + 1) (by omega) (by omega) _ ⟨hw24.trans kp_s, fun j xx => (hf24 j xx).trans (hn.2.1 j xx), hl24.trans hn.2.2⟩
set_option maxRecDepth 100000 in
set_option maxHeartbeats 4000000 in
theorem c_mKeeps {ae ad : Nat → Nat} {sh : mSh} {σ : mSt} (hm : mModel ad sh) {g b : Nat → Int32} {d : Nat} (hd : d ≤ 1) (hg : σ.1 62 = g) (hb : σ.1 71 = b) : Ct yX10_keeps cX10_keeps 3 none 0 0 0 [.ref (ad 61), .int (nI d)] ae ad sh σ (mPv ad sh (fun σ' => σ'.1 71 = kpF b g d 53 ∧ (∀ j, j ≠ 71 → σ'.1 j = σ.1 j) ∧ σ'.2 = σ.2)) := by
  refine Ct.ofL (own := RX10) (ini := false) (ls := [some (.ref (ad 61)), some (.int (nI d)), none]) (by decide +kernel) rfl (fun h => by cases h) (Nat.le_of_ble_eq_true rfl) rfl ?_
  refine ev_iconst_0 dX10_keeps_0 ?_
  refine ev_istore_2 dX10_keeps_1 rfl rfl ?_
  exact c_mKeeps_2 hm hd hg 53 0 rfl (by decide) _ ⟨hb.trans kp_0.symm, fun _ _ => rfl, rfl⟩
set_option maxRecDepth 100000 in
set_option maxHeartbeats 4000000 in
theorem c_mAgain_2 {ae ad : Nat → Nat} {sh : mSh} {σ : mSt} (hm : mModel ad sh) {g b : Nat → Int32} {d : Nat} (hd : d ≤ 1) (hb : σ.1 71 = b) : ∀ (n i : Nat), 53 - i = n → i ≤ 53 → ∀ σ2 : mSt, (σ2.1 62 = fa_fill (fun k => b (53 * d + k)) g i ∧ (∀ j, j ≠ 62 → σ2.1 j = σ.1 j) ∧ σ2.2 = σ.2) → Ev RX10 cX10_again 3 false none (mRm 0 0 0) ae (mPv ad sh (fun σ' => σ'.1 62 = fa_fill (fun k => b (53 * d + k)) g 53 ∧ (∀ j, j ≠ 62 → σ'.1 j = σ.1 j) ∧ σ'.2 = σ.2)) 2 [some (.ref (ad 61)), some (.int (nI d)), some (.int (nI i))] [] 0 0 ad sh σ2 := by
  intro n
  induction n with
  | zero =>
    intro i hn0 hi σ2 hn
    have e : i = 53 := by omega
    subst e
    refine ev_iload_2 dX10_again_2 ?_
    refine ev_bipush_53 dX10_again_3 ?_
    refine ev_icmp_ge (tgt := 31) dX10_again_5 (by decide) (fun h5 => ?_) (fun h5 => absurd (Int32.le_refl _) h5)
    exact ev_pv dX10_again_31 hn
  | succ n ih =>
    intro i hn0 hi σ2 hn
    have hlt : i < 53 := by omega
    have hbn : σ2.1 71 = b := (hn.2.1 71 (by decide)).trans hb
    refine ev_iload_2 dX10_again_2 ?_
    refine ev_bipush_53 dX10_again_3 ?_
    refine ev_icmp_ge (tgt := 31) dX10_again_5 (by decide) (fun h5 => absurd h5 (nI_ge (b := 53) hlt (by decide))) (fun h5 => ?_)
    refine ev_aload_0 dX10_again_8 ?_
    refine gf_X10_11 dX10_again_9 hm.1 rfl ?_
    refine ev_iload_2 dX10_again_12 ?_
    refine ev_aload_0 dX10_again_13 ?_
    refine gf_X10_39 dX10_again_14 hm.1 rfl ?_
    refine ev_bipush_53 dX10_again_17 ?_
    refine ev_iload_1 dX10_again_19 ?_
    refine ev_imul dX10_again_20 ?_
    rw [show (53 : Int32) * nI d = nI (53 * d) from nI_mul (53) (d)]
    refine ev_iload_2 dX10_again_21 ?_
    refine ev_iadd dX10_again_22 ?_
    rw [show nI (53 * d) + nI i = nI (53 * d + i) from nI_add (53 * d) (i)]
    refine ev_ldk (k := 53 * d + i) hm.2.2.2.2.2.2.2.2.2.2.1 hbn rfl (by omega) (by decide) dX10_again_23 ?_
    refine ev_stk (k := i) hm.2.1 hn.1 rfl (by omega) (by decide) dX10_again_24 (fun σ24 hw24 hf24 hl24 => ?_)
    have zbehind_24 := (hf24 71 (by decide)).trans hbn
    refine ev_iinc_2 (v := 1) dX10_again_25 (by decide) rfl rfl ?_
    rw [show nI i + 1 = nI (i + 1) from nI_add (i) 1]
    refine ev_goto (tgt := 2) dX10_again_28 (by decide) ?_
    exact ih (i + 1) (by omega) (by omega) _ ⟨hw24.trans (fa_fill_succ _ _ _), fun j xx => (hf24 j xx).trans (hn.2.1 j xx), hl24.trans hn.2.2⟩
set_option maxRecDepth 100000 in
set_option maxHeartbeats 4000000 in
theorem c_mAgain {ae ad : Nat → Nat} {sh : mSh} {σ : mSt} (hm : mModel ad sh) {g b : Nat → Int32} {d : Nat} (hd : d ≤ 1) (hg : σ.1 62 = g) (hb : σ.1 71 = b) : Ct yX10_again cX10_again 3 none 0 0 0 [.ref (ad 61), .int (nI d)] ae ad sh σ (mPv ad sh (fun σ' => σ'.1 62 = fa_fill (fun k => b (53 * d + k)) g 53 ∧ (∀ j, j ≠ 62 → σ'.1 j = σ.1 j) ∧ σ'.2 = σ.2)) := by
  refine Ct.ofL (own := RX10) (ini := false) (ls := [some (.ref (ad 61)), some (.int (nI d)), none]) (by decide +kernel) rfl (fun h => by cases h) (Nat.le_of_ble_eq_true rfl) rfl ?_
  refine ev_iconst_0 dX10_again_0 ?_
  refine ev_istore_2 dX10_again_1 rfl rfl ?_
  exact c_mAgain_2 hm hd hb 53 0 rfl (by decide) _ ⟨hg.trans (fa_fill_0 _ _).symm, fun _ _ => rfl, rfl⟩
theorem again_row {b g g1 : Nat → Int32} {d : Nat} (hb : ∀ k, k < 53 → b (53 * d + k) = g k) (h : ∀ k, 53 ≤ k → g1 k = g k) : fa_fill (fun k => b (53 * d + k)) g1 53 = g := by
  funext k
  by_cases z : k < 53
  · rw [fa_fill_in z]; exact hb k z
  · rw [fa_fill_out (by omega)]; exact h k (by omega)

