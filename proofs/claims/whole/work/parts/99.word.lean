/-- where the word k begins in the reference's list of words -/
def wo (k : Nat) : Nat := [0, 5, 11, 16, 23, 30, 35, 42].getD k 0
theorem wo_s : ∀ k, k < 7 → ∀ j, j < slen k → sgn 16 (wo k + j) = sgn k j := by decide +kernel
theorem wo_32 : ∀ k, k < 7 → sgn 16 (wo k + slen k) = 32 := by decide +kernel
theorem wo_n : ∀ k, k < 7 → ∀ j, j < slen k → ¬ sgn k j = 32 := by decide +kernel
theorem wo_len : ∀ k, k < 7 → wo k + slen k < slen 16 := by decide +kernel
theorem wo_le : ∀ k, k < 8 → wo k ≤ 42 := by decide +kernel
theorem wo_next : ∀ k, k < 7 → indF 16 32 (wo k) + 1 = nI (wo (k + 1)) := by decide +kernel
theorem wo_lt : ∀ k, k < 7 → wo k < 42 := by decide +kernel
theorem al_le2 {T : Nat → Int32} {tl k : Nat} : alF T tl k ≤ slen k := by have := ss_le (T := T) (W := sgn k) (min tl (slen k)) 0; unfold alF; omega

set_option maxRecDepth 100000 in
set_option maxHeartbeats 4000000 in
theorem c_like_2 {ae ad : Nat → Nat} {sh : mSh} {σ : mSt} (hm : mModel ad sh) {k tl : Nat} (hk : k < 7) (htl : tl ≤ 60) (hl : σ.1 61 4 = nI tl) {Q : Nat} : ∀ (r n : Nat), min tl (slen k) - n = r → n ≤ min tl (slen k) → ssF (σ.1 64) (sgn k) n (min tl (slen k) - n) = Q → Ev RX10 cX10_like 3 false (some .int) (mRm 4 0 0) ae (mEq (some (.int (nI Q))) ad sh σ) 2 [some (.ref (ad 61)), some (.int (nI (wo k))), some (.int (nI n))] [] 0 0 ad sh σ := by
  have h100 := slen_le k (by omega)
  have hwl := wo_len k hk
  have hw42 := wo_lt k hk
  intro r
  induction r with
  | zero =>
    intro n hr hn e
    have en : n = Q := by rw [← e, hr]; rfl
    have hks : wo k + n < slen 16 := by omega
    refine ev_iload_2 dX10_like_2 ?_
    refine ev_aload_0 dX10_like_3 ?_
    refine gf_X10_85 dX10_like_4 hm.1 rfl ?_
    rw [hl]
    refine ev_icmp_ge (tgt := 46) dX10_like_7 (by decide) (fun h7 => ?_) (fun h7 => ?_)
    · refine ev_iload_2 dX10_like_46 ?_
      exact ev_iret dX10_like_47 (by rw [en]) rfl
    · refine ev_ldcs (q := 16) rfl dX10_like_10 ?_
      refine ev_iload_1 dX10_like_12 ?_
      refine ev_iload_2 dX10_like_13 ?_
      refine ev_iadd dX10_like_14 ?_
      rw [show nI (wo k) + nI n = nI (wo k + n) from nI_add (wo k) (n)]
      refine ct_X10_91 (c_charAt (i := 16) (by decide) hks) (by decide) dX10_like_15 rfl (Nat.le_of_ble_eq_true rfl) ?_
      have hsk : n = slen k := by
        have : ¬ tl ≤ n := fun z => h7 (nI_le z (by omega))
        omega
      rw [show sgn 16 (wo k + n) = 32 from by rw [hsk]; exact wo_32 k hk]
      refine ev_bipush_32 dX10_like_18 ?_
      refine ev_icmp_eq (tgt := 46) dX10_like_20 (by decide) (fun h20 => ?_) (fun h20 => (by exfalso; revert h20; decide))
      refine ev_iload_2 dX10_like_46 ?_
      exact ev_iret dX10_like_47 (by rw [en]) rfl
  | succ r ih =>
    intro n hr hn e
    have hlt : n < tl := by omega
    have hls : n < slen k := by omega
    have hks : wo k + n < slen 16 := by omega
    have hsg := wo_s k hk n hls
    refine ev_iload_2 dX10_like_2 ?_
    refine ev_aload_0 dX10_like_3 ?_
    refine gf_X10_85 dX10_like_4 hm.1 rfl ?_
    rw [hl]
    refine ev_icmp_ge (tgt := 46) dX10_like_7 (by decide) (fun h7 => absurd h7 (nI_ge hlt (by omega))) (fun h7 => ?_)
    refine ev_ldcs (q := 16) rfl dX10_like_10 ?_
    refine ev_iload_1 dX10_like_12 ?_
    refine ev_iload_2 dX10_like_13 ?_
    refine ev_iadd dX10_like_14 ?_
    rw [show nI (wo k) + nI n = nI (wo k + n) from nI_add (wo k) (n)]
    refine ct_X10_91 (c_charAt (i := 16) (by decide) hks) (by decide) dX10_like_15 rfl (Nat.le_of_ble_eq_true rfl) ?_
    rw [hsg]
    refine ev_bipush_32 dX10_like_18 ?_
    refine ev_icmp_eq (tgt := 46) dX10_like_20 (by decide) (fun h20 => absurd h20 (wo_n k hk n hls)) (fun h20 => ?_)
    refine ev_aload_0 dX10_like_23 ?_
    refine gf_X10_18 dX10_like_24 hm.1 rfl ?_
    refine ev_iload_2 dX10_like_27 ?_
    refine ev_ldk (k := n) hm.2.2.2.1 rfl rfl (by omega) (by decide) dX10_like_28 ?_
    refine ev_ldcs (q := 16) rfl dX10_like_29 ?_
    refine ev_iload_1 dX10_like_31 ?_
    refine ev_iload_2 dX10_like_32 ?_
    refine ev_iadd dX10_like_33 ?_
    rw [show nI (wo k) + nI n = nI (wo k + n) from nI_add (wo k) (n)]
    refine ct_X10_91 (c_charAt (i := 16) (by decide) hks) (by decide) dX10_like_34 rfl (Nat.le_of_ble_eq_true rfl) ?_
    rw [hsg]
    refine ev_icmp_ne (tgt := 46) dX10_like_37 (by decide) (fun h37 => ?_) (fun h37 => ?_)
    · refine ev_iload_2 dX10_like_46 ?_
      exact ev_iret dX10_like_47 (by rw [← e, ss_ne (by omega) h37]) rfl
    · refine ev_iinc_2 (v := 1) dX10_like_40 (by decide) rfl rfl ?_
      rw [show nI n + 1 = nI (n + 1) from nI_add (n) 1]
      refine ev_goto (tgt := 2) dX10_like_43 (by decide) ?_
      exact ih (n + 1) (by omega) (by omega) ((ss_eq (by omega) h37).symm.trans e)
set_option maxRecDepth 100000 in
set_option maxHeartbeats 4000000 in
theorem c_mLike {ae ad : Nat → Nat} {sh : mSh} {σ : mSt} (hm : mModel ad sh) {k tl : Nat} (hk : k < 7) (htl : tl ≤ 60) (hl : σ.1 61 4 = nI tl) : Ct yX10_like cX10_like 3 (some .int) 4 0 0 [.ref (ad 61), .int (nI (wo k))] ae ad sh σ (mEq (some (.int (nI (alF (σ.1 64) tl k)))) ad sh σ) := by
  refine Ct.ofL (own := RX10) (ini := false) (ls := [some (.ref (ad 61)), some (.int (nI (wo k))), none]) (by decide +kernel) rfl (fun h => by cases h) (Nat.le_of_ble_eq_true rfl) rfl ?_
  refine ev_iconst_0 dX10_like_0 ?_
  refine ev_istore_2 dX10_like_1 rfl rfl ?_
  exact Ev.to (by rfl) rfl rfl (c_like_2 hm hk htl hl (min tl (slen k)) 0 (by omega) (Nat.zero_le _) rfl)
theorem upd_upd {f : Nat → Int32} {j : Nat} {x y : Int32} : upd (upd f j x) j y = upd f j y := by
  funext k
  by_cases h : k = j
  · rw [h, upd_at, upd_at]
  · rw [upd_ne h, upd_ne h, upd_ne h]
abbrev hitK (T : Nat → Int32) (tl k : Nat) : Prop := alF T tl k = tl ∧ alF T tl k = slen k
/-- the last of the first k words that the tape is, or -1 -/
def fdF (T : Nat → Int32) (tl : Nat) : Nat → Int32
  | 0 => -1
  | k + 1 => if hitK T tl k then nI k else fdF T tl k
/-- how far the tape goes with one of the first k words -/
def mxK (T : Nat → Int32) (tl : Nat) : Nat → Nat
  | 0 => 0
  | k + 1 => max (mxK T tl k) (alF T tl k)
theorem mxK_le {T : Nat → Int32} {tl : Nat} : ∀ k, mxK T tl k ≤ tl
  | 0 => Nat.zero_le _
  | k + 1 => by
    have h1 := mxK_le (T := T) (tl := tl) k
    have h2 := al_le (T := T) (tl := tl) (k := k)
    rw [mxK]; omega
def wordR (σ σ' : mSt) (m : Nat) : Prop := σ'.1 61 = upd (σ.1 61) 5 (nI m) ∧ (∀ j, j ≠ 61 → σ'.1 j = σ.1 j) ∧ σ'.2 = σ.2
set_option maxRecDepth 100000 in
set_option maxHeartbeats 4000000 in
theorem c_word_11 {ae ad : Nat → Nat} {sh : mSh} {σ : mSt} (hm : mModel ad sh) {tl : Nat} {T : Nat → Int32} (htl : tl ≤ 60) (hT0 : σ.1 64 = T) (hl : σ.1 61 4 = nI tl) : ∀ (n k : Nat), 7 - k = n → k ≤ 7 → ∀ σ2 : mSt, wordR σ σ2 (mxK T tl k) → Ev RX10 cX10_word 5 false (some .int) (mRm 5 0 0) ae (mPi ad sh (fun x σ' => x = fdF T tl 7 ∧ wordR σ σ' (mxK T tl 7))) 11 [some (.ref (ad 61)), some (.int (nI k)), some (.int (fdF T tl k)), some (.int (nI (wo k))), none] [] 0 0 ad sh σ2 := by
  intro n
  induction n with
  | zero =>
    intro k hn hi σ2 hR
    have e0 : k = 7 := by omega
    subst e0
    refine ev_iload_3 dX10_word_11 ?_
    refine ev_ldcs (q := 16) rfl dX10_word_12 ?_
    refine ct_X10_100 (c_strlen (i := 16) (by decide)) (by decide) dX10_word_14 rfl (Nat.le_of_ble_eq_true rfl) ?_
    refine ev_icmp_ge (tgt := 82) dX10_word_17 (by decide) (fun h17 => ?_) (fun h17 => absurd (by decide) h17)
    refine ev_iload_2 dX10_word_82 ?_
    exact ev_pi dX10_word_83 ⟨rfl, hR⟩
  | succ n ih =>
    intro k hn hi σ2 hR
    have hk : k < 7 := by omega
    obtain ⟨h61, hF, hll⟩ := hR
    have h100 := slen_le k (by omega)
    have hwl := wo_len k hk
    have hw42 := wo_lt k hk
    have hal := al_le2 (T := T) (tl := tl) (k := k)
    have hal3 := al_le (T := T) (tl := tl) (k := k)
    have ht2 : σ2.1 64 = T := (hF 64 (by decide)).trans hT0
    have hl2 : σ2.1 61 4 = nI tl := by rw [h61, upd_ne (by decide)]; exact hl
    have hlike := c_mLike (ae := ae) hm hk htl hl2
    rw [ht2] at hlike
    have hks : wo k + alF T tl k < slen 16 := by omega
    have hmk := mxK_le (T := T) (tl := tl) k
    refine ev_iload_3 dX10_word_11 ?_
    refine ev_ldcs (q := 16) rfl dX10_word_12 ?_
    refine ct_X10_100 (c_strlen (i := 16) (by decide)) (by decide) dX10_word_14 rfl (Nat.le_of_ble_eq_true rfl) ?_
    refine ev_icmp_ge (tgt := 82) dX10_word_17 (by decide) (fun h17 => absurd h17 (nI_ge (b := 42) hw42 (by decide))) (fun h17 => ?_)
    refine ev_aload_0 dX10_word_20 ?_
    refine ev_iload_3 dX10_word_21 ?_
    refine cl_X10_102 hlike hm.1 dX10_word_22 rfl (Nat.le_of_ble_eq_true rfl) ?_
    
    refine ev_istore_4 dX10_word_25 rfl rfl ?_
    refine ev_aload_0 dX10_word_27 ?_
    refine ev_aload_0 dX10_word_28 ?_
    refine gf_X10_97 dX10_word_29 hm.1 rfl ?_
    rw [show σ2.1 61 5 = nI (mxK T tl k) from by rw [h61, upd_at]]
    refine ev_iload_4 dX10_word_32 ?_
    refine ev_max lk_X10_105 (Nat.le_of_ble_eq_true rfl) (Nat.le_of_ble_eq_true rfl) (Nat.le_of_ble_eq_true rfl) (Nat.zero_le _) (Nat.zero_le _) dX10_word_34 ?_
    rw [maxR_nI (by omega) (by omega), show max (mxK T tl k) (alF T tl k) = mxK T tl (k + 1) from rfl]
    refine pf_X10_97 dX10_word_37 hm.1 rfl ?_
    refine ev_abs (fun σ37 hw37 hf37 hl37 => ?_)
    have ztape_37 := (hf37 64 (by omega)).trans ht2
    have R3 : wordR σ σ37 (mxK T tl (k + 1)) := ⟨by rw [hw37, h61, upd_upd], fun j hj => (hf37 j hj).trans (hF j hj), hl37.trans hll⟩
    have hl3 : σ37.1 61 4 = nI tl := by rw [R3.1, upd_ne (by decide)]; exact hl
    refine ev_iload_4 dX10_word_40 ?_
    refine ev_aload_0 dX10_word_42 ?_
    refine gf_X10_85 dX10_word_43 hm.1 rfl ?_
    rw [hl3]
    refine ev_icmp_ne (tgt := 65) dX10_word_46 (by decide) (fun h46 => ?_) (fun h46 => ?_)
    · have hf : fdF T tl (k + 1) = fdF T tl k := if_neg (fun z => h46 (by rw [z.1]))
      refine ev_iinc_1 (v := 1) dX10_word_65 (by decide) rfl rfl ?_
      rw [show nI k + 1 = nI (k + 1) from nI_add (k) 1]
      refine ev_ldcs (q := 16) rfl dX10_word_68 ?_
      refine ev_bipush_32 dX10_word_70 ?_
      refine ev_iload_3 dX10_word_72 ?_
      refine ct_X10_111 (c_ind2 (i := 16) (by decide) (by omega)) (by decide) dX10_word_73 rfl (Nat.le_of_ble_eq_true rfl) ?_
      refine ev_iconst_1 dX10_word_76 ?_
      refine ev_iadd dX10_word_77 ?_
      rw [wo_next k hk]
      refine ev_istore_3 dX10_word_78 rfl rfl ?_
      refine ev_goto (tgt := 11) dX10_word_79 (by decide) ?_
      refine ev_drop_4 ?_
      exact Ev.to (by rw [hf]) rfl rfl (ih (k + 1) (by omega) (by omega) σ37 R3)
    · skip
      refine ev_ldcs (q := 16) rfl dX10_word_49 ?_
      refine ev_iload_3 dX10_word_51 ?_
      refine ev_iload_4 dX10_word_52 ?_
      refine ev_iadd dX10_word_54 ?_
      rw [show nI (wo k) + nI (alF T tl k) = nI (wo k + (alF T tl k)) from nI_add (wo k) (alF T tl k)]
      refine ct_X10_91 (c_charAt (i := 16) (by decide) hks) (by decide) dX10_word_55 rfl (Nat.le_of_ble_eq_true rfl) ?_
      refine ev_bipush_32 dX10_word_58 ?_
      refine ev_icmp_ne (tgt := 65) dX10_word_60 (by decide) (fun h60 => ?_) (fun h60 => ?_)
      · have hf : fdF T tl (k + 1) = fdF T tl k := if_neg (fun z => h60 (by rw [z.2]; exact wo_32 k hk))
        refine ev_iinc_1 (v := 1) dX10_word_65 (by decide) rfl rfl ?_
        rw [show nI k + 1 = nI (k + 1) from nI_add (k) 1]
        refine ev_ldcs (q := 16) rfl dX10_word_68 ?_
        refine ev_bipush_32 dX10_word_70 ?_
        refine ev_iload_3 dX10_word_72 ?_
        refine ct_X10_111 (c_ind2 (i := 16) (by decide) (by omega)) (by decide) dX10_word_73 rfl (Nat.le_of_ble_eq_true rfl) ?_
        refine ev_iconst_1 dX10_word_76 ?_
        refine ev_iadd dX10_word_77 ?_
        rw [wo_next k hk]
        refine ev_istore_3 dX10_word_78 rfl rfl ?_
        refine ev_goto (tgt := 11) dX10_word_79 (by decide) ?_
        refine ev_drop_4 ?_
        exact Ev.to (by rw [hf]) rfl rfl (ih (k + 1) (by omega) (by omega) σ37 R3)
      · skip
        refine ev_iload_1 dX10_word_63 ?_
        refine ev_istore_2 dX10_word_64 rfl rfl ?_
        have hs32 : alF T tl k = slen k := Classical.byContradiction fun z => by
          have hz : alF T tl k < slen k := by omega
          rw [wo_s k hk _ hz] at h60
          exact wo_n k hk _ hz h60
        have hf : fdF T tl (k + 1) = nI k := if_pos ⟨(nI_eq (by omega) (by omega)).mp h46, hs32⟩
        refine ev_iinc_1 (v := 1) dX10_word_65 (by decide) rfl rfl ?_
        rw [show nI k + 1 = nI (k + 1) from nI_add (k) 1]
        refine ev_ldcs (q := 16) rfl dX10_word_68 ?_
        refine ev_bipush_32 dX10_word_70 ?_
        refine ev_iload_3 dX10_word_72 ?_
        refine ct_X10_111 (c_ind2 (i := 16) (by decide) (by omega)) (by decide) dX10_word_73 rfl (Nat.le_of_ble_eq_true rfl) ?_
        refine ev_iconst_1 dX10_word_76 ?_
        refine ev_iadd dX10_word_77 ?_
        rw [wo_next k hk]
        refine ev_istore_3 dX10_word_78 rfl rfl ?_
        refine ev_goto (tgt := 11) dX10_word_79 (by decide) ?_
        refine ev_drop_4 ?_
        exact Ev.to (by rw [hf]) rfl rfl (ih (k + 1) (by omega) (by omega) σ37 R3)
set_option maxRecDepth 100000 in
set_option maxHeartbeats 4000000 in
theorem c_mWord {ae ad : Nat → Nat} {sh : mSh} {σ : mSt} (hm : mModel ad sh) {tl : Nat} {T : Nat → Int32} (htl : tl ≤ 60) (hT0 : σ.1 64 = T) (hl : σ.1 61 4 = nI tl) : Ct yX10_word cX10_word 5 (some .int) 5 0 0 [.ref (ad 61)] ae ad sh σ (mPi ad sh (fun x σ' => x = fdF T tl 7 ∧ wordR σ σ' (mxK T tl 7))) := by
  refine Ct.ofL (own := RX10) (ini := false) (ls := [some (.ref (ad 61)), none, none, none, none]) (by decide +kernel) rfl (fun h => by cases h) (Nat.le_of_ble_eq_true rfl) rfl ?_
  refine ev_aload_0 dX10_word_0 ?_
  refine ev_iconst_0 dX10_word_1 ?_
  refine pf_X10_97 dX10_word_2 hm.1 rfl ?_
  refine ev_iconst_0 dX10_word_5 ?_
  refine ev_istore_1 dX10_word_6 rfl rfl ?_
  refine ev_iconst_m1 dX10_word_7 ?_
  refine ev_istore_2 dX10_word_8 rfl rfl ?_
  refine ev_iconst_0 dX10_word_9 ?_
  refine ev_istore_3 dX10_word_10 rfl rfl ?_
  exact Ev.to (by rfl) rfl rfl (c_word_11 hm htl hT0 hl 7 0 rfl (Nat.zero_le _) _ ⟨rfl, fun j hj => mu_ne _ hj, rfl⟩)
