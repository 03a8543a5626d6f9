/-- where the word k begins in the reference's list of words -/
def wo (k : Nat) : Nat := [0, 5, 11, 16, 23, 30, 35, 42].getD k 0
theorem wo_s : ∀ k, k < 7 → ∀ j, j < slen k → sgn 16 (wo k + j) = sgn k j := by decide +kernel
theorem wo_32 : ∀ k, k < 7 → sgn 16 (wo k + slen k) = 32 := by decide +kernel
theorem wo_n : ∀ k, k < 7 → ∀ j, j < slen k → ¬ sgn k j = 32 := by decide +kernel
theorem wo_len : ∀ k, k < 7 → wo k + slen k < slen 16 := by decide +kernel
theorem wo_le : ∀ k, k < 8 → wo k ≤ 42 := by decide +kernel
theorem wo_next : ∀ k, k < 7 → indF 16 32 (wo k) + 1 = nI (wo (k + 1)) := by decide +kernel
theorem wo_lt : ∀ k, k < 7 → wo k < 42 := by decide +kernel
theorem al_le2 {T : Nat → Int32} {tl k : Nat} : alF T tl k ≤ slen k := by have := ss_le (T := T) (W := sgn k) (min tl (slen k)) 0; unfold alF; omega

set_option maxRecDepth 100000 in
set_option maxHeartbeats 4000000 in
theorem c_like_2 {ae ad : Nat → Nat} {sh : mSh} {σ : mSt} (hm : mModel ad sh) {k tl : Nat} (hk : k < 7) (htl : tl ≤ 60) (hl : σ.1 61 4 = nI tl) {Q : Nat} : ∀ (r n : Nat), min tl (slen k) - n = r → n ≤ min tl (slen k) → ssF (σ.1 64) (sgn k) n (min tl (slen k) - n) = Q → Ev RX10 cX10_like 3 false (some .int) (mRm 4 0 0) ae (mEq (some (.int (nI Q))) ad sh σ) 2 [some (.ref (ad 61)), some (.int (nI (wo k))), some (.int (nI n))] [] 0 0 ad sh σ := by
  have h100 := slen_le k (by omega)
  have hwl := wo_len k hk
  have hw42 := wo_lt k hk
  intro r
  induction r with
  | zero =>
    intro n hr hn e
    have en : n = Q := by rw [← e, hr]; rfl
    have hks : wo k + n < slen 16 := by omega
    refine ev_iload_2 dX10_like_2 ?_
    refine ev_aload_0 dX10_like_3 ?_
    refine gf_X10_85 dX10_like_4 hm.1 rfl ?_
    rw [hl]
    refine ev_icmp_ge (tgt := 46) dX10_like_7 (by decide) (fun h7 => ?_) (fun h7 => ?_)
    · refine ev_iload_2 dX10_like_46 ?_
      exact ev_iret dX10_like_47 (by rw [en]) rfl
    · refine ev_ldcs (q := 16) rfl dX10_like_10 ?_
      refine ev_iload_1 dX10_like_12 ?_
      refine ev_iload_2 dX10_like_13 ?_
      refine ev_iadd dX10_like_14 ?_
      rw [show nI (wo k) + nI n = nI (wo k + n) from nI_add (wo k) (n)]
      refine ct_X10_91 (c_charAt (i := 16) (by decide) hks) (by decide) dX10_like_15 rfl (Nat.le_of_ble_eq_true rfl) ?_
      have hsk : n = slen k := by
        have : ¬ tl ≤ n := fun z => h7 (nI_le z (by omega))
        omega
      rw [show sgn 16 (wo k + n) = 32 from by rw [hsk]; exact wo_32 k hk]
      refine ev_bipush_32 dX10_like_18 ?_
      refine ev_icmp_eq (tgt := 46) dX10_like_20 (by decide) (fun h20 => ?_) (fun h20 => (by exfalso; revert h20; decide))
      refine ev_iload_2 dX10_like_46 ?_
      exact ev_iret dX10_like_47 (by rw [en]) rfl
  | succ r ih =>
    intro n hr hn e
    have hlt : n < tl := by omega
    have hls : n < slen k := by omega
    have hks : wo k + n < slen 16 := by omega
    have hsg := wo_s k hk n hls
    refine ev_iload_2 dX10_like_2 ?_
    refine ev_aload_0 dX10_like_3 ?_
    refine gf_X10_85 dX10_like_4 hm.1 rfl ?_
    rw [hl]
    refine ev_icmp_ge (tgt := 46) dX10_like_7 (by decide) (fun h7 => absurd h7 (nI_ge hlt (by omega))) (fun h7 => ?_)
    refine ev_ldcs (q := 16) rfl dX10_like_10 ?_
    refine ev_iload_1 dX10_like_12 ?_
    refine ev_iload_2 dX10_like_13 ?_
    refine ev_iadd dX10_like_14 ?_
    rw [show nI (wo k) + nI n = nI (wo k + n) from nI_add (wo k) (n)]
    refine ct_X10_91 (c_charAt (i := 16) (by decide) hks) (by decide) dX10_like_15 rfl (Nat.le_of_ble_eq_true rfl) ?_
    rw [hsg]
    refine ev_bipush_32 dX10_like_18 ?_
    refine ev_icmp_eq (tgt := 46) dX10_like_20 (by decide) (fun h20 => absurd h20 (wo_n k hk n hls)) (fun h20 => ?_)
    refine ev_aload_0 dX10_like_23 ?_
    refine gf_X10_18 dX10_like_24 hm.1 rfl ?_
    refine ev_iload_2 dX10_like_27 ?_
    refine ev_ldk (k := n) hm.2.2.2.1 rfl rfl (by omega) (by decide) dX10_like_28 ?_
    refine ev_ldcs (q := 16) rfl dX10_like_29 ?_
    refine ev_iload_1 dX10_like_31 ?_
    refine ev_iload_2 dX10_like_32 ?_
    refine ev_iadd dX10_like_33 ?_
    rw [show nI (wo k) + nI n = nI (wo k + n) from nI_add (wo k) (n)]
    refine ct_X10_91 (c_charAt (i := 16) (by decide) hks) (by decide) dX10_like_34 rfl (Nat.le_of_ble_eq_true rfl) ?_
    rw [hsg]
    refine ev_icmp_ne (tgt := 46) dX10_like_37 (by decide) (fun h37 => ?_) (fun h37 => ?_)
    · refine ev_iload_2 dX10_like_46 ?_
      exact ev_iret dX10_like_47 (by rw [← e, ss_ne (by omega) h37]) rfl
    · refine ev_iinc_2 (v := 1) dX10_like_40 (by decide) rfl rfl ?_
      rw [show nI n + 1 = nI (n + 1) from nI_add (n) 1]
      refine ev_goto (tgt := 2) dX10_like_43 (by decide) ?_
      exact ih (n + 1) (by omega) (by omega) ((ss_eq (by omega) h37).symm.trans e)
set_option maxRecDepth 100000 in
set_option maxHeartbeats 4000000 in
theorem c_mLike {ae ad : Nat → Nat} {sh : mSh} {σ : mSt} (hm : mModel ad sh) {k tl : Nat} (hk : k < 7) (htl : tl ≤ 60) (hl : σ.1 61 4 = nI tl) : Ct yX10_like cX10_like 3 (some .int) 4 0 0 [.ref (ad 61), .int (nI (wo k))] ae ad sh σ (mEq (some (.int (nI (alF (σ.1 64) tl k)))) ad sh σ) := by
  refine Ct.ofL (own := RX10) (ini := false) (ls := [some (.ref (ad 61)), some (.int (nI (wo k))), none]) (by decide +kernel) rfl (fun h => by cases h) (Nat.le_of_ble_eq_true rfl) rfl ?_
  refine ev_iconst_0 dX10_like_0 ?_
  refine ev_istore_2 dX10_like_1 rfl rfl ?_
  exact Ev.to (by rfl) rfl rfl (c_like_2 hm hk htl hl (min tl (slen k)) 0 (by omega) (Nat.zero_le _) rfl)
