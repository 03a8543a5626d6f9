theorem ixF_out {L : Nat → Int32} {c : Int32} {f n : Nat} (h : n ≤ f) : ixF L c f (n - f) = -1 := by
  rw [show n - f = 0 by omega]; rfl
theorem ixF_hit {L : Nat → Int32} {c : Int32} {f n : Nat} (h : f < n) (e : L f = c) : ixF L c f (n - f) = nI f := by
  rw [show n - f = (n - (f + 1)) + 1 by omega, ixF, if_pos e]
theorem ixF_miss {L : Nat → Int32} {c : Int32} {f n : Nat} (h : f < n) (e : ¬ L f = c) : ixF L c f (n - f) = ixF L c (f + 1) (n - (f + 1)) := by
  rw [show n - f = (n - (f + 1)) + 1 by omega, ixF, if_neg e]

set_option maxRecDepth 100000 in
set_option maxHeartbeats 4000000 in
theorem c_canEncode {ae ad : Nat → Nat} {sh : mSh} {σ : mSt} {c : Int32} : Ct yJ1_canEncode_9a6ad cJ1_canEncode_9a6ad 1 (some .boolean) 0 0 0 [.int c] ae ad sh σ (mEq (some (.int (b2i (encB c)))) ad sh σ) := by
  refine Ct.ofL (own := RJ1) (ini := false) (ls := [some (.int c)]) (by decide +kernel) rfl (fun h => by cases h) (Nat.le_of_ble_eq_true rfl) rfl ?_
  refine ev_iload_0 dJ1_canEncode_9a6ad_0 ?_
  refine ev_if_lt (tgt := 15) dJ1_canEncode_9a6ad_1 (by decide) (fun h1 => ?_) (fun h1 => ?_)
  · refine ev_iconst_0 dJ1_canEncode_9a6ad_15 ?_
    exact ev_zret (b2i_nar _) dJ1_canEncode_9a6ad_16 (by simp_all [encB, b2i]) rfl
  · refine ev_iload_0 dJ1_canEncode_9a6ad_4 ?_
    refine ev_sipush_255 dJ1_canEncode_9a6ad_5 ?_
    refine ev_icmp_gt (tgt := 15) dJ1_canEncode_9a6ad_8 (by decide) (fun h8 => ?_) (fun h8 => ?_)
    · refine ev_iconst_0 dJ1_canEncode_9a6ad_15 ?_
      exact ev_zret (b2i_nar _) dJ1_canEncode_9a6ad_16 (by simp_all [encB, b2i]) rfl
    · refine ev_iconst_1 dJ1_canEncode_9a6ad_11 ?_
      refine ev_goto (tgt := 16) dJ1_canEncode_9a6ad_12 (by decide) ?_
      exact ev_zret (b2i_nar _) dJ1_canEncode_9a6ad_16 (by simp_all [encB, b2i]) rfl
set_option maxRecDepth 100000 in
set_option maxHeartbeats 4000000 in
theorem c_ixc_7 {ae ad : Nat → Nat} {sh : mSh} {σ : mSt} {i : Nat} {c : Int32} (hi : i < 20) {f : Int32} : ∀ (n k0 : Nat), slen i - k0 = n → k0 ≤ slen i → Ev RJ1 cJ1_indexOfChar_4cfef 6 false (some .int) (mRm 0 0 0) ae (mEq (some (.int (ixF (sgn i) c.toInt8.toInt32 k0 (slen i - k0)))) ad sh σ) 7 [some (.ref (ae (200 + i))), some (.int c), some (.int f), some (.int (nI (slen i))), some (.int c.toInt8.toInt32), some (.int (nI k0))] [] 0 0 ad sh σ := by
  have h100 : mLen.getD i 0 < 100 := slen_le i hi
  have e100 : mLen.getD i 0 = slen i := rfl
  intro n
  induction n with
  | zero =>
    intro k0 hn hk2
    have e : k0 = slen i := by omega
    subst e
    refine ev_iload_5 dJ1_indexOfChar_4cfef_7 ?_
    refine ev_iload_3 dJ1_indexOfChar_4cfef_9 ?_
    refine ev_icmp_ge (tgt := 31) dJ1_indexOfChar_4cfef_10 (by decide) (fun h10 => ?_) (fun h10 => absurd (Int32.le_refl _) h10)
    refine ev_iconst_m1 dJ1_indexOfChar_4cfef_31 ?_
    exact ev_iret dJ1_indexOfChar_4cfef_32 (ixF_out (Nat.le_refl _)).symm rfl
  | succ n ih =>
    intro k0 hn hk2
    have hlt : k0 < slen i := by omega
    have hlt2 : k0 < mLen.getD i 0 := hlt
    refine ev_iload_5 dJ1_indexOfChar_4cfef_7 ?_
    refine ev_iload_3 dJ1_indexOfChar_4cfef_9 ?_
    refine ev_icmp_ge (tgt := 31) dJ1_indexOfChar_4cfef_10 (by decide) (fun h10 => absurd h10 (nI_ge hlt (by omega))) (fun h10 => ?_)
    refine ev_aload_0 dJ1_indexOfChar_4cfef_13 ?_
    refine ev_iload_5 dJ1_indexOfChar_4cfef_14 ?_
    refine ev_sbald hi (vp_in_nI hlt2 (by omega)) dJ1_indexOfChar_4cfef_16 ?_
    rw [nI_clamp (by omega)]
    refine ev_iload_4 dJ1_indexOfChar_4cfef_17 ?_
    refine ev_icmp_ne (tgt := 25) dJ1_indexOfChar_4cfef_19 (by decide) (fun h19 => ?_) (fun h19 => ?_)
    · refine ev_iinc_5 (v := 1) dJ1_indexOfChar_4cfef_25 (by decide) rfl rfl ?_
      refine ev_goto (tgt := 7) dJ1_indexOfChar_4cfef_28 (by decide) ?_
      exact Ev.to (by rw [nI_1]) rfl rfl (by rw [ixF_miss hlt h19]; exact ih (k0 + 1) (by omega) (by omega))
    · refine ev_iload_5 dJ1_indexOfChar_4cfef_22 ?_
      exact ev_iret dJ1_indexOfChar_4cfef_24 (ixF_hit hlt h19).symm rfl
set_option maxRecDepth 100000 in
set_option maxHeartbeats 4000000 in
theorem c_ixc {ae ad : Nat → Nat} {sh : mSh} {σ : mSt} {i : Nat} {c : Int32} (hi : i < 20) {k0 : Nat} (hk2 : k0 ≤ slen i) : Ct yJ1_indexOfChar_4cfef cJ1_indexOfChar_4cfef 6 (some .int) 0 0 0 [.ref (ae (200 + i)), .int c, .int (nI k0), .int (nI (slen i))] ae ad sh σ (mEq (some (.int (ixF (sgn i) c.toInt8.toInt32 k0 (slen i - k0)))) ad sh σ) := by
  refine Ct.ofL (own := RJ1) (ini := false) (ls := [some (.ref (ae (200 + i))), some (.int c), some (.int (nI k0)), some (.int (nI (slen i))), none, none]) (by decide +kernel) rfl (fun h => by cases h) (Nat.le_of_ble_eq_true rfl) rfl ?_
  refine ev_iload_1 dJ1_indexOfChar_4cfef_0 ?_
  refine ev_i2b dJ1_indexOfChar_4cfef_1 ?_
  refine ev_istore_4 dJ1_indexOfChar_4cfef_2 rfl rfl ?_
  refine ev_iload_2 dJ1_indexOfChar_4cfef_4 ?_
  refine ev_istore_5 dJ1_indexOfChar_4cfef_5 rfl rfl ?_
  exact c_ixc_7 hi _ k0 rfl hk2
set_option maxRecDepth 100000 in
set_option maxHeartbeats 4000000 in
theorem c_ind1 {ae ad : Nat → Nat} {sh : mSh} {σ : mSt} {i : Nat} {c : Int32} (hi : i < 20) {f : Nat} (hf : f < 2 ^ 31) : Ct yJ1_indexOf_4cfef cJ1_indexOf_4cfef 4 (some .int) 1 0 0 [.ref (ae (200 + i)), .int c, .int (nI f), .int (nI (slen i))] ae ad sh σ (mEq (some (.int (indF i c f))) ad sh σ) := by
  refine Ct.ofL (own := RJ1) (ini := false) (ls := [some (.ref (ae (200 + i))), some (.int c), some (.int (nI f)), some (.int (nI (slen i)))]) (by decide +kernel) rfl (fun h => by cases h) (Nat.le_of_ble_eq_true rfl) rfl ?_
  have h100 : mLen.getD i 0 < 100 := slen_le i hi
  have e100 : mLen.getD i 0 = slen i := rfl
  refine ev_iload_1 dJ1_indexOf_4cfef_0 ?_
  refine cl_J1_88 c_canEncode dJ1_indexOf_4cfef_1 rfl (Nat.le_of_ble_eq_true rfl) ?_
  refine ev_if_ne (tgt := 9) dJ1_indexOf_4cfef_4 (by decide) (fun h4 => ?_) (fun h4 => ?_)
  · have he : encB c = true := b2i_t h4
    refine ev_iload_2 dJ1_indexOf_4cfef_9 ?_
    refine ev_iconst_0 dJ1_indexOf_4cfef_10 ?_
    refine ev_max lk_J1_92 (Nat.le_of_ble_eq_true rfl) (Nat.le_of_ble_eq_true rfl) (Nat.le_of_ble_eq_true rfl) (Nat.zero_le _) (Nat.zero_le _) dJ1_indexOf_4cfef_11 ?_
    rw [show maxR (nI f) 0 = nI f from if_neg (nI_pos hf)]
    refine ev_istore_2 dJ1_indexOf_4cfef_14 rfl rfl ?_
    refine ev_iload_3 dJ1_indexOf_4cfef_15 ?_
    refine ev_aload_0 dJ1_indexOf_4cfef_16 ?_
    refine ev_sulen hi rfl dJ1_indexOf_4cfef_17 ?_
    refine ev_min lk_J1_38 (Nat.le_of_ble_eq_true rfl) (Nat.le_of_ble_eq_true rfl) (Nat.le_of_ble_eq_true rfl) (Nat.zero_le _) (Nat.zero_le _) dJ1_indexOf_4cfef_18 ?_
    rw [show Int32.ofNat (mLen.getD i 0) = nI (slen i) from rfl, show minR (nI (slen i)) (nI (slen i)) = nI (slen i) from ite_self _]
    refine ev_istore_3 dJ1_indexOf_4cfef_21 rfl rfl ?_
    refine ev_iload_2 dJ1_indexOf_4cfef_22 ?_
    refine ev_iload_3 dJ1_indexOf_4cfef_23 ?_
    refine ev_icmp_lt (tgt := 29) dJ1_indexOf_4cfef_24 (by decide) (fun h24 => ?_) (fun h24 => ?_)
    · have hfl : f < slen i := (nI_ltI hf (by omega)).mp h24
      refine ev_aload_0 dJ1_indexOf_4cfef_29 ?_
      refine ev_iload_1 dJ1_indexOf_4cfef_30 ?_
      refine ev_iload_2 dJ1_indexOf_4cfef_31 ?_
      refine ev_iload_3 dJ1_indexOf_4cfef_32 ?_
      refine cl_J1_95 (c_ixc hi (by exact Nat.le_of_lt hfl)) dJ1_indexOf_4cfef_33 rfl (Nat.le_of_ble_eq_true rfl) ?_
      exact ev_iret dJ1_indexOf_4cfef_36 (by rw [indF, he, if_pos rfl]) rfl
    · have hfl : slen i ≤ f := Nat.le_of_not_lt (fun z => h24 (nI_lt z (by omega)))
      refine ev_iconst_m1 dJ1_indexOf_4cfef_27 ?_
      exact ev_iret dJ1_indexOf_4cfef_28 (by rw [indF, he, if_pos rfl, ixF_out hfl]) rfl
  · have he : encB c = false := (b2i_0 _).mp h4
    refine ev_iconst_m1 dJ1_indexOf_4cfef_7 ?_
    exact ev_iret dJ1_indexOf_4cfef_8 (by rw [indF, he]; rfl) rfl
set_option maxRecDepth 100000 in
set_option maxHeartbeats 4000000 in
theorem c_ind2 {ae ad : Nat → Nat} {sh : mSh} {σ : mSt} {i : Nat} {c : Int32} (hi : i < 20) {f : Nat} (hf : f < 2 ^ 31) : Ct yJ0_indexOf_7cf53 cJ0_indexOf_7cf53 3 (some .int) 2 0 0 [.ref (ae (100 + i)), .int c, .int (nI f)] ae ad sh σ (mEq (some (.int (indF i c f))) ad sh σ) := by
  refine Ct.ofL (own := RJ0) (ini := false) (ls := [some (.ref (ae (100 + i))), some (.int c), some (.int (nI f))]) (by decide +kernel) rfl (fun h => by cases h) (Nat.le_of_ble_eq_true rfl) rfl ?_
  refine ev_aload_0 dJ0_indexOf_7cf53_0 ?_
  refine ct_J0_492 (c_isLatin1 hi) hi dJ0_indexOf_7cf53_1 rfl (Nat.le_of_ble_eq_true rfl) ?_
  refine ev_if_eq (tgt := 23) dJ0_indexOf_7cf53_4 (by decide) (fun h4 => absurd h4 (by decide)) (fun h4 => ?_)
  refine ev_aload_0 dJ0_indexOf_7cf53_7 ?_
  refine ev_svalue hi dJ0_indexOf_7cf53_8 ?_
  refine ev_iload_1 dJ0_indexOf_7cf53_11 ?_
  refine ev_iload_2 dJ0_indexOf_7cf53_12 ?_
  refine ev_aload_0 dJ0_indexOf_7cf53_13 ?_
  refine ct_J0_505 (c_strlen hi) hi dJ0_indexOf_7cf53_14 rfl (Nat.le_of_ble_eq_true rfl) ?_
  refine cl_J0_637 (c_ind1 hi hf) dJ0_indexOf_7cf53_17 rfl (Nat.le_of_ble_eq_true rfl) ?_
  refine ev_goto (tgt := 36) dJ0_indexOf_7cf53_20 (by decide) ?_
  exact ev_ireturn dJ0_indexOf_7cf53_36
set_option maxRecDepth 100000 in
set_option maxHeartbeats 4000000 in
theorem c_ind {ae ad : Nat → Nat} {sh : mSh} {σ : mSt} {i : Nat} {c : Int32} (hi : i < 20) : Ct yJ0_indexOf_0f7a4 cJ0_indexOf_0f7a4 2 (some .int) 3 0 0 [.ref (ae (100 + i)), .int c] ae ad sh σ (mEq (some (.int (indF i c 0))) ad sh σ) := by
  refine Ct.ofL (own := RJ0) (ini := false) (ls := [some (.ref (ae (100 + i))), some (.int c)]) (by decide +kernel) rfl (fun h => by cases h) (Nat.le_of_ble_eq_true rfl) rfl ?_
  refine ev_aload_0 dJ0_indexOf_0f7a4_0 ?_
  refine ev_iload_1 dJ0_indexOf_0f7a4_1 ?_
  refine ev_iconst_0 dJ0_indexOf_0f7a4_2 ?_
  refine ct_J0_633 (c_ind2 hi (f := 0) (by decide)) hi dJ0_indexOf_0f7a4_3 rfl (Nat.le_of_ble_eq_true rfl) ?_
  exact ev_ireturn dJ0_indexOf_0f7a4_6
