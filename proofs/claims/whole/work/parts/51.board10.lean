def kinB (g : Nat → Int32) (m : Nat) (c : Int32) : Bool := if c = 3 then true else if c = 4 then decide (¬ capN g m = 0) else if c = 5 then proB g m else decide (kiR (nI m) = c)

set_option maxRecDepth 100000 in
set_option maxHeartbeats 4000000 in
theorem c_isOfKind {ae ad : Nat → Nat} {sh : mSh} {σ : mSt} {g : Nat → Int32} {m : Nat} {c : Int32} (hb : mBoard ad sh) (hG : wfP g) (hW : wfL g) (hP : posR σ 20 g) (hL : lawR σ 5 g) (hm : mvOk g m) : Ct yX9_isOfKind cX9_isOfKind 3 (some .boolean) 3 0 0 [.ref (ad 0), .int (nI m), .int c] ae ad sh σ (mEq (some (.int (b2i (kinB g m c)))) ad sh σ) := by
  refine Ct.ofL (own := RX9) (ini := false) (ls := [some (.ref (ad 0)), some (.int (nI m)), some (.int c)]) (by decide +kernel) rfl (fun h => by cases h) (Nat.le_of_ble_eq_true rfl) rfl ?_
  have hc : capN g m < 2 ^ 31 := by have := cap_le hG hm; omega
  have hz : nI (capN g m) = 0 ↔ capN g m = 0 := nI_eq (b := 0) hc (by decide)
  refine ev_iload_2 dX9_isOfKind_0 ?_
  refine ev_iconst_3 dX9_isOfKind_1 ?_
  refine ev_icmp_ne (tgt := 7) dX9_isOfKind_2 (by decide) (fun h2 => ?_) (fun h2 => ?_)
  · refine ev_iload_2 dX9_isOfKind_7 ?_
    refine ev_iconst_4 dX9_isOfKind_8 ?_
    refine ev_icmp_ne (tgt := 33) dX9_isOfKind_9 (by decide) (fun h9 => ?_) (fun h9 => ?_)
    · refine ev_iload_2 dX9_isOfKind_33 ?_
      refine ev_iconst_5 dX9_isOfKind_34 ?_
      refine ev_icmp_ne (tgt := 53) dX9_isOfKind_35 (by decide) (fun h35 => ?_) (fun h35 => ?_)
      · refine ev_iload_1 dX9_isOfKind_53 ?_
        refine cl_X9_213 c_kindOf dX9_isOfKind_54 rfl (Nat.le_of_ble_eq_true rfl) ?_
        refine ev_iload_2 dX9_isOfKind_57 ?_
        refine ev_icmp_ne (tgt := 65) dX9_isOfKind_58 (by decide) (fun h58 => ?_) (fun h58 => ?_)
        · refine ev_iconst_0 dX9_isOfKind_65 ?_
          exact ev_zret (b2i_nar _) dX9_isOfKind_66 (by simp_all [kinB, b2i]) rfl
        · refine ev_iconst_1 dX9_isOfKind_61 ?_
          refine ev_goto (tgt := 66) dX9_isOfKind_62 (by decide) ?_
          exact ev_zret (b2i_nar _) dX9_isOfKind_66 (by simp_all [kinB, b2i]) rfl
      · refine ev_aload_0 dX9_isOfKind_38 ?_
        refine gf_X9_33 dX9_isOfKind_39 hb.1 rfl ?_
        refine ev_aload_0 dX9_isOfKind_42 ?_
        refine gf_X9_47 dX9_isOfKind_43 hb.1 rfl ?_
        refine ev_iload_1 dX9_isOfKind_46 ?_
        refine cl_X9_354 (c_promotes hb.2.2.2.2.1 hb.2.2.2.2.2.2.1 hG hW hP hL hm) hb.2.2.2.2.1.1 dX9_isOfKind_47 rfl (Nat.le_of_ble_eq_true rfl) ?_
        refine ev_goto (tgt := 66) dX9_isOfKind_50 (by decide) ?_
        exact ev_zret (b2i_nar _) dX9_isOfKind_66 (by simp_all [kinB, b2i]) rfl
    · refine ev_aload_0 dX9_isOfKind_12 ?_
      refine gf_X9_33 dX9_isOfKind_13 hb.1 rfl ?_
      refine ev_aload_0 dX9_isOfKind_16 ?_
      refine gf_X9_47 dX9_isOfKind_17 hb.1 rfl ?_
      refine ev_iload_1 dX9_isOfKind_20 ?_
      refine cl_X9_351 (c_captured hb.2.2.2.2.1 hb.2.2.2.2.2.2.1 hG hW hP hL hm) hb.2.2.2.2.1.1 dX9_isOfKind_21 rfl (Nat.le_of_ble_eq_true rfl) ?_
      refine ev_if_eq (tgt := 31) dX9_isOfKind_24 (by decide) (fun h24 => ?_) (fun h24 => ?_)
      · refine ev_iconst_0 dX9_isOfKind_31 ?_
        exact ev_zret (b2i_nar _) dX9_isOfKind_32 (by simp_all [kinB, b2i]) rfl
      · refine ev_iconst_1 dX9_isOfKind_27 ?_
        refine ev_goto (tgt := 32) dX9_isOfKind_28 (by decide) ?_
        exact ev_zret (b2i_nar _) dX9_isOfKind_32 (by simp_all [kinB, b2i]) rfl
  · refine ev_iconst_1 dX9_isOfKind_5 ?_
    exact ev_zret (b2i_nar _) dX9_isOfKind_6 (by simp_all [kinB, b2i]) rfl
