theorem sep520 : sepL 5 20 := by unfold sepL; omega
theorem pl_sq2 {g : Nat → Int32} (hG : wfP g) (hW : wfL g) {m : Nat} : cN (playsG g m) * rN (playsG g m) = cN g * rN g := by
  have e1 : cN (playsG g m) = cN g := by unfold cN clN; rw [pl_hi (by decide)]
  have e2 : rN (playsG g m) = rN g := by unfold rN clN; rw [pl_hi (by decide)]
  rw [e1, e2]

set_option maxRecDepth 100000 in
set_option maxHeartbeats 4000000 in
theorem c_capType {ae ad : Nat → Nat} {sh : mSh} {σ : mSt} {g : Nat → Int32} {m : Nat} (hb : mBoard ad sh) (hG : wfP g) (hW : wfL g) (hP : posR σ 20 g) (hL : lawR σ 5 g) (hm : mvOk g m) : Ct yX9_capturedType cX9_capturedType 3 (some .int) 2 0 0 [.ref (ad 0), .int (nI m)] ae ad sh σ (mEq (some (.int (if capN g m = 0 then -5 else tyR (nI (capN g m))))) ad sh σ) := by
  refine Ct.ofL (own := RX9) (ini := false) (ls := [some (.ref (ad 0)), some (.int (nI m)), none]) (by decide +kernel) rfl (fun h => by cases h) (Nat.le_of_ble_eq_true rfl) rfl ?_
  refine ev_aload_0 dX9_capturedType_0 ?_
  refine gf_X9_33 dX9_capturedType_1 hb.1 rfl ?_
  refine ev_aload_0 dX9_capturedType_4 ?_
  refine gf_X9_47 dX9_capturedType_5 hb.1 rfl ?_
  refine ev_iload_1 dX9_capturedType_8 ?_
  refine cl_X9_351 (c_captured hb.2.2.2.2.1 hb.2.2.2.2.2.2.1 hG hW hP hL hm) hb.2.2.2.2.1.1 dX9_capturedType_9 rfl (Nat.le_of_ble_eq_true rfl) ?_
  refine ev_istore_2 dX9_capturedType_12 rfl rfl ?_
  refine ev_iload_2 dX9_capturedType_13 ?_
  refine ev_if_ne (tgt := 22) dX9_capturedType_14 (by decide) (fun h14 => ?_) (fun h14 => ?_)
  · refine ev_iload_2 dX9_capturedType_22 ?_
    refine cl_X9_226 c_typeOf dX9_capturedType_23 rfl (Nat.le_of_ble_eq_true rfl) ?_
    have hc : capN g m < 2 ^ 31 := by have := cap_le hG hm; omega
    exact ev_iret dX9_capturedType_26 (by first
      | rw [if_pos ((nI_eq (b := 0) hc (by decide)).mp h14)]
      | rw [if_neg (fun z => h14 (by rw [z]; rfl))]) rfl
  · refine ev_bipush_m5 dX9_capturedType_17 ?_
    refine ev_goto (tgt := 26) dX9_capturedType_19 (by decide) ?_
    have hc : capN g m < 2 ^ 31 := by have := cap_le hG hm; omega
    exact ev_iret dX9_capturedType_26 (by first
      | rw [if_pos ((nI_eq (b := 0) hc (by decide)).mp h14)]
      | rw [if_neg (fun z => h14 (by rw [z]; rfl))]) rfl
set_option maxRecDepth 100000 in
set_option maxHeartbeats 4000000 in
theorem c_dgAfter {ae ad : Nat → Nat} {sh : mSh} {σ : mSt} {g : Nat → Int32} {m : Nat} (hb : mBoard ad sh) (hG : wfP g) (hW : wfL g) (hP : posR σ 20 g) (hR : ritR σ 20 g) (hL : lawR σ 5 g) (hm : mvOk g m) : Ct yX9_digestAfter cX9_digestAfter 4 (some .int) 5 0 0 [.ref (ad 0), .int (nI m)] ae ad sh σ (mPi ad sh (fun x σ' => (∃ σ3, posR σ3 20 (playsG g m) ∧ ritR σ3 20 (playsG g m) ∧ x = dgQ σ3 20 (cN g * rN g)) ∧ (posR σ' 20 g ∧ ritR σ' 20 g) ∧ frP σ σ' 20)) := by
  refine Ct.ofL (own := RX9) (ini := false) (ls := [some (.ref (ad 0)), some (.int (nI m)), none, none]) (by decide +kernel) rfl (fun h => by cases h) (Nat.le_of_ble_eq_true rfl) rfl ?_
  refine ev_aload_0 dX9_digestAfter_0 ?_
  refine gf_X9_33 dX9_digestAfter_1 hb.1 rfl ?_
  refine ev_aload_0 dX9_digestAfter_4 ?_
  refine gf_X9_47 dX9_digestAfter_5 hb.1 rfl ?_
  refine ev_iload_1 dX9_digestAfter_8 ?_
  refine cg_X9_257 (c_apply hb.2.2.2.2.1 hb.2.2.2.2.2.2.1 sep520 hG hW hP hR hL hm) hb.2.2.2.2.1.1 dX9_digestAfter_9 rfl (Nat.le_of_ble_eq_true rfl) (fun r3 σ3 h3 => ?_)
  obtain ⟨e3, q3, f3⟩ := h3
  subst e3
  have hA := ap_R hG hW hm q3
  have hL3 := hL.fr f3 sep520
  refine ev_istore_2 dX9_digestAfter_12 rfl rfl ?_
  refine ev_aload_0 dX9_digestAfter_13 ?_
  refine gf_X9_47 dX9_digestAfter_14 hb.1 rfl ?_
  refine cl_X9_274 (c_digestNow hb.2.2.2.2.2.2.1 (N := cN g * rN g) (by rw [hA.1.sq (pl_wfP hG hW hm), pl_sq2 hG hW]) (sq36 hG)) hb.2.2.2.2.2.2.1.1 dX9_digestAfter_17 rfl (Nat.le_of_ble_eq_true rfl) ?_
  refine ev_istore_3 dX9_digestAfter_20 rfl rfl ?_
  refine ev_aload_0 dX9_digestAfter_21 ?_
  refine gf_X9_33 dX9_digestAfter_22 hb.1 rfl ?_
  refine ev_aload_0 dX9_digestAfter_25 ?_
  refine gf_X9_47 dX9_digestAfter_26 hb.1 rfl ?_
  refine ev_iload_1 dX9_digestAfter_29 ?_
  refine ev_iload_2 dX9_digestAfter_30 ?_
  refine cg_X9_267 (c_retract hb.2.2.2.2.1 hb.2.2.2.2.2.2.1 sep520 hG hW hm q3 hL3) hb.2.2.2.2.1.1 dX9_digestAfter_31 rfl (Nat.le_of_ble_eq_true rfl) (fun σ5 h5 => ?_)
  obtain ⟨h5, f5⟩ := h5
  refine ev_iload_3 dX9_digestAfter_34 ?_
  exact ev_pi dX9_digestAfter_35 ⟨⟨σ3, hA.1, hA.2, rfl⟩, h5, fun k a b c => ⟨(f5 k a b c).1.trans (f3 k a b c).1, (f5 k a b c).2.trans (f3 k a b c).2⟩⟩
def chkB (g : Nat → Int32) (m : Nat) : Bool := ! safeG (playsG g m) (1 - tuN g)
set_option maxRecDepth 100000 in
set_option maxHeartbeats 4000000 in
theorem c_gvCheck {ae ad : Nat → Nat} {sh : mSh} {σ : mSt} {g : Nat → Int32} {m : Nat} (hb : mBoard ad sh) (hG : wfP g) (hW : wfL g) (hP : posR σ 20 g) (hR : ritR σ 20 g) (hL : lawR σ 5 g) (hm : mvOk g m) : Ct yX9_givesCheck cX9_givesCheck 5 (some .boolean) 5 0 0 [.ref (ad 0), .int (nI m)] ae ad sh σ (mPi ad sh (fun x σ' => x = b2i (chkB g m) ∧ (posR σ' 20 g ∧ ritR σ' 20 g) ∧ frP σ σ' 20)) := by
  refine Ct.ofL (own := RX9) (ini := false) (ls := [some (.ref (ad 0)), some (.int (nI m)), none, none, none]) (by decide +kernel) rfl (fun h => by cases h) (Nat.le_of_ble_eq_true rfl) rfl ?_
  have htu := tu_le hG
  refine ev_iconst_1 dX9_givesCheck_0 ?_
  refine ev_aload_0 dX9_givesCheck_1 ?_
  refine gf_X9_47 dX9_givesCheck_2 hb.1 rfl ?_
  refine gf_X9_171 dX9_givesCheck_5 hb.2.2.2.2.2.2.1.1 rfl ?_
  rw [hP.turn hG]
  refine ev_isub dX9_givesCheck_8 ?_
  rw [show (1 : Int32) = nI 1 from rfl, nI_sub htu]
  refine ev_istore_2 dX9_givesCheck_9 rfl rfl ?_
  refine ev_aload_0 dX9_givesCheck_10 ?_
  refine gf_X9_33 dX9_givesCheck_11 hb.1 rfl ?_
  refine ev_aload_0 dX9_givesCheck_14 ?_
  refine gf_X9_47 dX9_givesCheck_15 hb.1 rfl ?_
  refine ev_iload_1 dX9_givesCheck_18 ?_
  refine cg_X9_257 (c_apply hb.2.2.2.2.1 hb.2.2.2.2.2.2.1 sep520 hG hW hP hR hL hm) hb.2.2.2.2.1.1 dX9_givesCheck_19 rfl (Nat.le_of_ble_eq_true rfl) (fun r3 σ3 h3 => ?_)
  obtain ⟨e3, q3, f3⟩ := h3
  subst e3
  have hA := ap_R hG hW hm q3
  have hL3 := hL.fr f3 sep520
  refine ev_istore_3 dX9_givesCheck_22 rfl rfl ?_
  refine ev_aload_0 dX9_givesCheck_23 ?_
  refine gf_X9_33 dX9_givesCheck_24 hb.1 rfl ?_
  refine ev_aload_0 dX9_givesCheck_27 ?_
  refine gf_X9_47 dX9_givesCheck_28 hb.1 rfl ?_
  refine ev_iload_2 dX9_givesCheck_31 ?_
  refine cl_X9_260 (c_isSafe hb.2.2.2.2.1 hb.2.2.2.2.2.2.1 (pl_wfP hG hW hm) hA.1 (hL3.pl m) (pl_wfL hG hW hm) (s := 1 - tuN g) (by omega)) hb.2.2.2.2.1.1 dX9_givesCheck_32 rfl (Nat.le_of_ble_eq_true rfl) ?_
  refine ev_istore_4 dX9_givesCheck_35 rfl rfl ?_
  refine ev_aload_0 dX9_givesCheck_37 ?_
  refine gf_X9_33 dX9_givesCheck_38 hb.1 rfl ?_
  refine ev_aload_0 dX9_givesCheck_41 ?_
  refine gf_X9_47 dX9_givesCheck_42 hb.1 rfl ?_
  refine ev_iload_1 dX9_givesCheck_45 ?_
  refine ev_iload_3 dX9_givesCheck_46 ?_
  refine cg_X9_267 (c_retract hb.2.2.2.2.1 hb.2.2.2.2.2.2.1 sep520 hG hW hm q3 hL3) hb.2.2.2.2.1.1 dX9_givesCheck_47 rfl (Nat.le_of_ble_eq_true rfl) (fun σ5 h5 => ?_)
  obtain ⟨h5, f5⟩ := h5
  refine ev_iload_4 dX9_givesCheck_50 ?_
  refine ev_if_ne (tgt := 59) dX9_givesCheck_52 (by decide) (fun h52 => ?_) (fun h52 => ?_)
  · refine ev_iconst_0 dX9_givesCheck_59 ?_
    exact ev_pz (b := chkB g m) (by
      first
      | (have e9 : safeG (playsG g m) (1 - tuN g) = true := b2i_t h52
         simp [chkB, e9, b2i])
      | (have e9 : safeG (playsG g m) (1 - tuN g) = false := (b2i_0 _).mp h52
         simp [chkB, e9, b2i])) dX9_givesCheck_60 ⟨rfl, h5, fun k a b c => ⟨(f5 k a b c).1.trans (f3 k a b c).1, (f5 k a b c).2.trans (f3 k a b c).2⟩⟩
  · refine ev_iconst_1 dX9_givesCheck_55 ?_
    refine ev_goto (tgt := 60) dX9_givesCheck_56 (by decide) ?_
    exact ev_pz (b := chkB g m) (by
      first
      | (have e9 : safeG (playsG g m) (1 - tuN g) = true := b2i_t h52
         simp [chkB, e9, b2i])
      | (have e9 : safeG (playsG g m) (1 - tuN g) = false := (b2i_0 _).mp h52
         simp [chkB, e9, b2i])) dX9_givesCheck_60 ⟨rfl, h5, fun k a b c => ⟨(f5 k a b c).1.trans (f3 k a b c).1, (f5 k a b c).2.trans (f3 k a b c).2⟩⟩
