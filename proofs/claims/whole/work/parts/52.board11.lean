def fromN (g : Nat → Int32) (m : Nat) : Int32 := if mK m = 0 then nI (mA m) else if mK m = 1 then nI (caN g (mA m) 2) else -5
def toN (g : Nat → Int32) (m : Nat) : Int32 := if mK m = 1 then nI (caN g (mA m) 3) else nI (mB m)

set_option maxRecDepth 100000 in
set_option maxHeartbeats 4000000 in
theorem c_from0 {ae ad : Nat → Nat} {sh : mSh} {σ : mSt} {g : Nat → Int32} {m : Nat} (hb : mBoard ad sh) (hG : wfP g) (hW : wfL g) (hL : lawR σ 5 g) (hm : mvOk g m) (hk : mK m = 0) : Ct yX9_fromSquare cX9_fromSquare 2 (some .int) 2 0 0 [.ref (ad 0), .int (nI m)] ae ad sh σ (mEq (some (.int (fromN g m))) ad sh σ) := by
  refine Ct.ofL (own := RX9) (ini := false) (ls := [some (.ref (ad 0)), some (.int (nI m))]) (by decide +kernel) rfl (fun h => by cases h) (Nat.le_of_ble_eq_true rfl) rfl ?_
  refine ev_iload_1 dX9_fromSquare_0 ?_
  refine cl_X9_213 c_kindOf dX9_fromSquare_1 rfl (Nat.le_of_ble_eq_true rfl) ?_
  rw [kiR_nI (by have := mvOk_lt hm; omega)]
  rw [hk]
  refine ev_lookup (off := 28) (tgt := 32) dX9_fromSquare_4 (by decide) (by decide) (by decide) ?_
  refine ev_iload_1 dX9_fromSquare_32 ?_
  refine cl_X9_357 c_firstOf dX9_fromSquare_33 rfl (Nat.le_of_ble_eq_true rfl) ?_
  rw [fiR_nI (by have := mvOk_lt hm; omega)]
  exact ev_iret dX9_fromSquare_36 (by unfold fromN; simp [hk]) rfl
set_option maxRecDepth 100000 in
set_option maxHeartbeats 4000000 in
theorem c_to0 {ae ad : Nat → Nat} {sh : mSh} {σ : mSt} {g : Nat → Int32} {m : Nat} (hb : mBoard ad sh) (hG : wfP g) (hW : wfL g) (hL : lawR σ 5 g) (hm : mvOk g m) (hk : mK m = 0) : Ct yX9_toSquare cX9_toSquare 2 (some .int) 2 0 0 [.ref (ad 0), .int (nI m)] ae ad sh σ (mEq (some (.int (toN g m))) ad sh σ) := by
  refine Ct.ofL (own := RX9) (ini := false) (ls := [some (.ref (ad 0)), some (.int (nI m))]) (by decide +kernel) rfl (fun h => by cases h) (Nat.le_of_ble_eq_true rfl) rfl ?_
  refine ev_iload_1 dX9_toSquare_0 ?_
  refine cl_X9_213 c_kindOf dX9_toSquare_1 rfl (Nat.le_of_ble_eq_true rfl) ?_
  rw [kiR_nI (by have := mvOk_lt hm; omega)]
  rw [hk]
  refine ev_iconst_1 dX9_toSquare_4 ?_
  refine ev_icmp_ne (tgt := 23) dX9_toSquare_5 (by decide) (fun h5 => ?_) (fun h5 => ?_)
  · refine ev_iload_1 dX9_toSquare_23 ?_
    refine cl_X9_363 c_secondOf dX9_toSquare_24 rfl (Nat.le_of_ble_eq_true rfl) ?_
    rw [seR_nI]
    exact ev_iret dX9_toSquare_27 (by unfold toN; simp [hk]) rfl
  · exact absurd h5 (by decide)
set_option maxRecDepth 100000 in
set_option maxHeartbeats 4000000 in
theorem c_from1 {ae ad : Nat → Nat} {sh : mSh} {σ : mSt} {g : Nat → Int32} {m : Nat} (hb : mBoard ad sh) (hG : wfP g) (hW : wfL g) (hL : lawR σ 5 g) (hm : mvOk g m) (hk : mK m = 1) : Ct yX9_fromSquare cX9_fromSquare 2 (some .int) 2 0 0 [.ref (ad 0), .int (nI m)] ae ad sh σ (mEq (some (.int (fromN g m))) ad sh σ) := by
  refine Ct.ofL (own := RX9) (ini := false) (ls := [some (.ref (ad 0)), some (.int (nI m))]) (by decide +kernel) rfl (fun h => by cases h) (Nat.le_of_ble_eq_true rfl) rfl ?_
  refine ev_iload_1 dX9_fromSquare_0 ?_
  refine cl_X9_213 c_kindOf dX9_fromSquare_1 rfl (Nat.le_of_ble_eq_true rfl) ?_
  rw [kiR_nI (by have := mvOk_lt hm; omega)]
  rw [hk]
  refine ev_lookup (off := 33) (tgt := 37) dX9_fromSquare_4 (by decide) (by decide) (by decide) ?_
  refine ev_aload_0 dX9_fromSquare_37 ?_
  refine gf_X9_24 dX9_fromSquare_38 hb.1 rfl ?_
  refine ev_iload_1 dX9_fromSquare_41 ?_
  refine cl_X9_357 c_firstOf dX9_fromSquare_42 rfl (Nat.le_of_ble_eq_true rfl) ?_
  rw [fiR_nI (by have := mvOk_lt hm; omega)]
  refine ev_iconst_0 dX9_fromSquare_45 ?_
  refine cl_X9_360 (c_castlingSquare hb.2.2.2.1) hb.2.2.2.1.1 dX9_fromSquare_46 rfl (Nat.le_of_ble_eq_true rfl) ?_
  rw [show (0 : Int32) = nI 0 from rfl, clv_sq hW hL (mv1 hm hk).1 (by decide)]
  exact ev_iret dX9_fromSquare_49 (by unfold fromN; simp [hk]) rfl
set_option maxRecDepth 100000 in
set_option maxHeartbeats 4000000 in
theorem c_to1 {ae ad : Nat → Nat} {sh : mSh} {σ : mSt} {g : Nat → Int32} {m : Nat} (hb : mBoard ad sh) (hG : wfP g) (hW : wfL g) (hL : lawR σ 5 g) (hm : mvOk g m) (hk : mK m = 1) : Ct yX9_toSquare cX9_toSquare 2 (some .int) 2 0 0 [.ref (ad 0), .int (nI m)] ae ad sh σ (mEq (some (.int (toN g m))) ad sh σ) := by
  refine Ct.ofL (own := RX9) (ini := false) (ls := [some (.ref (ad 0)), some (.int (nI m))]) (by decide +kernel) rfl (fun h => by cases h) (Nat.le_of_ble_eq_true rfl) rfl ?_
  refine ev_iload_1 dX9_toSquare_0 ?_
  refine cl_X9_213 c_kindOf dX9_toSquare_1 rfl (Nat.le_of_ble_eq_true rfl) ?_
  rw [kiR_nI (by have := mvOk_lt hm; omega)]
  rw [hk]
  refine ev_iconst_1 dX9_toSquare_4 ?_
  refine ev_icmp_ne (tgt := 23) dX9_toSquare_5 (by decide) (fun h5 => ?_) (fun h5 => ?_)
  · exact absurd (show nI 1 = 1 by decide) h5
  · refine ev_aload_0 dX9_toSquare_8 ?_
    refine gf_X9_24 dX9_toSquare_9 hb.1 rfl ?_
    refine ev_iload_1 dX9_toSquare_12 ?_
    refine cl_X9_357 c_firstOf dX9_toSquare_13 rfl (Nat.le_of_ble_eq_true rfl) ?_
    rw [fiR_nI (by have := mvOk_lt hm; omega)]
    refine ev_iconst_1 dX9_toSquare_16 ?_
    refine cl_X9_360 (c_castlingSquare hb.2.2.2.1) hb.2.2.2.1.1 dX9_toSquare_17 rfl (Nat.le_of_ble_eq_true rfl) ?_
    rw [show (1 : Int32) = nI 1 from rfl, clv_sq hW hL (mv1 hm hk).1 (by decide)]
    refine ev_goto (tgt := 27) dX9_toSquare_20 (by decide) ?_
    exact ev_iret dX9_toSquare_27 (by unfold toN; simp [hk]) rfl
set_option maxRecDepth 100000 in
set_option maxHeartbeats 4000000 in
theorem c_from2 {ae ad : Nat → Nat} {sh : mSh} {σ : mSt} {g : Nat → Int32} {m : Nat} (hb : mBoard ad sh) (hG : wfP g) (hW : wfL g) (hL : lawR σ 5 g) (hm : mvOk g m) (hk : mK m = 2) : Ct yX9_fromSquare cX9_fromSquare 2 (some .int) 2 0 0 [.ref (ad 0), .int (nI m)] ae ad sh σ (mEq (some (.int (fromN g m))) ad sh σ) := by
  refine Ct.ofL (own := RX9) (ini := false) (ls := [some (.ref (ad 0)), some (.int (nI m))]) (by decide +kernel) rfl (fun h => by cases h) (Nat.le_of_ble_eq_true rfl) rfl ?_
  refine ev_iload_1 dX9_fromSquare_0 ?_
  refine cl_X9_213 c_kindOf dX9_fromSquare_1 rfl (Nat.le_of_ble_eq_true rfl) ?_
  rw [kiR_nI (by have := mvOk_lt hm; omega)]
  rw [hk]
  refine ev_lookup (off := 46) (tgt := 50) dX9_fromSquare_4 (by decide) (by decide) (by decide) ?_
  refine ev_bipush_m5 dX9_fromSquare_50 ?_
  exact ev_iret dX9_fromSquare_52 (by unfold fromN; simp [hk]) rfl
set_option maxRecDepth 100000 in
set_option maxHeartbeats 4000000 in
theorem c_to2 {ae ad : Nat → Nat} {sh : mSh} {σ : mSt} {g : Nat → Int32} {m : Nat} (hb : mBoard ad sh) (hG : wfP g) (hW : wfL g) (hL : lawR σ 5 g) (hm : mvOk g m) (hk : mK m = 2) : Ct yX9_toSquare cX9_toSquare 2 (some .int) 2 0 0 [.ref (ad 0), .int (nI m)] ae ad sh σ (mEq (some (.int (toN g m))) ad sh σ) := by
  refine Ct.ofL (own := RX9) (ini := false) (ls := [some (.ref (ad 0)), some (.int (nI m))]) (by decide +kernel) rfl (fun h => by cases h) (Nat.le_of_ble_eq_true rfl) rfl ?_
  refine ev_iload_1 dX9_toSquare_0 ?_
  refine cl_X9_213 c_kindOf dX9_toSquare_1 rfl (Nat.le_of_ble_eq_true rfl) ?_
  rw [kiR_nI (by have := mvOk_lt hm; omega)]
  rw [hk]
  refine ev_iconst_1 dX9_toSquare_4 ?_
  refine ev_icmp_ne (tgt := 23) dX9_toSquare_5 (by decide) (fun h5 => ?_) (fun h5 => ?_)
  · refine ev_iload_1 dX9_toSquare_23 ?_
    refine cl_X9_363 c_secondOf dX9_toSquare_24 rfl (Nat.le_of_ble_eq_true rfl) ?_
    rw [seR_nI]
    exact ev_iret dX9_toSquare_27 (by unfold toN; simp [hk]) rfl
  · exact absurd h5 (by decide)
theorem c_from {ae ad : Nat → Nat} {sh : mSh} {σ : mSt} {g : Nat → Int32} {m : Nat} (hb : mBoard ad sh) (hG : wfP g) (hW : wfL g) (hL : lawR σ 5 g) (hm : mvOk g m) : Ct yX9_fromSquare cX9_fromSquare 2 (some .int) 2 0 0 [.ref (ad 0), .int (nI m)] ae ad sh σ (mEq (some (.int (fromN g m))) ad sh σ) := by
  rcases mK_le hm with h | h | h
  · exact c_from0 hb hG hW hL hm h
  · exact c_from1 hb hG hW hL hm h
  · exact c_from2 hb hG hW hL hm h
theorem c_to {ae ad : Nat → Nat} {sh : mSh} {σ : mSt} {g : Nat → Int32} {m : Nat} (hb : mBoard ad sh) (hG : wfP g) (hW : wfL g) (hL : lawR σ 5 g) (hm : mvOk g m) : Ct yX9_toSquare cX9_toSquare 2 (some .int) 2 0 0 [.ref (ad 0), .int (nI m)] ae ad sh σ (mEq (some (.int (toN g m))) ad sh σ) := by
  rcases mK_le hm with h | h | h
  · exact c_to0 hb hG hW hL hm h
  · exact c_to1 hb hG hW hL hm h
  · exact c_to2 hb hG hW hL hm h
