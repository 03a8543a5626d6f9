/-- who of side k attacks the square q (its bit as the class makes it) -/
def atkQ (g : Nat → Int32) (q : Int32) (k : Nat) : Int64 := setL (manAtk g k (fun z => lb ((1 : Int64) <<< (q.toInt64 &&& 63)) z))

set_option maxRecDepth 100000 in
set_option maxHeartbeats 4000000 in
theorem c_attrNo1 {ae ad : Nat → Nat} {sh : mSh} {σ : mSt} {g : Nat → Int32} (hb : mBoard ad sh) (hG : wfP g) (hP : posR σ 20 g) (hL : lawR σ 5 g) {q x : Int32} (hq : sqB g q = false) : Ct yX9_attackers cX9_attackers 3 (some .long) 3 0 0 [.ref (ad 0), .int q, .int x] ae ad sh σ (mEq (some (.long (-9223372036854775808))) ad sh σ) := by
  refine Ct.ofL (own := RX9) (ini := false) (ls := [some (.ref (ad 0)), some (.int q), some (.int x)]) (by decide +kernel) rfl (fun h => by cases h) (Nat.le_of_ble_eq_true rfl) rfl ?_
  refine ev_aload_0 dX9_attackers_0 ?_
  refine ev_iload_1 dX9_attackers_1 ?_
  refine cl_X9_182 (c_isSq hb hG hP) hb.1 dX9_attackers_2 rfl (Nat.le_of_ble_eq_true rfl) ?_
  refine ev_if_eq (tgt := 15) dX9_attackers_5 (by decide) (fun h5 => ?_) (fun h5 => absurd (by rw [hq]; decide) h5)
  refine ev_ldc2 kc_X9_292 dX9_attackers_15 ?_
  exact ev_lreturn dX9_attackers_18
set_option maxRecDepth 100000 in
set_option maxHeartbeats 4000000 in
theorem c_attrNo2 {ae ad : Nat → Nat} {sh : mSh} {σ : mSt} {g : Nat → Int32} (hb : mBoard ad sh) (hG : wfP g) (hP : posR σ 20 g) (hL : lawR σ 5 g) {q x : Int32} (hq : sqB g q = true) (hx : isBt x = false) : Ct yX9_attackers cX9_attackers 3 (some .long) 3 0 0 [.ref (ad 0), .int q, .int x] ae ad sh σ (mEq (some (.long (-9223372036854775808))) ad sh σ) := by
  refine Ct.ofL (own := RX9) (ini := false) (ls := [some (.ref (ad 0)), some (.int q), some (.int x)]) (by decide +kernel) rfl (fun h => by cases h) (Nat.le_of_ble_eq_true rfl) rfl ?_
  refine ev_aload_0 dX9_attackers_0 ?_
  refine ev_iload_1 dX9_attackers_1 ?_
  refine cl_X9_182 (c_isSq hb hG hP) hb.1 dX9_attackers_2 rfl (Nat.le_of_ble_eq_true rfl) ?_
  refine ev_if_eq (tgt := 15) dX9_attackers_5 (by decide) (fun h5 => absurd h5 (by rw [hq]; decide)) (fun h5 => ?_)
  refine ev_iload_2 dX9_attackers_8 ?_
  refine cl_X9_124 c_isBit dX9_attackers_9 rfl (Nat.le_of_ble_eq_true rfl) ?_
  refine ev_if_ne (tgt := 19) dX9_attackers_12 (by decide) (fun h12 => absurd h12 (by rw [hx]; decide)) (fun h12 => ?_)
  refine ev_ldc2 kc_X9_292 dX9_attackers_15 ?_
  exact ev_lreturn dX9_attackers_18
set_option maxRecDepth 100000 in
set_option maxHeartbeats 4000000 in
theorem c_attr {ae ad : Nat → Nat} {sh : mSh} {σ : mSt} {g : Nat → Int32} (hb : mBoard ad sh) (hG : wfP g) (hP : posR σ 20 g) (hL : lawR σ 5 g) {q : Int32} {k : Nat} (hq : sqB g q = true) (hk : k ≤ 1) : Ct yX9_attackers cX9_attackers 3 (some .long) 3 0 0 [.ref (ad 0), .int q, .int (nI k)] ae ad sh σ (mEq (some (.long (atkQ g q k))) ad sh σ) := by
  refine Ct.ofL (own := RX9) (ini := false) (ls := [some (.ref (ad 0)), some (.int q), some (.int (nI k))]) (by decide +kernel) rfl (fun h => by cases h) (Nat.le_of_ble_eq_true rfl) rfl ?_
  refine ev_aload_0 dX9_attackers_0 ?_
  refine ev_iload_1 dX9_attackers_1 ?_
  refine cl_X9_182 (c_isSq hb hG hP) hb.1 dX9_attackers_2 rfl (Nat.le_of_ble_eq_true rfl) ?_
  refine ev_if_eq (tgt := 15) dX9_attackers_5 (by decide) (fun h5 => absurd h5 (by rw [hq]; decide)) (fun h5 => ?_)
  refine ev_iload_2 dX9_attackers_8 ?_
  refine cl_X9_124 c_isBit dX9_attackers_9 rfl (Nat.le_of_ble_eq_true rfl) ?_
  refine ev_if_ne (tgt := 19) dX9_attackers_12 (by decide) (fun h12 => ?_) (fun h12 => ?_)
  · refine ev_aload_0 dX9_attackers_19 ?_
    refine gf_X9_33 dX9_attackers_20 hb.1 rfl ?_
    refine ev_aload_0 dX9_attackers_23 ?_
    refine gf_X9_47 dX9_attackers_24 hb.1 rfl ?_
    refine ev_iload_2 dX9_attackers_27 ?_
    refine ev_lconst_1 dX9_attackers_28 ?_
    refine ev_iload_1 dX9_attackers_29 ?_
    refine ev_lshl dX9_attackers_30 ?_
    refine cl_X9_294 (c_menAttacking hb.2.2.2.2.1 hb.2.2.2.2.2.2.1 hG hP hL hk) hb.2.2.2.2.1.1 dX9_attackers_31 rfl (Nat.le_of_ble_eq_true rfl) ?_
    exact ev_lreturn dX9_attackers_34
  · exact absurd h12 (by rw [isBt_of hk]; decide)
