/-- after begin: no moves made, the digest d kept, nothing listed -/
def begS (σ : mSt) (d : Int32) : mSt := (mu (mu (mu σ.1 26 3 0) 29 0 d) 0 11 0, σ.2)
theorem c_beginG {ae ad : Nat → Nat} {sh : mSh} {σ : mSt} {g : Nat → Int32} (hb : mBoard ad sh) (hG : wfP g) (hP : posR σ 20 g) (hR : ritR σ 20 g) : Ct yX9_begin cX9_begin 1 none 2 0 0 [.ref (ad 0)] ae ad sh σ (mEq none ad sh (begS σ (dgG g))) := by
  have h := c_begin (ae := ae) hb hG hP
  rw [dgQ_G hG hP hR] at h
  exact h

set_option maxRecDepth 100000 in
set_option maxHeartbeats 4000000 in
theorem c_sideNo {ae ad : Nat → Nat} {sh : mSh} {σ : mSt} {s : Int32} (hb : mBoard ad sh) (hs : isBt s = false) : Ct yX9_side cX9_side 3 (some .int) 3 0 0 [.ref (ad 0), .int s] ae ad sh σ (mEq (some (.int (-2))) ad sh σ) := by
  refine Ct.ofL (own := RX9) (ini := false) (ls := [some (.ref (ad 0)), some (.int s), none]) (by decide +kernel) rfl (fun h => by cases h) (Nat.le_of_ble_eq_true rfl) rfl ?_
  refine ev_iload_1 dX9_side_0 ?_
  refine cl_X9_124 c_isBit dX9_side_1 rfl (Nat.le_of_ble_eq_true rfl) ?_
  refine ev_if_ne (tgt := 10) dX9_side_4 (by decide) (fun h4 => absurd h4 (by rw [hs]; decide)) (fun h4 => ?_)
  refine ev_bipush_m2 dX9_side_7 ?_
  exact ev_ireturn dX9_side_9
set_option maxRecDepth 100000 in
set_option maxHeartbeats 4000000 in
theorem c_side {ae ad : Nat → Nat} {sh : mSh} {σ : mSt} {k : Nat} {g : Nat → Int32} (hb : mBoard ad sh) (hG : wfP g) (hP : posR σ 20 g) (hR : ritR σ 20 g) (hk : k ≤ 1) : Ct yX9_side cX9_side 3 (some .int) 3 0 0 [.ref (ad 0), .int (nI k)] ae ad sh σ (mEq (some (.int (nI (tuN g)))) ad sh (begS (mu σ.1 20 4 (nI k), σ.2) (dgG (upd g 0 (nI k))))) := by
  refine Ct.ofL (own := RX9) (ini := false) (ls := [some (.ref (ad 0)), some (.int (nI k)), none]) (by decide +kernel) rfl (fun h => by cases h) (Nat.le_of_ble_eq_true rfl) rfl ?_
  refine ev_iload_1 dX9_side_0 ?_
  refine cl_X9_124 c_isBit dX9_side_1 rfl (Nat.le_of_ble_eq_true rfl) ?_
  refine ev_if_ne (tgt := 10) dX9_side_4 (by decide) (fun h4 => ?_) (fun h4 => ?_)
  · refine ev_aload_0 dX9_side_10 ?_
    refine gf_X9_47 dX9_side_11 hb.1 rfl ?_
    refine gf_X9_171 dX9_side_14 hb.2.2.2.2.2.2.1.1 rfl ?_
    rw [hP.turn hG]
    refine ev_istore_2 dX9_side_17 rfl rfl ?_
    refine ev_aload_0 dX9_side_18 ?_
    refine gf_X9_47 dX9_side_19 hb.1 rfl ?_
    refine ev_iload_1 dX9_side_22 ?_
    refine pf_X9_171 dX9_side_23 hb.2.2.2.2.2.2.1.1 rfl ?_
    refine ev_aload_0 dX9_side_26 ?_
    refine cl_X9_84 (c_beginG hb (tu_wfP hG hk) (tu_R hP hR).1 (tu_R hP hR).2) hb.1 dX9_side_27 rfl (Nat.le_of_ble_eq_true rfl) ?_
    refine ev_iload_2 dX9_side_30 ?_
    exact ev_ireturn dX9_side_31
  · exact absurd h4 (by rw [show isBt (nI k) = true from by rcases (show k = 0 ∨ k = 1 by omega) with e | e <;> subst e <;> decide]; decide)
