theorem sqB_in {g : Nat → Int32} (hG : wfP g) {q : Int32} (h : sqB g q = true) : ∃ j, q = nI j ∧ j < cN g * rN g := by
  obtain ⟨h1, h2⟩ := of_decide_eq_true h
  obtain ⟨j, hj, e⟩ := nI_of h1
  subst e
  exact ⟨j, rfl, (nI_ltI hj (by have := sq36 hG; omega)).mp h2⟩
/-- what stands on q -/
def atR (g : Nat → Int32) (q : Int32) : Int32 := if sqB g q then (if g (1 + q.toNatClampNeg) = 0 then -5 else g (1 + q.toNatClampNeg) - 1) else -1

set_option maxRecDepth 100000 in
set_option maxHeartbeats 4000000 in
theorem c_at {ae ad : Nat → Nat} {sh : mSh} {σ : mSt} {g : Nat → Int32} (hb : mBoard ad sh) (hG : wfP g) (hP : posR σ 20 g) {q : Int32} : Ct yX9_at cX9_at 3 (some .int) 2 0 0 [.ref (ad 0), .int q] ae ad sh σ (mEq (some (.int (atR g q))) ad sh σ) := by
  refine Ct.ofL (own := RX9) (ini := false) (ls := [some (.ref (ad 0)), some (.int q), none]) (by decide +kernel) rfl (fun h => by cases h) (Nat.le_of_ble_eq_true rfl) rfl ?_
  refine ev_aload_0 dX9_at_0 ?_
  refine ev_iload_1 dX9_at_1 ?_
  refine cl_X9_182 (c_isSq hb hG hP) hb.1 dX9_at_2 rfl (Nat.le_of_ble_eq_true rfl) ?_
  refine ev_if_ne (tgt := 10) dX9_at_5 (by decide) (fun h5 => ?_) (fun h5 => ?_)
  · refine ev_aload_0 dX9_at_10 ?_
    refine gf_X9_47 dX9_at_11 hb.1 rfl ?_
    refine ev_iload_1 dX9_at_14 ?_
    refine cl_X9_199 (c_manOn hb.2.2.2.2.2.2.1) hb.2.2.2.2.2.2.1.1 dX9_at_15 rfl (Nat.le_of_ble_eq_true rfl) ?_
    have h36 := sq36 hG
    obtain ⟨j, e, hj⟩ := sqB_in hG (b2i_t h5)
    subst e
    rw [cellV_nI (by omega) (by omega), hP.1 j (by omega)]
    refine ev_istore_2 dX9_at_18 rfl rfl ?_
    refine ev_iload_2 dX9_at_19 ?_
    refine ev_if_ne (tgt := 28) dX9_at_20 (by decide) (fun h20 => ?_) (fun h20 => ?_)
    · refine ev_iload_2 dX9_at_28 ?_
      refine ev_iconst_1 dX9_at_29 ?_
      refine ev_isub dX9_at_30 ?_
      first
      | exact ev_iret dX9_at_31 (by rw [atR, if_neg (by rw [(b2i_0 _).mp h5]; decide)]) rfl
      | exact ev_iret dX9_at_31 (by rw [atR, if_pos (b2i_t h5), nI_clamp (by omega)]; first | rw [if_pos h20] | rw [if_neg h20]) rfl
    · refine ev_bipush_m5 dX9_at_23 ?_
      refine ev_goto (tgt := 31) dX9_at_25 (by decide) ?_
      first
      | exact ev_iret dX9_at_31 (by rw [atR, if_neg (by rw [(b2i_0 _).mp h5]; decide)]) rfl
      | exact ev_iret dX9_at_31 (by rw [atR, if_pos (b2i_t h5), nI_clamp (by omega)]; first | rw [if_pos h20] | rw [if_neg h20]) rfl
  · refine ev_iconst_m1 dX9_at_8 ?_
    first
    | exact ev_iret dX9_at_9 (by rw [atR, if_neg (by rw [(b2i_0 _).mp h5]; decide)]) rfl
    | exact ev_iret dX9_at_9 (by rw [atR, if_pos (b2i_t h5), nI_clamp (by omega)]; first | rw [if_pos h20] | rw [if_neg h20]) rfl
