theorem isBt_nI {x : Int32} (h : isBt x = true) : ∃ k, k ≤ 1 ∧ x = nI k := by
  rcases of_decide_eq_true h with e | e
  · exact ⟨0, by decide, e⟩
  · exact ⟨1, by decide, e⟩
theorem isBt_of {k : Nat} (hk : k ≤ 1) : isBt (nI k) = true := by
  rcases (show k = 0 ∨ k = 1 by omega) with e | e <;> subst e <;> decide
theorem isBt_not {x : Int32} {k : Nat} (hk : k ≤ 1) (e : x = nI k) (h : isBt x = false) : False := by
  rw [e, isBt_of hk] at h; cases h
def staG (g : Nat → Int32) : Nat := if 0 < (legalG g).length then 0 else if safeG g (tuN g) then 2 else 1

set_option maxRecDepth 100000 in
set_option maxHeartbeats 4000000 in
theorem c_attNo {ae ad : Nat → Nat} {sh : mSh} {σ : mSt} {x : Int32} (hb : mBoard ad sh) (hx : isBt x = false) : Ct yX9_attacked cX9_attacked 2 (some .long) 3 0 0 [.ref (ad 0), .int x] ae ad sh σ (mEq (some (.long (-9223372036854775808))) ad sh σ) := by
  refine Ct.ofL (own := RX9) (ini := false) (ls := [some (.ref (ad 0)), some (.int x)]) (by decide +kernel) rfl (fun h => by cases h) (Nat.le_of_ble_eq_true rfl) rfl ?_
  refine ev_iload_1 dX9_attacked_0 ?_
  refine cl_X9_124 c_isBit dX9_attacked_1 rfl (Nat.le_of_ble_eq_true rfl) ?_
  refine ev_if_eq (tgt := 22) dX9_attacked_4 (by decide) (fun h4 => ?_) (fun h4 => absurd (by rw [hx]; decide) h4)
  refine ev_ldc2 kc_X9_292 dX9_attacked_22 ?_
  exact ev_lreturn dX9_attacked_25
set_option maxRecDepth 100000 in
set_option maxHeartbeats 4000000 in
theorem c_att {ae ad : Nat → Nat} {sh : mSh} {σ : mSt} {g : Nat → Int32} (hb : mBoard ad sh) (hG : wfP g) (hP : posR σ 20 g) (hL : lawR σ 5 g) {k : Nat} (hk : k ≤ 1) : Ct yX9_attacked cX9_attacked 2 (some .long) 3 0 0 [.ref (ad 0), .int (nI k)] ae ad sh σ (mEq (some (.long (setL (attG g k)))) ad sh σ) := by
  refine Ct.ofL (own := RX9) (ini := false) (ls := [some (.ref (ad 0)), some (.int (nI k))]) (by decide +kernel) rfl (fun h => by cases h) (Nat.le_of_ble_eq_true rfl) rfl ?_
  refine ev_iload_1 dX9_attacked_0 ?_
  refine cl_X9_124 c_isBit dX9_attacked_1 rfl (Nat.le_of_ble_eq_true rfl) ?_
  refine ev_if_eq (tgt := 22) dX9_attacked_4 (by decide) (fun h4 => absurd h4 (by rw [isBt_of hk]; decide)) (fun h4 => ?_)
  refine ev_aload_0 dX9_attacked_7 ?_
  refine gf_X9_33 dX9_attacked_8 hb.1 rfl ?_
  refine ev_aload_0 dX9_attacked_11 ?_
  refine gf_X9_47 dX9_attacked_12 hb.1 rfl ?_
  refine ev_iload_1 dX9_attacked_15 ?_
  refine cl_X9_298 (c_attackedBy hb.2.2.2.2.1 hb.2.2.2.2.2.2.1 hG hP hL hk) hb.2.2.2.2.1.1 dX9_attacked_16 rfl (Nat.le_of_ble_eq_true rfl) ?_
  refine ev_goto (tgt := 25) dX9_attacked_19 (by decide) ?_
  exact ev_lreturn dX9_attacked_25
theorem lawR.B {σ σ' : mSt} {g : Nat → Int32} (hL : lawR σ 5 g) (hf : frB σ σ') : lawR σ' 5 g := by
  have e : ∀ i, i ≤ 9 → σ'.1 (5 + i) = σ.1 (5 + i) := fun i hi => (hf (5 + i) (by omega) (by omega) (by omega) (by omega) (by omega) (by omega)).1
  have e0 := e 0 (by decide)
  rw [Nat.add_zero] at e0
  unfold lawR
  rw [e 1 (by decide), e 2 (by decide), e 3 (by decide), e 4 (by decide), e 5 (by decide), e 6 (by decide), e 7 (by decide), e 8 (by decide), e 9 (by decide), e0]
  exact hL
theorem posR_clear {σ : mSt} {g : Nat → Int32} (hG : wfP g) (h : posR σ 20 g) : σ.1 20 4 = nI (tuN g) := h.turn hG
set_option maxRecDepth 100000 in
set_option maxHeartbeats 4000000 in
theorem c_status {ae ad : Nat → Nat} {sh : mSh} {σ : mSt} {g : Nat → Int32} (hb : mBoard ad sh) (hG : wfP g) (hW : wfL g) (hP : posR σ 20 g) (hR : ritR σ 20 g) (hL : lawR σ 5 g) (hl : (σ.1 0 11 = 0) ∨ lgR σ g) : Ct yX9_status cX9_status 1 (some .int) 7 0 0 [.ref (ad 0)] ae ad sh σ (mPi ad sh (fun x σ' => x = nI (staG g) ∧ lgR σ' g ∧ (posR σ' 20 g ∧ ritR σ' 20 g) ∧ lawR σ' 5 g ∧ frB σ σ')) := by
  refine Ct.ofL (own := RX9) (ini := false) (ls := [some (.ref (ad 0))]) (by decide +kernel) rfl (fun h => by cases h) (Nat.le_of_ble_eq_true rfl) rfl ?_
  refine ev_aload_0 dX9_status_0 ?_
  refine cg_X9_202 (c_listed hb hG hW hP hR hL hl) hb.1 dX9_status_1 rfl (Nat.le_of_ble_eq_true rfl) (fun σ1 h1 => ?_)
  obtain ⟨h1, h2, f1⟩ := h1
  have hL1 := hL.B f1
  have h445 := legal_len hG
  refine ev_aload_0 dX9_status_4 ?_
  refine gf_X9_64 dX9_status_5 hb.1 rfl ?_
  refine gf_X9_205 dX9_status_8 hb.2.2.2.2.2.2.2.2.2.1.1 rfl ?_
  rw [h1.2.1]
  refine ev_if_le (tgt := 16) dX9_status_11 (by decide) (fun h11 => ?_) (fun h11 => ?_)
  · refine ev_aload_0 dX9_status_16 ?_
    refine gf_X9_33 dX9_status_17 hb.1 rfl ?_
    refine ev_aload_0 dX9_status_20 ?_
    refine gf_X9_47 dX9_status_21 hb.1 rfl ?_
    refine ev_aload_0 dX9_status_24 ?_
    refine gf_X9_47 dX9_status_25 hb.1 rfl ?_
    refine gf_X9_171 dX9_status_28 hb.2.2.2.2.2.2.1.1 rfl ?_
    rw [h2.1.turn hG]
    refine cl_X9_260 (c_isSafe hb.2.2.2.2.1 hb.2.2.2.2.2.2.1 hG h2.1 hL1 hW (tu_le hG)) hb.2.2.2.2.1.1 dX9_status_31 rfl (Nat.le_of_ble_eq_true rfl) ?_
    refine ev_if_eq (tgt := 41) dX9_status_34 (by decide) (fun h34 => ?_) (fun h34 => ?_)
    · refine ev_iconst_1 dX9_status_41 ?_
      exact ev_pi dX9_status_42 ⟨by
        first
        | (have e9 : 0 < (legalG g).length := Nat.pos_of_ne_zero (fun z => h11 (by rw [z]; decide))
           rw [staG, if_pos e9]; rfl)
        | (have e9 : ¬ 0 < (legalG g).length := fun z => nI_nle z (by omega) h11
           first
           | (rw [staG, if_neg e9, if_pos (b2i_t h34)]; rfl)
           | (rw [staG, if_neg e9, if_neg (by rw [(b2i_0 _).mp h34]; decide)]; rfl)), h1, h2, hL1, f1⟩
    · refine ev_iconst_2 dX9_status_37 ?_
      refine ev_goto (tgt := 42) dX9_status_38 (by decide) ?_
      exact ev_pi dX9_status_42 ⟨by
        first
        | (have e9 : 0 < (legalG g).length := Nat.pos_of_ne_zero (fun z => h11 (by rw [z]; decide))
           rw [staG, if_pos e9]; rfl)
        | (have e9 : ¬ 0 < (legalG g).length := fun z => nI_nle z (by omega) h11
           first
           | (rw [staG, if_neg e9, if_pos (b2i_t h34)]; rfl)
           | (rw [staG, if_neg e9, if_neg (by rw [(b2i_0 _).mp h34]; decide)]; rfl)), h1, h2, hL1, f1⟩
  · refine ev_iconst_0 dX9_status_14 ?_
    exact ev_pi dX9_status_15 ⟨by
      first
      | (have e9 : 0 < (legalG g).length := Nat.pos_of_ne_zero (fun z => h11 (by rw [z]; decide))
         rw [staG, if_pos e9]; rfl)
      | (have e9 : ¬ 0 < (legalG g).length := fun z => nI_nle z (by omega) h11
         first
         | (rw [staG, if_neg e9, if_pos (b2i_t h34)]; rfl)
         | (rw [staG, if_neg e9, if_neg (by rw [(b2i_0 _).mp h34]; decide)]; rfl)), h1, h2, hL1, f1⟩
