set_option maxRecDepth 100000 in
set_option maxHeartbeats 4000000 in
theorem c_undoF {ae ad : Nat → Nat} {sh : mSh} {σ : mSt} {g : Nat → Int32} (hb : mBoard ad sh) (hS : snapR σ g) : Ct yX9_undo cX9_undo 1 (some .int) 3 0 0 [.ref (ad 0)] ae ad sh σ (mPi ad sh (fun x σ' => x = popL (σ'.2 20 6 ||| σ'.2 20 7) ∧ (posR σ' 20 g ∧ ritR σ' 20 g) ∧ lawR σ' 5 g ∧ trCp σ σ' 26 57 ∧ σ'.1 0 11 = 0 ∧ (∀ k, (30 ≤ k ∨ (0 < k ∧ k < 5)) → σ'.1 k = σ.1 k ∧ σ'.2 k = σ.2 k))) := by
  refine Ct.ofL (own := RX9) (ini := false) (ls := [some (.ref (ad 0))]) (by decide +kernel) rfl (fun h => by cases h) (Nat.le_of_ble_eq_true rfl) rfl ?_
  refine ev_aload_0 dX9_undo_0 ?_
  refine gf_X9_80 dX9_undo_1 hb.1 rfl ?_
  refine gf_X9_340 dX9_undo_4 hb.2.2.2.2.2.2.2.2.2.2.2.1 rfl ?_
  refine ev_if_ne (tgt := 13) dX9_undo_7 (by decide) (fun h7 => ?_) (fun h7 => ?_)
  · refine ev_aload_0 dX9_undo_13 ?_
    refine gf_X9_24 dX9_undo_14 hb.1 rfl ?_
    refine ev_aload_0 dX9_undo_17 ?_
    refine gf_X9_80 dX9_undo_18 hb.1 rfl ?_
    refine gf_X9_332 dX9_undo_21 hb.2.2.2.2.2.2.2.2.2.2.2.1 rfl ?_
    refine cg_X9_333 (c_lawCopy hb.2.2.2.1 hb.2.2.2.2.2.2.2.2.2.2.2.2.1 (by omega)) hb.2.2.2.1.1 dX9_undo_24 rfl (Nat.le_of_ble_eq_true rfl) (fun σ1 h1 => ?_)
    have hL1 := hS.2.1.copy h1
    have f1 : ∀ k, (k < 5 ∨ 14 < k) → σ1.1 k = σ.1 k := h1.2.2.1
    have P1 := posR_lo (σ' := σ1) hS.2.2.1 hS.2.2.2 (fun i hi => f1 _ (by omega)) (by rw [h1.2.2.2])
    refine ev_aload_0 dX9_undo_27 ?_
    refine gf_X9_47 dX9_undo_28 hb.1 rfl ?_
    refine ev_aload_0 dX9_undo_31 ?_
    refine gf_X9_80 dX9_undo_32 hb.1 rfl ?_
    refine gf_X9_335 dX9_undo_35 hb.2.2.2.2.2.2.2.2.2.2.2.1 rfl ?_
    refine cg_X9_158 (c_copyR hb.2.2.2.2.2.2.1 hb.2.2.2.2.2.2.2.2.2.2.2.2.2.1 (by omega) P1.1 P1.2) hb.2.2.2.2.2.2.1.1 dX9_undo_38 rfl (Nat.le_of_ble_eq_true rfl) (fun σ2 h2 => ?_)
    obtain ⟨hP2, hR2, f2⟩ := h2
    refine ev_aload_0 dX9_undo_41 ?_
    refine gf_X9_57 dX9_undo_42 hb.1 rfl ?_
    refine ev_aload_0 dX9_undo_45 ?_
    refine gf_X9_80 dX9_undo_46 hb.1 rfl ?_
    refine gf_X9_336 dX9_undo_49 hb.2.2.2.2.2.2.2.2.2.2.2.1 rfl ?_
    refine cg_X9_337 (c_trailCopy hb.2.2.2.2.2.2.2.2.1 hb.2.2.2.2.2.2.2.2.2.2.2.2.2.2 (by omega)) hb.2.2.2.2.2.2.2.2.1.1 dX9_undo_52 rfl (Nat.le_of_ble_eq_true rfl) (fun σ3 h3 => ?_)
    obtain ⟨t1, t2, f3, f4⟩ := h3
    refine ev_aload_0 dX9_undo_55 ?_
    refine ev_iconst_0 dX9_undo_56 ?_
    refine pf_X9_279 (by decide) (by decide) dX9_undo_57 hb.1 rfl ?_
    refine ev_aload_0 dX9_undo_60 ?_
    refine gf_X9_47 dX9_undo_61 hb.1 rfl ?_
    refine cl_X9_168 (c_menOnBoard hb.2.2.2.2.2.2.1) hb.2.2.2.2.2.2.1.1 dX9_undo_64 rfl (Nat.le_of_ble_eq_true rfl) ?_
    refine ev_pi dX9_undo_67 ⟨rfl, ?_, ?_, ⟨fun i k a b c => ?_, ?_⟩, ?_, fun k hk => ⟨?_, ?_⟩⟩
    · refine posR_lo hP2 hR2 (fun i hi => ?_) (by dsimp only; rw [f4])
      dsimp only
      rw [mu_ne _ (by omega), f3 _ (by omega)]
    · refine lawR_lo hL1 (fun i hi => ?_)
      dsimp only
      rw [mu_ne _ (by omega), f3 _ (by omega), (f2 _ (by omega) (by omega) (by omega)).1]
    · dsimp only
      rw [mu_ne _ (by omega), t1 i a b, fa_fill_in c, (f2 _ (by omega) (by omega) (by omega)).1, f1 _ (by omega)]
    · dsimp only
      rw [mu_ne _ (by decide), t2]
      simp only [upd, if_pos]
      rw [(f2 _ (by omega) (by omega) (by omega)).1, f1 _ (by omega)]
    · simp [mu, upd]
    · dsimp only
      rw [mu_ne _ (by omega), f3 _ (by omega), (f2 _ (by omega) (by omega) (by omega)).1, f1 _ (by omega)]
    · dsimp only
      rw [f4, (f2 _ (by omega) (by omega) (by omega)).2, h1.2.2.2]
  · exact absurd (hS.1.symm.trans h7) (by decide)
/-- both have gone back to the image -/
theorem jRel.undo {σ σ1 σ2 : mSt} {g : Nat → Int32} (h : jRel σ g) (h1 : σ.1 61 2 = 1) (hP : posR σ1 20 (σ.1 63) ∧ ritR σ1 20 (σ.1 63)) (hL : lawR σ1 5 (σ.1 63)) (hT : trCp σ σ1 26 57) (h0 : σ1.1 0 11 = 0) (e : ∀ k, (30 ≤ k ∨ (0 < k ∧ k < 5)) → σ1.1 k = σ.1 k ∧ σ1.2 k = σ.2 k) (b : begR σ1 σ2 (fa_fill (σ.1 63) (σ1.1 62) 2369)) : jRel σ2 (fa_fill (σ.1 63) (σ1.1 62) 2369) := by
  have eq : eqL (σ.1 63) (fa_fill (σ.1 63) (σ1.1 62) 2369) := eqL_fill
  have h8 := h.2.2.2.2.2.2
  rcases h8 with ⟨_, z⟩ | ⟨_, w1, w2, _, D, hD⟩
  · rw [z] at h1; exact absurd h1 (by decide)
  · have hw := wf_cong eq w1 w2
    refine (h.mid (g' := fa_fill (σ.1 63) (σ1.1 62) 2369) ⟨posR_lw (fun i hi => eq i (by omega)) hP.1 hP.2, lawR_hi (fun i a b c => eq i (by omega)) hL, ⟨D, trR_cong eq (trR_cp hD hT)⟩, Or.inl h0⟩ (fun k hk => e k (by omega))).1.beg hw.1 hw.2 b

