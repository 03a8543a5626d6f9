set_option maxRecDepth 100000 in
set_option maxHeartbeats 4000000 in
theorem c_imageF {ae ad : Nat → Nat} {sh : mSh} {σ : mSt} {g : Nat → Int32} (hb : mBoard ad sh) (hP : posR σ 20 g) (hR : ritR σ 20 g) (hL : lawR σ 5 g) : Ct yX9_image cX9_image 1 (some .int) 3 0 0 [.ref (ad 0)] ae ad sh σ (mPi ad sh (fun x σ' => x = popL (σ'.2 20 6 ||| σ'.2 20 7) ∧ snapR σ' g ∧ trCp σ σ' 57 26 ∧ (∀ k, (k < 43 ∨ 60 < k) → σ'.1 k = σ.1 k ∧ σ'.2 k = σ.2 k))) := by
  refine Ct.ofL (own := RX9) (ini := false) (ls := [some (.ref (ad 0))]) (by decide +kernel) rfl (fun h => by cases h) (Nat.le_of_ble_eq_true rfl) rfl ?_
  refine ev_aload_0 dX9_image_0 ?_
  refine gf_X9_80 dX9_image_1 hb.1 rfl ?_
  refine gf_X9_332 dX9_image_4 hb.2.2.2.2.2.2.2.2.2.2.2.1 rfl ?_
  refine ev_aload_0 dX9_image_7 ?_
  refine gf_X9_24 dX9_image_8 hb.1 rfl ?_
  refine cg_X9_333 (c_lawCopy hb.2.2.2.2.2.2.2.2.2.2.2.2.1 hb.2.2.2.1 (by omega)) hb.2.2.2.2.2.2.2.2.2.2.2.2.1.1 dX9_image_11 rfl (Nat.le_of_ble_eq_true rfl) (fun σ1 h1 => ?_)
  have hL1 := hL.copy h1
  have f1 : ∀ k, (k < 44 ∨ 53 < k) → σ1.1 k = σ.1 k := h1.2.2.1
  have P1 := posR_lo (σ' := σ1) hP hR (fun i hi => f1 _ (by omega)) (by rw [h1.2.2.2])
  refine ev_aload_0 dX9_image_14 ?_
  refine gf_X9_80 dX9_image_15 hb.1 rfl ?_
  refine gf_X9_335 dX9_image_18 hb.2.2.2.2.2.2.2.2.2.2.2.1 rfl ?_
  refine ev_aload_0 dX9_image_21 ?_
  refine gf_X9_47 dX9_image_22 hb.1 rfl ?_
  refine cg_X9_158 (c_copyR hb.2.2.2.2.2.2.2.2.2.2.2.2.2.1 hb.2.2.2.2.2.2.1 (by omega) P1.1 P1.2) hb.2.2.2.2.2.2.2.2.2.2.2.2.2.1.1 dX9_image_25 rfl (Nat.le_of_ble_eq_true rfl) (fun σ2 h2 => ?_)
  obtain ⟨hP2, hR2, f2⟩ := h2
  refine ev_aload_0 dX9_image_28 ?_
  refine gf_X9_80 dX9_image_29 hb.1 rfl ?_
  refine gf_X9_336 dX9_image_32 hb.2.2.2.2.2.2.2.2.2.2.2.1 rfl ?_
  refine ev_aload_0 dX9_image_35 ?_
  refine gf_X9_57 dX9_image_36 hb.1 rfl ?_
  refine cg_X9_337 (c_trailCopy hb.2.2.2.2.2.2.2.2.2.2.2.2.2.2 hb.2.2.2.2.2.2.2.2.1 (by omega)) hb.2.2.2.2.2.2.2.2.2.2.2.2.2.2.1 dX9_image_39 rfl (Nat.le_of_ble_eq_true rfl) (fun σ3 h3 => ?_)
  obtain ⟨t1, t2, f3, f4⟩ := h3
  refine ev_aload_0 dX9_image_42 ?_
  refine gf_X9_80 dX9_image_43 hb.1 rfl ?_
  refine ev_iconst_1 dX9_image_46 ?_
  refine pf_X9_340 (by decide) (by decide) dX9_image_47 hb.2.2.2.2.2.2.2.2.2.2.2.1 rfl ?_
  refine ev_aload_0 dX9_image_50 ?_
  refine gf_X9_47 dX9_image_51 hb.1 rfl ?_
  refine cl_X9_168 (c_menOnBoard hb.2.2.2.2.2.2.1) hb.2.2.2.2.2.2.1.1 dX9_image_54 rfl (Nat.le_of_ble_eq_true rfl) ?_
  refine ev_pi dX9_image_57 ⟨rfl, ⟨?_, ?_, ?_⟩, ⟨fun i k a b c => ?_, ?_⟩, fun k hk => ⟨?_, ?_⟩⟩
  · simp [mu, upd]
  · refine lawR_lo hL1 (fun i hi => ?_)
    dsimp only
    rw [mu_ne _ (by omega), f3 _ (by omega), (f2 _ (by omega) (by omega) (by omega)).1]
  · refine posR_lo hP2 hR2 (fun i hi => ?_) (by dsimp only; rw [f4])
    dsimp only
    rw [mu_ne _ (by omega), f3 _ (by omega)]
  · dsimp only
    rw [mu_ne _ (by omega), t1 i a b, fa_fill_in c, (f2 _ (by omega) (by omega) (by omega)).1, f1 _ (by omega)]
  · dsimp only
    rw [mu_ne _ (by decide), t2]
    simp only [upd, if_pos]
    rw [(f2 _ (by omega) (by omega) (by omega)).1, f1 _ (by omega)]
  · dsimp only
    rw [mu_ne _ (by omega), f3 _ (by omega), (f2 _ (by omega) (by omega) (by omega)).1, f1 _ (by omega)]
  · dsimp only
    rw [f4, (f2 _ (by omega) (by omega) (by omega)).2, h1.2.2.2]
