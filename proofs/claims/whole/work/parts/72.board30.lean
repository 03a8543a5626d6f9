/-- the reference's row after setup -/
def setS (g : Nat → Int32) (M : Nat → Nat) : Nat → Int32 := fun i => if 49 ≤ i ∧ i < 53 then g (184 + 6 * (i - 49)) else emG g M i
section SS
variable {g : Nat → Int32} {M : Nat → Nat}
theorem sup_ri {k : Nat} (hk : k < 4) : setS g M (49 + k) = g (184 + 6 * k) := by
  unfold setS
  rw [if_pos (by omega), Nat.add_sub_cancel_left]
theorem sup_ne {i : Nat} (h : i < 49 ∨ 53 ≤ i) : setS g M i = emG g M i := by
  unfold setS
  rw [if_neg (by omega)]
theorem sup_hi : ∀ i, 53 ≤ i → setS g M i = g i := fun i hi => by rw [sup_ne (by omega), em_hi i hi]
theorem sup_rN {k : Nat} (hk : k < 4) : riN (setS g M) k = exN g k := by unfold riN exN clN; rw [sup_ri hk]
theorem sup_wfP (hG : wfP g) (hW : wfL g) (hM : ∀ q, q < 36 → M q ≤ 12 ∧ (cN g * rN g ≤ q → M q = 0)) : wfP (setS g M) := by
  have hc : ∀ i, (i < 49 ∨ 53 ≤ i) → clN (setS g M) i = clN (emG g M) i := fun i hi => by rw [clN, clN, sup_ne hi]
  obtain ⟨h1, h2, h3, h4, h5, h6, h7⟩ := em_wfP hG hM
  unfold wfP cN rN tuN at *
  rw [hc _ (by decide), hc _ (by decide), hc _ (by decide), sup_ne (by decide), sup_ne (by decide), sup_ne (by decide)]
  refine ⟨h1, h2, fun q hq => ?_, fun j hj => ?_, fun k hk => ?_, h6, h7⟩
  · have := h3 q hq
    unfold mN at *
    rw [hc _ (by omega), sup_ne (by omega)]; exact this
  · have := h4 j hj
    unfold hN at *
    rw [hc _ (by omega), sup_ne (by omega)]; exact this
  · rw [sup_rN hk, sup_ri hk]; exact (hW.2.2.2.2.2.2 k hk).1
theorem sup_wfL (hW : wfL g) : wfL (setS g M) := by
  have hc : ∀ i, 53 ≤ i → clN (setS g M) i = clN g i := fun i hi => by rw [clN, clN, sup_hi i hi]
  obtain ⟨w1, w2, w3, w4, w5, w6, w7⟩ := hW
  refine wfL_mk ⟨w1, w2, w3, w4, w5, w6, w7⟩ (eqT_of (fun i h1 _ _ _ => sup_hi i (by omega))) ?_ ?_ (fun t ht => ?_) (fun t ht => ?_) (fun k hk => ?_)
  · rw [hc _ (by decide), sup_hi _ (by decide)]; exact w1
  · rw [hc _ (by decide), sup_hi _ (by decide)]; exact w2
  · rw [hc _ (by omega), sup_hi _ (by omega)]; exact w3 t ht
  · rw [hc _ (by omega), sup_hi _ (by omega)]; exact w4 t ht
  · have ec : ∀ i, caN (setS g M) k i = caN g k i := fun i => hc _ (by omega)
    have ex : exN (setS g M) k = exN g k := hc _ (by omega)
    have e1 : cN (setS g M) = cN g := hc _ (by decide)
    have e2 : rN (setS g M) = rN g := hc _ (by decide)
    obtain ⟨a1, a2, a3, a4⟩ := w7 k hk
    rw [ex, sup_rN hk, e1, e2, sup_hi _ (by omega)]
    refine ⟨a1, fun i hi hi2 => by rw [ec i, sup_hi _ (by omega)]; exact a2 i hi hi2, fun y => ?_, fun y => y⟩
    obtain ⟨b1, b2, b3, b4⟩ := a3 y
    exact ⟨by rw [ec 1]; exact b1, fun i hi hi2 => by rw [ec i]; exact b2 i hi hi2, by rw [ec 2, ec 4]; exact b3, by rw [ec 3, ec 5]; exact b4⟩
end SS
/-- the reading of the tape as a position of g's size -/
def posT (g T : Nat → Int32) (tl : Nat) : Int32 × (Nat → Nat) := psF g T tl 0 tl 0 (rN g - 1) (fun _ => 0)
theorem posT_ok {g T : Nat → Int32} {tl : Nat} (hG : wfP g) : ∀ q, q < 36 → (posT g T tl).2 q ≤ 12 ∧ (cN g * rN g ≤ q → (posT g T tl).2 q = 0) := psF_ok hG _ _ _ _ _ (by have := hG.2.1.2.1; omega) (fun _ _ => ⟨Nat.zero_le _, fun _ => rfl⟩)
/-- only the tape's length and the spare position have changed -/
def frT2 (σ σ' : mSt) : Prop := ∀ k, k ≠ 1 → (k < 23 ∨ 25 < k) → σ'.1 k = σ.1 k ∧ σ'.2 k = σ.2 k

set_option maxRecDepth 100000 in
set_option maxHeartbeats 4000000 in
theorem c_setupBad {ae ad : Nat → Nat} {sh : mSh} {σ : mSt} {g T : Nat → Int32} {tl : Nat} (hb : mBoard ad sh) (hG : wfP g) (hL : lawR σ 5 g) (hP : posR σ 20 g) (hT : tpR σ T tl) (hw : ¬ (posT g T tl).1 < 0) : Ct yX9_setup cX9_setup 2 (some .int) 3 0 0 [.ref (ad 0)] ae ad sh σ (mPi ad sh (fun x σ' => x = -100 - (posT g T tl).1 ∧ σ'.1 1 1 = 0 ∧ frT2 σ σ')) := by
  refine Ct.ofL (own := RX9) (ini := false) (ls := [some (.ref (ad 0)), none]) (by decide +kernel) rfl (fun h => by cases h) (Nat.le_of_ble_eq_true rfl) rfl ?_
  have f0 : frP σ (emS σ 23 (σ.1 20 2) (σ.1 20 3)) 23 := emS_fr
  have Q0 : posQ (emS σ 23 (σ.1 20 2) (σ.1 20 3)) 23 (fun _ => 0) (fun _ => 0) (g 53) (g 54) 0 0 := by
    rw [← hP.2.2.1, ← hP.2.2.2.1]; exact emS_Q
  have T0 : tpR (emS σ 23 (σ.1 20 2) (σ.1 20 3)) T tl := by
    unfold tpR
    rw [(f0 1 (by decide) (by decide) (by decide)).1, (f0 2 (by decide) (by decide) (by decide)).1]; exact hT
  refine ev_aload_0 dX9_setup_0 ?_
  refine gf_X9_51 dX9_setup_1 hb.1 rfl ?_
  refine ev_aload_0 dX9_setup_4 ?_
  refine gf_X9_47 dX9_setup_5 hb.1 rfl ?_
  refine gf_X9_148 dX9_setup_8 hb.2.2.2.2.2.2.1.1 rfl ?_
  refine ev_aload_0 dX9_setup_11 ?_
  refine gf_X9_47 dX9_setup_12 hb.1 rfl ?_
  refine gf_X9_151 dX9_setup_15 hb.2.2.2.2.2.2.1.1 rfl ?_
  refine cl_X9_98 (c_empty hb.2.2.2.2.2.2.2.1) hb.2.2.2.2.2.2.2.1.1 dX9_setup_18 rfl (Nat.le_of_ble_eq_true rfl) ?_
  refine ev_aload_0 dX9_setup_21 ?_
  refine ev_aload_0 dX9_setup_22 ?_
  refine gf_X9_51 dX9_setup_23 hb.1 rfl ?_
  refine cg_X9_154 (c_readPos (σ := emS σ 23 (σ.1 20 2) (σ.1 20 3)) hb hG (hL.fr f0 sep523) T0 Q0) hb.1 dX9_setup_26 rfl (Nat.le_of_ble_eq_true rfl) (fun r1 σ1 h1 => ?_)
  obtain ⟨e1, q1, f1⟩ := h1
  have e1z : r1 = (posT g T tl).1 := e1
  clear e1
  subst e1z
  refine ev_istore_1 dX9_setup_29 rfl rfl ?_
  refine ev_aload_0 dX9_setup_30 ?_
  refine gf_X9_14 dX9_setup_31 hb.1 rfl ?_
  refine ev_iconst_0 dX9_setup_34 ?_
  refine pf_X9_91 dX9_setup_35 hb.2.1.1 rfl ?_
  refine ev_iload_1 dX9_setup_38 ?_
  refine ev_if_lt (tgt := 47) dX9_setup_39 (by decide) (fun h39 => absurd h39 hw) (fun h39 => ?_)
  refine ev_bipush_m100 dX9_setup_42 ?_
  refine ev_iload_1 dX9_setup_44 ?_
  refine ev_isub dX9_setup_45 ?_
  exact ev_pi dX9_setup_46 ⟨rfl, by simp [mu, upd], fun k a b => ⟨(mu_ne _ a).trans ((f0.tr f1) k (by omega) (by omega) (by omega)).1, ((f0.tr f1) k (by omega) (by omega) (by omega)).2⟩⟩
set_option maxRecDepth 100000 in
set_option maxHeartbeats 4000000 in
theorem c_setup {ae ad : Nat → Nat} {sh : mSh} {σ : mSt} {g T : Nat → Int32} {tl : Nat} (hb : mBoard ad sh) (hG : wfP g) (hL : lawR σ 5 g) (hP : posR σ 20 g) (hT : tpR σ T tl) (hW : wfL g) (hw : (posT g T tl).1 < 0) : Ct yX9_setup cX9_setup 2 (some .int) 3 0 0 [.ref (ad 0)] ae ad sh σ (mPi ad sh (fun x σ' => x = menG (setS g (posT g T tl).2) ∧ ∃ σ1 : mSt, frT2 σ σ1 ∧ σ1.1 1 1 = 0 ∧ setR σ1 σ' (setS g (posT g T tl).2))) := by
  refine Ct.ofL (own := RX9) (ini := false) (ls := [some (.ref (ad 0)), none]) (by decide +kernel) rfl (fun h => by cases h) (Nat.le_of_ble_eq_true rfl) rfl ?_
  have f0 : frP σ (emS σ 23 (σ.1 20 2) (σ.1 20 3)) 23 := emS_fr
  have Q0 : posQ (emS σ 23 (σ.1 20 2) (σ.1 20 3)) 23 (fun _ => 0) (fun _ => 0) (g 53) (g 54) 0 0 := by
    rw [← hP.2.2.1, ← hP.2.2.2.1]; exact emS_Q
  have T0 : tpR (emS σ 23 (σ.1 20 2) (σ.1 20 3)) T tl := by
    unfold tpR
    rw [(f0 1 (by decide) (by decide) (by decide)).1, (f0 2 (by decide) (by decide) (by decide)).1]; exact hT
  refine ev_aload_0 dX9_setup_0 ?_
  refine gf_X9_51 dX9_setup_1 hb.1 rfl ?_
  refine ev_aload_0 dX9_setup_4 ?_
  refine gf_X9_47 dX9_setup_5 hb.1 rfl ?_
  refine gf_X9_148 dX9_setup_8 hb.2.2.2.2.2.2.1.1 rfl ?_
  refine ev_aload_0 dX9_setup_11 ?_
  refine gf_X9_47 dX9_setup_12 hb.1 rfl ?_
  refine gf_X9_151 dX9_setup_15 hb.2.2.2.2.2.2.1.1 rfl ?_
  refine cl_X9_98 (c_empty hb.2.2.2.2.2.2.2.1) hb.2.2.2.2.2.2.2.1.1 dX9_setup_18 rfl (Nat.le_of_ble_eq_true rfl) ?_
  refine ev_aload_0 dX9_setup_21 ?_
  refine ev_aload_0 dX9_setup_22 ?_
  refine gf_X9_51 dX9_setup_23 hb.1 rfl ?_
  refine cg_X9_154 (c_readPos (σ := emS σ 23 (σ.1 20 2) (σ.1 20 3)) hb hG (hL.fr f0 sep523) T0 Q0) hb.1 dX9_setup_26 rfl (Nat.le_of_ble_eq_true rfl) (fun r1 σ1 h1 => ?_)
  obtain ⟨e1, q1, f1⟩ := h1
  have e1z : r1 = (posT g T tl).1 := e1
  clear e1
  subst e1z
  refine ev_istore_1 dX9_setup_29 rfl rfl ?_
  refine ev_aload_0 dX9_setup_30 ?_
  refine gf_X9_14 dX9_setup_31 hb.1 rfl ?_
  refine ev_iconst_0 dX9_setup_34 ?_
  refine pf_X9_91 dX9_setup_35 hb.2.1.1 rfl ?_
  have fr1 : frT2 σ (mu σ1.1 1 1 0, σ1.2) := fun k a b => ⟨(mu_ne _ a).trans ((f0.tr f1) k (by omega) (by omega) (by omega)).1, ((f0.tr f1) k (by omega) (by omega) (by omega)).2⟩
  have qz : posQ σ1 23 (posT g T tl).2 (fun _ => 0) (g 53) (g 54) 0 0 := q1
  have Pz : posR σ1 23 (emG g (posT g T tl).2) := qz.toR (fun q hq => em_sq hq) (fun i hi => em_0 (by omega) (by omega)) (em_hi 53 (by decide)).symm (em_hi 54 (by decide)).symm rfl
  have Rz : ritR σ1 23 (emG g (posT g T tl).2) := qz.toRit (fun k hk => by
    rw [b_0]
    refine (decide_eq_false (fun z => ?_)).symm
    have er : riN (emG g (posT g T tl).2) k = 0 := cl_z (em_0 (by omega) (by omega))
    omega)
  have P1 := posR_lo Pz Rz (σ' := (mu σ1.1 1 1 0, σ1.2)) (fun j hj => mu_ne _ (by omega)) rfl
  refine ev_iload_1 dX9_setup_38 ?_
  refine ev_if_lt (tgt := 47) dX9_setup_39 (by decide) (fun h39 => ?_) (fun h39 => absurd hw h39)
  refine ev_aload_0 dX9_setup_47 ?_
  refine gf_X9_47 dX9_setup_48 hb.1 rfl ?_
  refine ev_aload_0 dX9_setup_51 ?_
  refine gf_X9_51 dX9_setup_52 hb.1 rfl ?_
  refine cg_X9_158 (c_copyR hb.2.2.2.2.2.2.1 hb.2.2.2.2.2.2.2.1 (by omega) P1.1 P1.2) hb.2.2.2.2.2.2.1.1 dX9_setup_55 rfl (Nat.le_of_ble_eq_true rfl) (fun σ2 h2 => ?_)
  obtain ⟨P2, R2, f2⟩ := h2
  have L2 : lawR σ2 5 g := lawR_lo hL (fun j hj => (f2 _ (by omega) (by omega) (by omega)).1.trans (fr1 _ (by omega) (by omega)).1)
  refine ev_aload_0 dX9_setup_58 ?_
  refine gf_X9_47 dX9_setup_59 hb.1 rfl ?_
  refine ev_aload_0 dX9_setup_62 ?_
  refine gf_X9_24 dX9_setup_63 hb.1 rfl ?_
  refine cl_X9_162 (c_castlings hb.2.2.2.1) hb.2.2.2.1.1 dX9_setup_66 rfl (Nat.le_of_ble_eq_true rfl) ?_
  refine pf_X9_165 dX9_setup_69 hb.2.2.2.2.2.2.1.1 rfl ?_
  have P3 : posR (mu σ2.1 20 5 (maskF (fun k => decide (¬ σ2.1 (5 + 8) k < 0)) 4), σ2.2) 20 (setS g (posT g T tl).2) ∧ ritR (mu σ2.1 20 5 (maskF (fun k => decide (¬ σ2.1 (5 + 8) k < 0)) 4), σ2.2) 20 (setS g (posT g T tl).2) := ⟨posR_lx (fun i hi h2 => sup_ne h2) P2.rt, fun k hk => by
    have e : (mu σ2.1 20 5 (maskF (fun k => decide (¬ σ2.1 (5 + 8) k < 0)) 4), σ2.2).1 20 5 = maskF (fun k => decide (¬ σ2.1 (5 + 8) k < 0)) 4 := by simp [mu, upd]
    rw [e, cas_eq hW L2, bt_mask _ 4 (by decide) k hk]
    by_cases h4 : k < 4
    · rw [sup_rN h4]; simp [h4]
    · simp [h4]⟩
  have hst := setR_beg (σ := (mu σ1.1 1 1 0, σ1.2)) P3 (lawR_hi (fun i h1 _ _ => sup_hi i (by omega)) (lawR_lo L2 (σ' := (mu σ2.1 20 5 (maskF (fun k => decide (¬ σ2.1 (5 + 8) k < 0)) 4), σ2.2)) (fun j hj => mu_ne _ (by omega)))) (fun k a b => ⟨(mu_ne _ (by omega)).trans (f2 k (by omega) (by omega) (by omega)).1, (f2 k (by omega) (by omega) (by omega)).2⟩)
  refine ev_aload_0 dX9_setup_72 ?_
  refine cl_X9_84 (c_beginG hb (sup_wfP hG hW (posT_ok hG)) P3.1 P3.2) hb.1 dX9_setup_73 rfl (Nat.le_of_ble_eq_true rfl) ?_
  refine ev_aload_0 dX9_setup_76 ?_
  refine gf_X9_47 dX9_setup_77 hb.1 rfl ?_
  refine cl_X9_168 (c_menOnBoard hb.2.2.2.2.2.2.1) hb.2.2.2.2.2.2.1.1 dX9_setup_80 rfl (Nat.le_of_ble_eq_true rfl) ?_
  exact ev_pi dX9_setup_83 ⟨men_eq hst.1.1, _, fr1, by simp [mu, upd], hst⟩
