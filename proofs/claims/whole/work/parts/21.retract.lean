theorem posQ.toR {σ : mSt} {p : Nat} {g : Nat → Int32} {M Hd : Nat → Nat} {C R T RI : Int32} (h : posQ σ p M Hd C R T RI) (h1 : ∀ q, q < 36 → g (1 + q) = nI (M q)) (h2 : ∀ i, i < 12 → g (37 + i) = nI (Hd i)) (h3 : C = g 53) (h4 : R = g 54) (h5 : T = g 0) : posR σ p g := by
  obtain ⟨a1, a2, a3, a4, a5, a6, a7, a8⟩ := h
  have e : ∀ q, q < 36 → mN g q = M q := fun q hq => clN_nI (h1 q hq) (by have := (a1 q hq).2; omega)
  refine ⟨fun q hq => (a1 q hq).1.trans (h1 q hq).symm, fun i hi => (a2 i hi).trans (h2 i hi).symm, a3.trans h3, a4.trans h4, a5.trans h5, trivial, fun q hq => ?_, fun q hq => ?_⟩
  · rw [a7 q hq]; unfold isOfG sdN
    rw [decide_eq_decide]
    constructor
    · rintro ⟨b1, b2, b3⟩; rw [e q b1]; exact ⟨b1, b2, if_neg (by omega)⟩
    · rintro ⟨b1, b2, b3⟩; rw [e q b1] at b2 b3; refine ⟨b1, b2, ?_⟩; by_cases z : 6 < M q
      · rw [if_pos z] at b3; omega
      · omega
  · rw [a8 q hq]; unfold isOfG sdN
    rw [decide_eq_decide]
    constructor
    · rintro ⟨b1, b2⟩; rw [e q b1]; exact ⟨b1, by omega, if_pos (by omega)⟩
    · rintro ⟨b1, b2, b3⟩; rw [e q b1] at b2 b3; refine ⟨b1, ?_⟩; by_cases z : 6 < M q
      · omega
      · rw [if_neg z] at b3; omega
theorem posQ.toRit {σ : mSt} {p : Nat} {g : Nat → Int32} {M Hd : Nat → Nat} {C R T RI : Int32} (h : posQ σ p M Hd C R T RI) (hb : ∀ k, k < 32 → bt RI k = decide (k < 4 ∧ riN g k = 1)) : ritR σ p g := fun k hk => by rw [h.2.2.2.2.2.1]; exact hb k hk
theorem posQ.back {σ : mSt} {p : Nat} {g : Nat → Int32} (hG : wfP g) (h : posQ σ p (mN g) (hN g) (g 53) (g 54) (nI (tuN g)) (nI (rmN g))) : posR σ p g ∧ ritR σ p g :=
  ⟨h.toR (fun q hq => (hG.2.2.1 q hq).1) (fun i hi => (hG.2.2.2.1 i hi).1) rfl rfl hG.2.2.2.2.2.1.symm, h.toRit (fun k hk => rm_bt hG hk)⟩
theorem un_lt {g : Nat → Int32} (hG : wfP g) (hW : wfL g) {m : Nat} (hm : mvOk g m) : unG g m % 16 = goerN g m ∧ unG g m / 16 % 16 = capN g m ∧ unG g m / 256 % 2 = (if gainB g m then 1 else 0) ∧ unG g m / 512 = rmN g ∧ unG g m < 8192 := by
  have g1 := goer_le hG hW hm
  have g2 := cap_le hG hm
  have g3 := rm_le hG
  unfold unG
  split <;> omega
theorem back_cast {g : Nat → Int32} {m : Nat} (h : mK m = 1) (h1 : caN g (mA m) 2 ≠ caN g (mA m) 4) (h2 : caN g (mA m) 3 ≠ caN g (mA m) 5) (h3 : mN g (caN g (mA m) 3) = 0 ∨ caN g (mA m) 3 = caN g (mA m) 2 ∨ caN g (mA m) 3 = caN g (mA m) 4) (h4 : mN g (caN g (mA m) 5) = 0 ∨ caN g (mA m) 5 = caN g (mA m) 2 ∨ caN g (mA m) 5 = caN g (mA m) 4) :
    updN (updN (updN (updN (sqP g m) (caN g (mA m) (2 + 1)) 0) (caN g (mA m) (4 + 1)) 0) (caN g (mA m) (2 + 0)) (sqP g m (caN g (mA m) (2 + 1)))) (caN g (mA m) (4 + 0)) (sqP g m (caN g (mA m) (4 + 1))) = mN g := by
  have e3 : sqP g m (caN g (mA m) 3) = mN g (caN g (mA m) 2) := by simp [sqP, h, h2]
  have e5 : sqP g m (caN g (mA m) 5) = mN g (caN g (mA m) 4) := by simp [sqP, h]
  funext x
  show updN (updN (updN (updN (sqP g m) (caN g (mA m) 3) 0) (caN g (mA m) 5) 0) (caN g (mA m) 2) (sqP g m (caN g (mA m) 3))) (caN g (mA m) 4) (sqP g m (caN g (mA m) 5)) x = mN g x
  rw [e3, e5]
  unfold updN
  by_cases x4 : x = caN g (mA m) 4
  · rw [if_pos x4, x4]
  · rw [if_neg x4]
    by_cases x2 : x = caN g (mA m) 2
    · rw [if_pos x2, x2]
    · rw [if_neg x2]
      by_cases x5 : x = caN g (mA m) 5
      · rw [if_pos x5, x5]
        rcases h4 with z | z | z
        · exact z.symm
        · exact absurd (x5.trans z) x2
        · exact absurd (x5.trans z) x4
      · rw [if_neg x5]
        by_cases x3 : x = caN g (mA m) 3
        · rw [if_pos x3, x3]
          rcases h3 with z | z | z
          · exact z.symm
          · exact absurd (x3.trans z) x2
          · exact absurd (x3.trans z) x4
        · rw [if_neg x3]
          simp [sqP, h, x2, x3, x4, x5]
theorem back_man {g : Nat → Int32} {m : Nat} (h : mK m = 0) : updN (updN (sqP g m) (mA m) (goerN g m)) (mB m) (capN g m) = mN g := by
  funext x
  unfold updN
  by_cases h1 : x = mB m
  · simp [h1, capN, h]
  · by_cases h2 : x = mA m
    · rw [if_neg h1, if_pos h2, goer_0 h, h2]
    · simp [sqP, h, h1, h2]
theorem back_drop {g : Nat → Int32} {m : Nat} (h : mK m = 2) (h0 : mN g (mB m) = 0) : updN (sqP g m) (mB m) 0 = mN g := by
  funext x
  unfold updN
  by_cases h1 : x = mB m
  · rw [if_pos h1, h1, h0]
  · simp [sqP, h, h1]

theorem hb_drop {g : Nat → Int32} {m : Nat} (h : mK m = 2) (h1 : 1 ≤ hN g (6 * tuN g + mA m)) : updN (hdP g m) (6 * tuN g + mA m) (hdP g m (6 * tuN g + mA m) + 1) = hN g := by
  rw [← hd_drop h]
  funext i
  unfold updN
  by_cases e : i = 6 * tuN g + mA m
  · rw [if_pos e, if_pos rfl, e]; omega
  · rw [if_neg e, if_neg e]
theorem hb_man {g : Nat → Int32} {m : Nat} (h : mK m = 0) (h2 : gainB g m = true) : updN (hdP g m) (6 * tuN g + tyN (capN g m)) (hN g (6 * tuN g + tyN (capN g m))) = hN g := by
  rw [← hd_yes h h2]
  funext i
  unfold updN
  by_cases e : i = 6 * tuN g + tyN (capN g m)
  · rw [if_pos e, e]
  · rw [if_neg e, if_neg e]
set_option maxRecDepth 100000 in
set_option maxHeartbeats 4000000 in
theorem c_retract {ae ad : Nat → Nat} {sh : mSh} {σ : mSt} {y0 l p : Nat} {g : Nat → Int32} (hy : mPlay ad sh y0 l) (hp : mPos ad sh p) (hs : sepL l p) (hG : wfP g) (hW : wfL g) {m : Nat} (hm : mvOk g m) {RI : Int32} (hQ : posQ σ p (sqP g m) (hdP g m) (g 53) (g 54) (nI (1 - tuN g)) RI) (hL : lawR σ l g) : Ct yX5_retract cX5_retract 7 none 3 0 0 [.ref (ad y0), .ref (ad p), .int (nI m), .int (nI (unG g m))] ae ad sh σ (mPv ad sh (fun σ' => (posR σ' p g ∧ ritR σ' p g) ∧ frP σ σ' p)) := by
  refine Ct.ofL (own := RX5) (ini := false) (ls := [some (.ref (ad y0)), some (.ref (ad p)), some (.int (nI m)), some (.int (nI (unG g m))), none, none, none]) (by decide +kernel) rfl (fun h => by cases h) (Nat.le_of_ble_eq_true rfl) rfl ?_
  have hlt := mvOk_lt hm
  have g1 := goer_le hG hW hm
  have g2 := cap_le hG hm
  have g3 := rm_le hG
  have htu := tu_le hG
  obtain ⟨u1, u2, u3, u4, u5⟩ := un_lt hG hW hm
  refine ev_iconst_1 dX5_retract_0 ?_
  refine ev_aload_1 dX5_retract_1 ?_
  refine gf_X5_131 dX5_retract_2 hp.1 rfl ?_
  rw [hQ.2.2.2.2.1]
  refine ev_isub dX5_retract_5 ?_
  rw [lI1, nI_sub (by omega), show 1 - (1 - tuN g) = tuN g by omega]
  refine ev_istore_4 dX5_retract_6 rfl rfl ?_
  refine ev_iload_3 dX5_retract_8 ?_
  refine ev_bipush_15 dX5_retract_9 ?_
  refine ev_iand dX5_retract_11 ?_
  rw [show (15 : Int32) = nI (2 ^ 4 - 1) from rfl, fa_mask, show unG g m % 2 ^ 4 = goerN g m from u1]
  refine ev_istore_5 dX5_retract_12 rfl rfl ?_
  refine ev_iload_3 dX5_retract_14 ?_
  refine ev_iconst_4 dX5_retract_15 ?_
  refine ev_ishr dX5_retract_16 ?_
  rw [show (4 : Int32) = nI 4 from rfl, nI_shr (by omega) (by decide)]
  refine ev_bipush_15 dX5_retract_17 ?_
  refine ev_iand dX5_retract_19 ?_
  rw [show (15 : Int32) = nI (2 ^ 4 - 1) from rfl, fa_mask, show unG g m / 2 ^ 4 % 2 ^ 4 = capN g m from u2]
  refine ev_istore_6 dX5_retract_20 rfl rfl ?_
  refine ev_aload_1 dX5_retract_22 ?_
  refine ev_iload_4 dX5_retract_23 ?_
  refine pf_X5_131 dX5_retract_25 hp.1 rfl ?_
  refine ev_aload_1 dX5_retract_28 ?_
  refine ev_iload_3 dX5_retract_29 ?_
  refine ev_bipush_9 dX5_retract_30 ?_
  refine ev_ishr dX5_retract_32 ?_
  rw [show (9 : Int32) = nI 9 from rfl, nI_shr (by omega) (by decide), show unG g m / 2 ^ 9 = rmN g from u4]
  refine pf_X5_155 dX5_retract_33 hp.1 rfl ?_
  obtain ⟨σ1, e1⟩ : ∃ s : mSt, s = (mu (mu σ.1 p 4 (nI (tuN g))) p 5 (nI (rmN g)), σ.2) := ⟨_, rfl⟩
  rw [← e1]
  have Q1 : posQ σ1 p (sqP g m) (hdP g m) (g 53) (g 54) (nI (tuN g)) (nI (rmN g)) := by rw [e1]; exact (hQ.turn).rights
  have F1 : frP σ σ1 p := by rw [e1]; exact frP.fld.tr (frP.fld (σ := (mu σ.1 p 4 (nI (tuN g)), σ.2)))
  have L1 : lawR σ1 l g := hL.fr F1 hs
  refine ev_iload_2 dX5_retract_36 ?_
  refine cl_X5_121 c_kindOf dX5_retract_37 rfl (Nat.le_of_ble_eq_true rfl) ?_
  rw [kiR_nI (by omega)]
  refine ev_iconst_1 dX5_retract_40 ?_
  refine ev_icmp_ne (tgt := 58) dX5_retract_41 (by decide) (fun h41 => ?_) (fun h41 => ?_)
  · refine ev_iload_2 dX5_retract_58 ?_
    refine cl_X5_121 c_kindOf dX5_retract_59 rfl (Nat.le_of_ble_eq_true rfl) ?_
    rw [kiR_nI (by omega)]
    refine ev_if_ne (tgt := 109) dX5_retract_62 (by decide) (fun h62 => ?_) (fun h62 => ?_)
    · have k0 : ¬ mK m = 0 := fun q => h62 (by rw [q]; rfl)
      have k1 : ¬ mK m = 1 := fun q => h41 (by rw [q]; rfl)
      have hk2 : mK m = 2 := by have := mK_le hm; omega
      have hb := sq_lt hG hm (by omega)
      have ht6 : mA m < 6 ∧ 1 ≤ hN g (6 * tuN g + mA m) ∧ mN g (mB m) = 0 := ⟨(mv2 hm hk2).1, (mv2 hm hk2).2.2.2, (mv2 hm hk2).2.2.1⟩
      have hgo : goerN g m = 1 + mA m + 6 * tuN g := by unfold goerN; rw [if_neg (by omega), if_neg (by omega)]
      have hty : tyN (goerN g m) = mA m := by rw [hgo]; unfold tyN; split <;> omega
      have hi12 : 6 * tuN g + mA m < 12 := by omega
      refine ev_aload_1 dX5_retract_109 ?_
      refine ev_iload_2 dX5_retract_110 ?_
      refine cl_X5_148 c_secondOf dX5_retract_111 rfl (Nat.le_of_ble_eq_true rfl) ?_
      rw [seR_nI]
      refine ev_iconst_0 dX5_retract_114 ?_
      refine cl_X5_171 (c_put hp) hp.1 dX5_retract_115 rfl (Nat.le_of_ble_eq_true rfl) ?_
      refine ev_aload_1 dX5_retract_118 ?_
      refine ev_iload_4 dX5_retract_119 ?_
      refine ev_iload_5 dX5_retract_121 ?_
      refine cl_X5_47 c_typeOf dX5_retract_123 rfl (Nat.le_of_ble_eq_true rfl) ?_
      rw [tyR_nI g1.1 (by omega), hty]
      refine ev_iconst_1 dX5_retract_126 ?_
      refine cl_X5_181 (c_addToHand hp) hp.1 dX5_retract_127 rfl (Nat.le_of_ble_eq_true rfl) ?_
      have k2 := hk2
      have e : ∀ σ2 : mSt, posQ σ2 p (updN (sqP g m) (mB m) 0) (hdP g m) (g 53) (g 54) (nI (tuN g)) (nI (rmN g)) → (mr σ2.1 (p + 2) (setV (σ2.1 (p + 2)) 12 (nI (tuN g) * 6 + nI (mA m)) (cellV (σ2.1 (p + 2)) 12 (nI (tuN g) * 6 + nI (mA m)) + 1)), σ2.2) = (mr σ2.1 (p + 2) (upd (σ2.1 (p + 2)) (6 * tuN g + mA m) (nI (hdP g m (6 * tuN g + mA m) + 1))), σ2.2) := fun σ2 q2 => by
        rw [lI6, nI_mul, nI_add, show tuN g * 6 + mA m = 6 * tuN g + mA m by omega, setV_nI (by omega) hi12, cellV_nI (by omega) hi12, q2.2.1 _ hi12, nI_1]
      refine Ev.to rfl rfl (e _ (Q1.put hb (Nat.zero_le _))) ?_
      refine ev_pv dX5_retract_130 ⟨(((Q1.put hb (Nat.zero_le _)).hand hi12).cong (back_drop k2 ht6.2.2) (hb_drop k2 ht6.2.1)).back hG, (F1.tr frP.put).tr frP.hnd⟩
    · have hk : mK m = 0 := (nI_eq (b := 0) (by unfold mK; omega) (by decide)).mp (by first | exact h62 | exact Decidable.not_not.mp h62)
      have hb := sq_lt hG hm (by omega)
      have ha := sa_lt hG hm hk
      refine ev_aload_1 dX5_retract_65 ?_
      refine ev_iload_2 dX5_retract_66 ?_
      refine cl_X5_124 c_firstOf dX5_retract_67 rfl (Nat.le_of_ble_eq_true rfl) ?_
      rw [fiR_nI (by omega)]
      refine ev_iload_5 dX5_retract_70 ?_
      refine cl_X5_171 (c_put hp) hp.1 dX5_retract_72 rfl (Nat.le_of_ble_eq_true rfl) ?_
      refine ev_aload_1 dX5_retract_75 ?_
      refine ev_iload_2 dX5_retract_76 ?_
      refine cl_X5_148 c_secondOf dX5_retract_77 rfl (Nat.le_of_ble_eq_true rfl) ?_
      rw [seR_nI]
      refine ev_iload_6 dX5_retract_80 ?_
      refine cl_X5_171 (c_put hp) hp.1 dX5_retract_82 rfl (Nat.le_of_ble_eq_true rfl) ?_
      refine ev_iload_3 dX5_retract_85 ?_
      refine ev_bipush_8 dX5_retract_86 ?_
      refine ev_ishr dX5_retract_88 ?_
      rw [show (8 : Int32) = nI 8 from rfl, nI_shr (by omega) (by decide)]
      refine ev_iconst_1 dX5_retract_89 ?_
      refine ev_iand dX5_retract_90 ?_
      rw [show (1 : Int32) = nI (2 ^ 1 - 1) from rfl, fa_mask, show unG g m / 2 ^ 8 % 2 ^ 1 = (if gainB g m then 1 else 0) from u3]
      refine ev_if_eq (tgt := 130) dX5_retract_91 (by decide) (fun h91 => ?_) (fun h91 => ?_)
      · have hgf : gainB g m = false := by
          cases hz : gainB g m with
          | false => rfl
          | true => rw [hz] at h91; exact absurd h91 (by decide)
        refine ev_pv dX5_retract_130 ⟨(((Q1.put ha g1.2).put hb g2).cong (back_man hk) (hd_no hk hgf).symm).back hG, (F1.tr frP.put).tr frP.put⟩
      · have hgt : gainB g m = true := ts_nf (fun q => h91 (by rw [q]; rfl))
        have hc0 : ¬ capN g m = 0 := fun q => by unfold gainB at hgt; rw [q] at hgt; exact absurd hgt (by simp)
        have hc1 : 1 ≤ capN g m := Nat.pos_of_ne_zero hc0
        have hct := tyN_lt hc1 g2
        have hi12 : 6 * tuN g + tyN (capN g m) < 12 := by omega
        refine ev_aload_1 dX5_retract_94 ?_
        refine ev_iload_4 dX5_retract_95 ?_
        refine ev_iload_6 dX5_retract_97 ?_
        refine cl_X5_47 c_typeOf dX5_retract_99 rfl (Nat.le_of_ble_eq_true rfl) ?_
        rw [tyR_nI hc1 (by omega)]
        refine ev_iconst_m1 dX5_retract_102 ?_
        refine cl_X5_181 (c_addToHand hp) hp.1 dX5_retract_103 rfl (Nat.le_of_ble_eq_true rfl) ?_
        refine ev_goto (tgt := 130) dX5_retract_106 (by decide) ?_
        have hgt := hgt
        have e : ∀ σ2 : mSt, posQ σ2 p (updN (updN (sqP g m) (mA m) (goerN g m)) (mB m) (capN g m)) (hdP g m) (g 53) (g 54) (nI (tuN g)) (nI (rmN g)) → (mr σ2.1 (p + 2) (setV (σ2.1 (p + 2)) 12 (nI (tuN g) * 6 + nI (tyN (capN g m))) (cellV (σ2.1 (p + 2)) 12 (nI (tuN g) * 6 + nI (tyN (capN g m))) + -1)), σ2.2) = (mr σ2.1 (p + 2) (upd (σ2.1 (p + 2)) (6 * tuN g + tyN (capN g m)) (nI (hN g (6 * tuN g + tyN (capN g m))))), σ2.2) := fun σ2 q2 => by
          rw [lI6, nI_mul, nI_add, show tuN g * 6 + tyN (capN g m) = 6 * tuN g + tyN (capN g m) by omega, setV_nI (by omega) hi12, cellV_nI (by omega) hi12, q2.2.1 _ hi12, show hdP g m (6 * tuN g + tyN (capN g m)) = hN g (6 * tuN g + tyN (capN g m)) + 1 from if_pos ⟨hgt, rfl⟩, nI_m1 (Nat.le_add_left 1 _), Nat.add_sub_cancel]
        refine Ev.to rfl rfl (e _ ((Q1.put ha g1.2).put hb g2)) ?_
        refine ev_pv dX5_retract_130 ⟨((((Q1.put ha g1.2).put hb g2).hand hi12).cong (back_man hk) (hb_man hk hgt)).back hG, ((F1.tr frP.put).tr frP.put).tr frP.hnd⟩
  · have hk1 : mK m = 1 := (nI_eq (b := 1) (by unfold mK; omega) (by decide)).mp (by first | exact h41 | exact Decidable.not_not.mp h41)
    have h4 := mA_4 hm hk1
    have hc : caN g (mA m) 2 ≠ caN g (mA m) 4 ∧ caN g (mA m) 3 ≠ caN g (mA m) 5 ∧ (mN g (caN g (mA m) 3) = 0 ∨ caN g (mA m) 3 = caN g (mA m) 2 ∨ caN g (mA m) 3 = caN g (mA m) 4) ∧ (mN g (caN g (mA m) 5) = 0 ∨ caN g (mA m) 5 = caN g (mA m) 2 ∨ caN g (mA m) 5 = caN g (mA m) 4) := ⟨(mv1 hm hk1).2.2.2.2.1, (mv1 hm hk1).2.2.2.2.2.1, (mv1 hm hk1).2.2.2.2.2.2.1, (mv1 hm hk1).2.2.2.2.2.2.2.1⟩
    refine ev_aload_0 dX5_retract_44 ?_
    refine ev_aload_1 dX5_retract_45 ?_
    refine ev_iload_2 dX5_retract_46 ?_
    refine cl_X5_124 c_firstOf dX5_retract_47 rfl (Nat.le_of_ble_eq_true rfl) ?_
    rw [fiR_nI (by omega)]
    refine ev_iconst_1 dX5_retract_50 ?_
    refine ev_iconst_0 dX5_retract_51 ?_
    refine cl_X5_164 (c_moveTwo (f := 1) (t := 0) hy hp hs hW L1 Q1 h4 (by decide) (by decide)) hy.1 dX5_retract_52 rfl (Nat.le_of_ble_eq_true rfl) ?_
    refine ev_goto (tgt := 130) dX5_retract_55 (by decide) ?_
    have k1 := hk1
    refine ev_pv dX5_retract_130 ⟨((two_Q hW Q1 h4 (by decide) (by decide)).cong (back_cast k1 hc.1 hc.2.1 hc.2.2.1 hc.2.2.2) (hd_cast k1).symm).back hG, F1.tr two_fr⟩
