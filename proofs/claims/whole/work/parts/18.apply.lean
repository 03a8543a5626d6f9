theorem clv_sq {σ : mSt} {l : Nat} {g : Nat → Int32} (hW : wfL g) (hL : lawR σ l g) {k i : Nat} (hk : k < 4) (hi : i < 4) : cellV (σ.1 (l + 9)) 16 (4 * nI k + nI i) = nI (caN g k (2 + i)) := by
  have e : (4 : Int32) * nI k + nI i = nI (4 * k + i) := by rw [show (4 : Int32) = nI 4 from rfl, nI_mul, nI_add]
  rw [e, cellV_nI (by omega) (by omega), hL.2.2.2.2.2.2.2.1 k i hk hi]
  have h := ((hW.2.2.2.2.2.2 k hk).2.1 (2 + i) (by omega) (by omega)).1
  rw [show 186 + 6 * k + i = 184 + 6 * k + (2 + i) by omega]
  exact h
theorem ca_lt {g : Nat → Int32} (hW : wfL g) {k i : Nat} (hk : k < 4) (h1 : 1 ≤ i) (hi : i ≤ 5) : caN g k i < 36 := ((hW.2.2.2.2.2.2 k hk).2.1 i h1 hi).2
theorem tu_le {g : Nat → Int32} (hG : wfP g) : tuN g ≤ 1 := hG.2.2.2.2.2.2
theorem posR.turn {σ : mSt} {p : Nat} {g : Nat → Int32} (hG : wfP g) (hP : posR σ p g) : σ.1 p 4 = nI (tuN g) := hP.2.2.2.2.1.trans hG.2.2.2.2.2.1
theorem manR_nI {s t : Nat} : manR (nI s) (nI t) = nI (1 + t + 6 * s) := by
  unfold manR
  rw [lI1, lI6, nI_add, nI_mul, nI_add]
theorem goer_le {g : Nat → Int32} (hG : wfP g) (hW : wfL g) {m : Nat} (hm : mvOk g m) : 1 ≤ goerN g m ∧ goerN g m ≤ 12 := by
  have h36 := wf_sq hG
  have ht := tu_le hG
  unfold goerN
  rcases hm with ⟨a, b, c, d, e, f⟩ | ⟨a, b, c, d, e⟩ | ⟨a, b, c, d, e⟩
  · rw [if_pos a]; exact ⟨d, wf_m hG (by omega)⟩
  · rw [if_neg (by omega), if_pos a]; exact ⟨d, wf_m hG (ca_lt hW b (by decide) (by decide))⟩
  · rw [if_neg (by omega), if_neg (by omega)]; omega
theorem cap_le {g : Nat → Int32} (hG : wfP g) {m : Nat} (hm : mvOk g m) : capN g m ≤ 12 := by
  have h36 := wf_sq hG
  unfold capN
  rcases hm with ⟨a, b, c, d, e, f⟩ | ⟨a, b, c, d, e⟩ | ⟨a, b, c, d, e⟩
  · rw [if_pos a]; exact wf_m hG (by omega)
  · rw [if_neg (by omega)]; decide
  · rw [if_neg (by omega)]; decide

theorem man_at {σ : mSt} {p : Nat} {g : Nat → Int32} (hG : wfP g) (hP : posR σ p g) {q : Nat} (hq : q < 36) : cellV (σ.1 (p + 1)) 36 (nI q) = nI (mN g q) := by
  rw [cellV_nI (by omega) hq, hP.man hG hq]
set_option maxRecDepth 100000 in
set_option maxHeartbeats 4000000 in
theorem c_goer0 {ae ad : Nat → Nat} {sh : mSh} {σ : mSt} {y0 l p : Nat} {g : Nat → Int32} (hy : mPlay ad sh y0 l) (hp : mPos ad sh p) (hG : wfP g) (hW : wfL g) (hP : posR σ p g) (hL : lawR σ l g) {m : Nat} (hm : mvOk g m) (hk : mK m = 0) : Ct yX5_goer cX5_goer 3 (some .int) 2 0 0 [.ref (ad y0), .ref (ad p), .int (nI m)] ae ad sh σ (mEq (some (.int (nI (goerN g m)))) ad sh σ) := by
  refine Ct.ofL (own := RX5) (ini := false) (ls := [some (.ref (ad y0)), some (.ref (ad p)), some (.int (nI m))]) (by decide +kernel) rfl (fun h => by cases h) (Nat.le_of_ble_eq_true rfl) rfl ?_
  have h36 := wf_sq hG
  have hlt := mvOk_lt hm
  refine ev_iload_2 dX5_goer_0 ?_
  refine cl_X5_121 c_kindOf dX5_goer_1 rfl (Nat.le_of_ble_eq_true rfl) ?_
  rw [kiR_nI (by have := mvOk_lt hm; omega)]
  rw [hk]
  refine ev_lookup (off := 28) (tgt := 32) dX5_goer_4 (by decide) (by decide) (by decide) ?_
  refine ev_aload_1 dX5_goer_32 ?_
  refine ev_iload_2 dX5_goer_33 ?_
  refine cl_X5_124 c_firstOf dX5_goer_34 rfl (Nat.le_of_ble_eq_true rfl) ?_
  rw [fiR_nI (by have := mvOk_lt hm; omega)]
  refine cl_X5_26 (c_manOn hp) hp.1 dX5_goer_37 rfl (Nat.le_of_ble_eq_true rfl) ?_
  rw [man_at hG hP (by have := (mv0 hm hk).1; omega)]
  exact ev_iret dX5_goer_40 (by unfold goerN; simp [hk, Nat.add_comm, Nat.add_left_comm]) rfl
set_option maxRecDepth 100000 in
set_option maxHeartbeats 4000000 in
theorem c_goer1 {ae ad : Nat → Nat} {sh : mSh} {σ : mSt} {y0 l p : Nat} {g : Nat → Int32} (hy : mPlay ad sh y0 l) (hp : mPos ad sh p) (hG : wfP g) (hW : wfL g) (hP : posR σ p g) (hL : lawR σ l g) {m : Nat} (hm : mvOk g m) (hk : mK m = 1) : Ct yX5_goer cX5_goer 3 (some .int) 2 0 0 [.ref (ad y0), .ref (ad p), .int (nI m)] ae ad sh σ (mEq (some (.int (nI (goerN g m)))) ad sh σ) := by
  refine Ct.ofL (own := RX5) (ini := false) (ls := [some (.ref (ad y0)), some (.ref (ad p)), some (.int (nI m))]) (by decide +kernel) rfl (fun h => by cases h) (Nat.le_of_ble_eq_true rfl) rfl ?_
  have h36 := wf_sq hG
  have hlt := mvOk_lt hm
  refine ev_iload_2 dX5_goer_0 ?_
  refine cl_X5_121 c_kindOf dX5_goer_1 rfl (Nat.le_of_ble_eq_true rfl) ?_
  rw [kiR_nI (by have := mvOk_lt hm; omega)]
  rw [hk]
  refine ev_lookup (off := 37) (tgt := 41) dX5_goer_4 (by decide) (by decide) (by decide) ?_
  refine ev_aload_1 dX5_goer_41 ?_
  refine ev_aload_0 dX5_goer_42 ?_
  refine gf_X5_9 dX5_goer_43 hy.1 rfl ?_
  refine ev_iload_2 dX5_goer_46 ?_
  refine cl_X5_124 c_firstOf dX5_goer_47 rfl (Nat.le_of_ble_eq_true rfl) ?_
  rw [fiR_nI (by have := mvOk_lt hm; omega)]
  refine ev_iconst_0 dX5_goer_50 ?_
  refine cl_X5_127 (c_castlingSquare hy.2) hy.2.1 dX5_goer_51 rfl (Nat.le_of_ble_eq_true rfl) ?_
  rw [show (0 : Int32) = nI 0 from rfl, clv_sq hW hL (mv1 hm hk).1 (by decide)]
  refine cl_X5_26 (c_manOn hp) hp.1 dX5_goer_54 rfl (Nat.le_of_ble_eq_true rfl) ?_
  rw [man_at hG hP (ca_lt hW (mv1 hm hk).1 (by decide) (by decide))]
  exact ev_iret dX5_goer_57 (by unfold goerN; simp [hk, Nat.add_comm, Nat.add_left_comm]) rfl
set_option maxRecDepth 100000 in
set_option maxHeartbeats 4000000 in
theorem c_goer2 {ae ad : Nat → Nat} {sh : mSh} {σ : mSt} {y0 l p : Nat} {g : Nat → Int32} (hy : mPlay ad sh y0 l) (hp : mPos ad sh p) (hG : wfP g) (hW : wfL g) (hP : posR σ p g) (hL : lawR σ l g) {m : Nat} (hm : mvOk g m) (hk : mK m = 2) : Ct yX5_goer cX5_goer 3 (some .int) 2 0 0 [.ref (ad y0), .ref (ad p), .int (nI m)] ae ad sh σ (mEq (some (.int (nI (goerN g m)))) ad sh σ) := by
  refine Ct.ofL (own := RX5) (ini := false) (ls := [some (.ref (ad y0)), some (.ref (ad p)), some (.int (nI m))]) (by decide +kernel) rfl (fun h => by cases h) (Nat.le_of_ble_eq_true rfl) rfl ?_
  have h36 := wf_sq hG
  have hlt := mvOk_lt hm
  refine ev_iload_2 dX5_goer_0 ?_
  refine cl_X5_121 c_kindOf dX5_goer_1 rfl (Nat.le_of_ble_eq_true rfl) ?_
  rw [kiR_nI (by have := mvOk_lt hm; omega)]
  rw [hk]
  refine ev_lookup (off := 54) (tgt := 58) dX5_goer_4 (by decide) (by decide) (by decide) ?_
  refine ev_aload_1 dX5_goer_58 ?_
  refine gf_X5_131 dX5_goer_59 hp.1 rfl ?_
  rw [hP.turn hG]
  refine ev_iload_2 dX5_goer_62 ?_
  refine cl_X5_124 c_firstOf dX5_goer_63 rfl (Nat.le_of_ble_eq_true rfl) ?_
  rw [fiR_nI (by have := mvOk_lt hm; omega)]
  refine cl_X5_134 c_manOf dX5_goer_66 rfl (Nat.le_of_ble_eq_true rfl) ?_
  rw [manR_nI]
  exact ev_iret dX5_goer_69 (by unfold goerN; simp [hk, Nat.add_comm, Nat.add_left_comm]) rfl
theorem mK_le {g : Nat → Int32} {m : Nat} (hm : mvOk g m) : mK m = 0 ∨ mK m = 1 ∨ mK m = 2 := by
  rcases hm with h | h | h
  · exact Or.inl h.1
  · exact Or.inr (Or.inl h.1)
  · exact Or.inr (Or.inr h.1)
theorem c_goer {ae ad : Nat → Nat} {sh : mSh} {σ : mSt} {y0 l p : Nat} {g : Nat → Int32} (hy : mPlay ad sh y0 l) (hp : mPos ad sh p) (hG : wfP g) (hW : wfL g) (hP : posR σ p g) (hL : lawR σ l g) {m : Nat} (hm : mvOk g m) : Ct yX5_goer cX5_goer 3 (some .int) 2 0 0 [.ref (ad y0), .ref (ad p), .int (nI m)] ae ad sh σ (mEq (some (.int (nI (goerN g m)))) ad sh σ) := by
  rcases mK_le hm with h | h | h
  · exact c_goer0 hy hp hG hW hP hL hm h
  · exact c_goer1 hy hp hG hW hP hL hm h
  · exact c_goer2 hy hp hG hW hP hL hm h
set_option maxRecDepth 100000 in
set_option maxHeartbeats 4000000 in
theorem c_captured {ae ad : Nat → Nat} {sh : mSh} {σ : mSt} {y0 l p : Nat} {g : Nat → Int32} (hy : mPlay ad sh y0 l) (hp : mPos ad sh p) (hG : wfP g) (hW : wfL g) (hP : posR σ p g) (hL : lawR σ l g) {m : Nat} (hm : mvOk g m) : Ct yX5_captured cX5_captured 3 (some .int) 1 0 0 [.ref (ad y0), .ref (ad p), .int (nI m)] ae ad sh σ (mEq (some (.int (nI (capN g m)))) ad sh σ) := by
  refine Ct.ofL (own := RX5) (ini := false) (ls := [some (.ref (ad y0)), some (.ref (ad p)), some (.int (nI m))]) (by decide +kernel) rfl (fun h => by cases h) (Nat.le_of_ble_eq_true rfl) rfl ?_
  have h36 := wf_sq hG
  have hlt := mvOk_lt hm
  have hK4 := mK_le hm
  refine ev_iload_2 dX5_captured_0 ?_
  refine cl_X5_121 c_kindOf dX5_captured_1 rfl (Nat.le_of_ble_eq_true rfl) ?_
  rw [kiR_nI (by have := mvOk_lt hm; omega)]
  refine ev_if_ne (tgt := 18) dX5_captured_4 (by decide) (fun h4 => ?_) (fun h4 => ?_)
  · refine ev_iconst_0 dX5_captured_18 ?_
    exact ev_iret dX5_captured_19 (by first | (rw [capN, if_pos ((nI_eq (b := 0) (by unfold mK; omega) (by decide)).mp h4)]) | (rw [capN, if_pos ((nI_eq (b := 0) (by unfold mK; omega) (by decide)).mp (Decidable.not_not.mp h4))]) | (rw [capN, if_neg (fun e => h4 (by rw [e]; rfl))]; rfl)) rfl
  · have e : mK m = 0 := (nI_eq (b := 0) (by unfold mK; omega) (by decide)).mp (by first | exact h4 | exact Decidable.not_not.mp h4)
    refine ev_aload_1 dX5_captured_7 ?_
    refine ev_iload_2 dX5_captured_8 ?_
    refine cl_X5_148 c_secondOf dX5_captured_9 rfl (Nat.le_of_ble_eq_true rfl) ?_
    rw [seR_nI]
    refine cl_X5_26 (c_manOn hp) hp.1 dX5_captured_12 rfl (Nat.le_of_ble_eq_true rfl) ?_
    rw [man_at hG hP (by have := (mv0 hm e).2.1; omega)]
    refine ev_goto (tgt := 19) dX5_captured_15 (by decide) ?_
    exact ev_iret dX5_captured_19 (by first | (rw [capN, if_pos ((nI_eq (b := 0) (by unfold mK; omega) (by decide)).mp h4)]) | (rw [capN, if_pos ((nI_eq (b := 0) (by unfold mK; omega) (by decide)).mp (Decidable.not_not.mp h4))]) | (rw [capN, if_neg (fun e => h4 (by rw [e]; rfl))]; rfl)) rfl
theorem pro_nI {σ : mSt} {l : Nat} {g : Nat → Int32} (hW : wfL g) (hL : lawR σ l g) {t : Nat} (ht : t < 6) : (if isTy (nI t) then cellV (σ.1 (l + 7)) 6 (nI t) else -1) = nI (proN g t) - 1 ∧ proN g t ≤ 6 := by
  have e : isTy (nI t) = true := decide_eq_true ⟨nI_pos (by omega), by rw [lI6]; exact nI_ge ht (by decide)⟩
  rw [if_pos e, cellV_nI (by omega) ht, hL.2.2.2.2.2.1 t ht, (hW.2.2.2.1 t ht).1]
  exact ⟨rfl, (hW.2.2.2.1 t ht).2⟩
theorem pm1 {n : Nat} (hn : n ≤ 6) : nI n - 1 < 0 ↔ n = 0 := by
  have h : ∀ n, n ≤ 6 → (nI n - 1 < 0 ↔ n = 0) := by decide +kernel
  exact h n hn
theorem far_nI {σ : mSt} {p : Nat} {g : Nat → Int32} (hG : wfP g) (hP : posR σ p g) {s q : Nat} (hs : s ≤ 1) (hq : q < 36) : decide ((if σ.1 p 2 ≤ 0 then 0 else nI q / σ.1 p 2) = if nI s = 0 then σ.1 p 3 - 1 else 0) = farG g s q := by
  have c2 := hG.1.2.1
  have c6 := hG.1.2.2
  have r2 := hG.2.1.2.1
  have r6 := hG.2.1.2.2
  rw [hP.2.2.1, hP.2.2.2.1, hG.1.1, hG.2.1.1, if_neg (nI_nle (by omega) (by omega)), pk_div (by omega) (by omega) (by omega), lI1, nI_sub (by omega)]
  unfold farG
  rw [decide_eq_decide]
  have hd : q / cN g < 2 ^ 31 := Nat.lt_of_le_of_lt (Nat.div_le_self q (cN g)) (by omega)
  rcases (show s = 0 ∨ s = 1 by omega) with rfl | rfl
  · rw [if_pos (show nI 0 = 0 from rfl), if_pos rfl]
    exact nI_eq hd (by omega)
  · rw [if_neg (by decide), if_neg (by decide)]
    exact nI_eq (b := 0) hd (by decide)
set_option maxRecDepth 100000 in
set_option maxHeartbeats 4000000 in
theorem c_promotes {ae ad : Nat → Nat} {sh : mSh} {σ : mSt} {y0 l p : Nat} {g : Nat → Int32} (hy : mPlay ad sh y0 l) (hp : mPos ad sh p) (hG : wfP g) (hW : wfL g) (hP : posR σ p g) (hL : lawR σ l g) {m : Nat} (hm : mvOk g m) : Ct yX5_promotes cX5_promotes 4 (some .boolean) 2 0 0 [.ref (ad y0), .ref (ad p), .int (nI m)] ae ad sh σ (mEq (some (.int (b2i (proB g m)))) ad sh σ) := by
  refine Ct.ofL (own := RX5) (ini := false) (ls := [some (.ref (ad y0)), some (.ref (ad p)), some (.int (nI m)), none]) (by decide +kernel) rfl (fun h => by cases h) (Nat.le_of_ble_eq_true rfl) rfl ?_
  have h36 := wf_sq hG
  have hlt := mvOk_lt hm
  have hK4 := mK_le hm
  refine ev_iload_2 dX5_promotes_0 ?_
  refine cl_X5_121 c_kindOf dX5_promotes_1 rfl (Nat.le_of_ble_eq_true rfl) ?_
  rw [kiR_nI (by have := mvOk_lt hm; omega)]
  refine ev_if_eq (tgt := 9) dX5_promotes_4 (by decide) (fun h4 => ?_) (fun h4 => ?_)
  · have e : mK m = 0 := (nI_eq (b := 0) (by unfold mK; omega) (by decide)).mp (by first | exact h4 | exact Decidable.not_not.mp h4)
    obtain ⟨q1, q2, q3, q4⟩ : mA m < 36 ∧ mB m < 36 ∧ 1 ≤ mN g (mA m) ∧ mN g (mA m) ≤ 12 := by
      have h9 := mv0 hm e
      have hA : mA m < 36 := by have := h9.1; omega
      exact ⟨hA, by have := h9.2.1; omega, h9.2.2.1, wf_m hG hA⟩
    have ht := tyN_lt q3 q4
    have hp7 := (pro_nI hW hL ht).2
    refine ev_aload_1 dX5_promotes_9 ?_
    refine ev_iload_2 dX5_promotes_10 ?_
    refine cl_X5_124 c_firstOf dX5_promotes_11 rfl (Nat.le_of_ble_eq_true rfl) ?_
    rw [fiR_nI (by have := mvOk_lt hm; omega)]
    refine cl_X5_26 (c_manOn hp) hp.1 dX5_promotes_14 rfl (Nat.le_of_ble_eq_true rfl) ?_
    rw [man_at hG hP q1]
    refine ev_istore_3 dX5_promotes_17 rfl rfl ?_
    refine ev_aload_0 dX5_promotes_18 ?_
    refine gf_X5_9 dX5_promotes_19 hy.1 rfl ?_
    refine ev_iload_3 dX5_promotes_22 ?_
    refine cl_X5_47 c_typeOf dX5_promotes_23 rfl (Nat.le_of_ble_eq_true rfl) ?_
    rw [tyR_nI q3 (by omega)]
    refine cl_X5_145 (c_promotionOf hy.2) hy.2.1 dX5_promotes_26 rfl (Nat.le_of_ble_eq_true rfl) ?_
    rw [(pro_nI hW hL ht).1]
    refine ev_if_lt (tgt := 51) dX5_promotes_29 (by decide) (fun h29 => ?_) (fun h29 => ?_)
    · refine ev_iconst_0 dX5_promotes_51 ?_
      exact ev_zret (b2i_nar _) dX5_promotes_52 (by
        unfold proB
        first
        | (rw [decide_eq_false (fun q => h4 (by rw [q]; rfl))]; rfl)
        | (rw [decide_eq_true e, decide_eq_false (fun q => absurd ((pm1 hp7).mp h29) (by omega))]; rfl)
        | (rw [decide_eq_true e, decide_eq_true (show 1 ≤ proN g (tyN (mN g (mA m))) from Nat.pos_of_ne_zero (fun q => h29 ((pm1 hp7).mpr q))), b2i_t h44]; rfl)
        | (rw [decide_eq_true e, (b2i_0 _).mp h44, Bool.and_false, Bool.and_false]; rfl)) rfl
    · refine ev_aload_1 dX5_promotes_32 ?_
      refine ev_iload_3 dX5_promotes_33 ?_
      refine cl_X5_30 c_sideOf dX5_promotes_34 rfl (Nat.le_of_ble_eq_true rfl) ?_
      rw [sdR_nI (by omega)]
      refine ev_iload_2 dX5_promotes_37 ?_
      refine cl_X5_148 c_secondOf dX5_promotes_38 rfl (Nat.le_of_ble_eq_true rfl) ?_
      rw [seR_nI]
      refine cl_X5_151 (c_isFarRow hp) hp.1 dX5_promotes_41 rfl (Nat.le_of_ble_eq_true rfl) ?_
      rw [far_nI hG hP (by unfold sdN; split <;> decide) q2]
      refine ev_if_eq (tgt := 51) dX5_promotes_44 (by decide) (fun h44 => ?_) (fun h44 => ?_)
      · refine ev_iconst_0 dX5_promotes_51 ?_
        exact ev_zret (b2i_nar _) dX5_promotes_52 (by
          unfold proB
          first
          | (rw [decide_eq_false (fun q => h4 (by rw [q]; rfl))]; rfl)
          | (rw [decide_eq_true e, decide_eq_false (fun q => absurd ((pm1 hp7).mp h29) (by omega))]; rfl)
          | (rw [decide_eq_true e, decide_eq_true (show 1 ≤ proN g (tyN (mN g (mA m))) from Nat.pos_of_ne_zero (fun q => h29 ((pm1 hp7).mpr q))), b2i_t h44]; rfl)
          | (rw [decide_eq_true e, (b2i_0 _).mp h44, Bool.and_false, Bool.and_false]; rfl)) rfl
      · refine ev_iconst_1 dX5_promotes_47 ?_
        refine ev_goto (tgt := 52) dX5_promotes_48 (by decide) ?_
        exact ev_zret (b2i_nar _) dX5_promotes_52 (by
          unfold proB
          first
          | (rw [decide_eq_false (fun q => h4 (by rw [q]; rfl))]; rfl)
          | (rw [decide_eq_true e, decide_eq_false (fun q => absurd ((pm1 hp7).mp h29) (by omega))]; rfl)
          | (rw [decide_eq_true e, decide_eq_true (show 1 ≤ proN g (tyN (mN g (mA m))) from Nat.pos_of_ne_zero (fun q => h29 ((pm1 hp7).mpr q))), b2i_t h44]; rfl)
          | (rw [decide_eq_true e, (b2i_0 _).mp h44, Bool.and_false, Bool.and_false]; rfl)) rfl
  · refine ev_iconst_0 dX5_promotes_7 ?_
    exact ev_zret (b2i_nar _) dX5_promotes_8 (by
      unfold proB
      first
      | (rw [decide_eq_false (fun q => h4 (by rw [q]; rfl))]; rfl)
      | (rw [decide_eq_true e, decide_eq_false (fun q => absurd ((pm1 hp7).mp h29) (by omega))]; rfl)
      | (rw [decide_eq_true e, decide_eq_true (show 1 ≤ proN g (tyN (mN g (mA m))) from Nat.pos_of_ne_zero (fun q => h29 ((pm1 hp7).mpr q))), b2i_t h44]; rfl)
      | (rw [decide_eq_true e, (b2i_0 _).mp h44, Bool.and_false, Bool.and_false]; rfl)) rfl
theorem pro_pos {g : Nat → Int32} {m : Nat} (h : proB g m = true) : mK m = 0 ∧ 1 ≤ proN g (tyN (mN g (mA m))) := by
  unfold proB at h
  simp only [Bool.and_eq_true, decide_eq_true_eq] at h
  exact ⟨h.1, h.2.1⟩
theorem goer_0 {g : Nat → Int32} {m : Nat} (h : mK m = 0) : goerN g m = mN g (mA m) := if_pos h
set_option maxRecDepth 100000 in
set_option maxHeartbeats 4000000 in
theorem c_arrival {ae ad : Nat → Nat} {sh : mSh} {σ : mSt} {y0 l p : Nat} {g : Nat → Int32} (hy : mPlay ad sh y0 l) (hp : mPos ad sh p) (hG : wfP g) (hW : wfL g) (hP : posR σ p g) (hL : lawR σ l g) {m : Nat} (hm : mvOk g m) : Ct yX5_arrival cX5_arrival 4 (some .int) 3 0 0 [.ref (ad y0), .ref (ad p), .int (nI m)] ae ad sh σ (mEq (some (.int (nI (arrN g m)))) ad sh σ) := by
  refine Ct.ofL (own := RX5) (ini := false) (ls := [some (.ref (ad y0)), some (.ref (ad p)), some (.int (nI m)), none]) (by decide +kernel) rfl (fun h => by cases h) (Nat.le_of_ble_eq_true rfl) rfl ?_
  have h36 := wf_sq hG
  have hlt := mvOk_lt hm
  obtain ⟨g1, g2⟩ := goer_le hG hW hm
  have ht := tyN_lt g1 g2
  have hp7 := (pro_nI hW hL ht).2
  refine ev_aload_0 dX5_arrival_0 ?_
  refine ev_aload_1 dX5_arrival_1 ?_
  refine ev_iload_2 dX5_arrival_2 ?_
  refine cl_X5_137 (c_goer hy hp hG hW hP hL hm) hy.1 dX5_arrival_3 rfl (Nat.le_of_ble_eq_true rfl) ?_
  refine ev_istore_3 dX5_arrival_6 rfl rfl ?_
  refine ev_aload_0 dX5_arrival_7 ?_
  refine ev_aload_1 dX5_arrival_8 ?_
  refine ev_iload_2 dX5_arrival_9 ?_
  refine cl_X5_141 (c_promotes hy hp hG hW hP hL hm) hy.1 dX5_arrival_10 rfl (Nat.le_of_ble_eq_true rfl) ?_
  refine ev_if_eq (tgt := 37) dX5_arrival_13 (by decide) (fun h13 => ?_) (fun h13 => ?_)
  · refine ev_iload_3 dX5_arrival_37 ?_
    exact ev_iret dX5_arrival_38 (by first | (rw [arrN, if_pos (b2i_t h13)]) | (rw [arrN, if_neg (by rw [(b2i_0 _).mp h13]; decide)])) rfl
  · have hb := pro_pos (b2i_t h13)
    have h9 := hb.2
    rw [← goer_0 hb.1] at h9
    refine ev_iload_3 dX5_arrival_16 ?_
    refine cl_X5_30 c_sideOf dX5_arrival_17 rfl (Nat.le_of_ble_eq_true rfl) ?_
    rw [sdR_nI (by omega)]
    refine ev_aload_0 dX5_arrival_20 ?_
    refine gf_X5_9 dX5_arrival_21 hy.1 rfl ?_
    refine ev_iload_3 dX5_arrival_24 ?_
    refine cl_X5_47 c_typeOf dX5_arrival_25 rfl (Nat.le_of_ble_eq_true rfl) ?_
    rw [tyR_nI g1 (by omega)]
    refine cl_X5_145 (c_promotionOf hy.2) hy.2.1 dX5_arrival_28 rfl (Nat.le_of_ble_eq_true rfl) ?_
    rw [(pro_nI hW hL ht).1, lI1, nI_sub h9]
    refine cl_X5_134 c_manOf dX5_arrival_31 rfl (Nat.le_of_ble_eq_true rfl) ?_
    rw [manR_nI]
    refine ev_goto (tgt := 38) dX5_arrival_34 (by decide) ?_
    exact ev_iret dX5_arrival_38 (by first | (rw [arrN, if_pos (b2i_t h13)]) | (rw [arrN, if_neg (by rw [(b2i_0 _).mp h13]; decide)])) rfl
