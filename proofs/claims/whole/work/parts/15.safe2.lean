def wfL (g : Nat → Int32) : Prop :=
  (g 55 = nI (clN g 55) ∧ clN g 55 ≤ 1) ∧ (g 56 = nI (clN g 56) ∧ clN g 56 ≤ 2) ∧ (∀ t, t < 6 → g (58 + 21 * t) = nI (clN g (58 + 21 * t)) ∧ clN g (58 + 21 * t) ≤ 1) ∧ (∀ t, t < 6 → g (59 + 21 * t) = nI (clN g (59 + 21 * t)) ∧ clN g (59 + 21 * t) ≤ 6) ∧
  (∀ t, t < 6 → pcG g t ≤ 6 ∧ (g (60 + 21 * t) = -1 ∨ (g (60 + 21 * t) = nI (pcG g t) ∧ 1 ≤ pcG g t))) ∧
  (∀ t, t < 6 → ∀ j, j < pcG g t → (g (61 + 21 * t + 3 * j) = nI (clN g (61 + 21 * t + 3 * j)) ∧ clN g (61 + 21 * t + 3 * j) < 64) ∧ (g (62 + 21 * t + 3 * j) = nI (atG g t j) ∧ atG g t j < 7) ∧ (g (63 + 21 * t + 3 * j) = -1 ∨ (g (63 + 21 * t + 3 * j) = nI (clN g (63 + 21 * t + 3 * j)) ∧ clN g (63 + 21 * t + 3 * j) ≤ 5))) ∧
  (∀ k, k < 4 → (g (184 + 6 * k) = nI (exN g k) ∧ exN g k ≤ 1) ∧ (∀ i, 1 ≤ i → i ≤ 5 → g (184 + 6 * k + i) = nI (caN g k i) ∧ caN g k i < 36) ∧ (exN g k = 1 → caN g k 1 ≤ 1 ∧ (∀ i, 2 ≤ i → i ≤ 5 → caN g k i < cN g * rN g) ∧ caN g k 2 ≠ caN g k 4 ∧ caN g k 3 ≠ caN g k 5) ∧ (riN g k = 1 → exN g k = 1))
def fstF (f : Nat → Bool) (a : Nat) : Nat → Int32
  | 0 => -5
  | n + 1 => if f a then nI a else fstF f (a + 1) n
theorem lI2 : (2 : Int32) = nI 2 := rfl
theorem lI0 : (0 : Int32) = nI 0 := rfl
theorem safe_2 {g : Nat → Int32} {s : Nat} (h : clN g 56 = 2) : safeG g s = true := by unfold safeG; simp [h]
theorem safe_0 {g : Nat → Int32} {s : Nat} (hG : wfP g) (h : setL (royB g s) = 0) : safeG g s = true := by
  have h1 := (setL_any (by have := wf_sq hG; omega) (fun k h1 _ => royB_out h1)).mp h
  unfold safeG
  rw [h1]; simp
theorem safe_r0 {g : Nat → Int32} {s : Nat} (hG : wfP g) (h2 : ¬ clN g 56 = 2) (h1 : ¬ setL (royB g s) = 0) (h0 : clN g 56 = 0) : safeG g s = decide (setL (royB g s) &&& setL (attG g (1 - s)) = 0) := by
  have e1 := (setL_any (n := cN g * rN g) (f := royB g s) (by have := wf_sq hG; omega) (fun k h1 _ => royB_out h1))
  have e2 := (setL_any (n := cN g * rN g) (f := fun k => royB g s k && attG g (1 - s) k) (by have := wf_sq hG; omega) (fun k h1 _ => by rw [royB_out h1]; rfl))
  have h3 : anyF (royB g s) 0 (cN g * rN g) = true := ts_nf (fun q => h1 (e1.mpr q))
  unfold safeG
  rw [h3, setL_and, if_pos h0, decide_eq_false h2]
  simp only [e2, Bool.not_true, Bool.false_or, Bool.or_self]
  cases anyF (fun k => royB g s k && attG g (1 - s) k) 0 (cN g * rN g) <;> simp
theorem safe_r1 {g : Nat → Int32} {s : Nat} (hG : wfP g) (h2 : ¬ clN g 56 = 2) (h1 : ¬ setL (royB g s) = 0) (h0 : ¬ clN g 56 = 0) : safeG g s = decide (¬ setL (royB g s) &&& (setL (attG g (1 - s)) ^^^ -1) = 0) := by
  have e1 := (setL_any (n := cN g * rN g) (f := royB g s) (by have := wf_sq hG; omega) (fun k h1 _ => royB_out h1))
  have e2 := (setL_any (n := cN g * rN g) (f := fun k => royB g s k && !(attG g (1 - s) k)) (by have := wf_sq hG; omega) (fun k h1 _ => by rw [royB_out h1]; rfl))
  have h3 : anyF (royB g s) 0 (cN g * rN g) = true := ts_nf (fun q => h1 (e1.mpr q))
  have e4 : setL (royB g s) &&& (setL (attG g (1 - s)) ^^^ -1) = setL (fun k => royB g s k && !(attG g (1 - s) k)) := setL_of fun k hk => by rw [lb_and, lb_not _ hk, lb_setL hk, lb_setL hk]
  unfold safeG
  rw [h3, e4, if_neg h0, decide_eq_false h2]
  simp only [e2, Bool.not_true, Bool.false_or, Bool.or_self]
  cases anyF (fun k => royB g s k && !(attG g (1 - s) k)) 0 (cN g * rN g) <;> simp

theorem royB_i {g : Nat → Int32} {s i : Nat} (hi : i < cN g * rN g) : royB g s i = (isOfG g i s && royG g (tyN (mN g i))) := by
  unfold royB
  rw [decide_eq_true hi, Bool.and_true]
set_option maxRecDepth 100000 in
set_option maxHeartbeats 4000000 in
theorem c_royalMen_5 {ae ad : Nat → Nat} {sh : mSh} {σ : mSt} {y0 l p : Nat} {g : Nat → Int32} (hy : mPlay ad sh y0 l) (hp : mPos ad sh p) (hG : wfP g) (hP : posR σ p g) (hL : lawR σ l g) {s : Nat} (hs : s ≤ 1) : ∀ (n i : Nat), (cN g * rN g) - i = n → i ≤ (cN g * rN g) → ∀ acc : Int64, (∀ k, k < 64 → lb acc k = (decide (k < i) && royB g s k)) → Ev RX5 cX5_royalMen 6 false (some .long) (mRm 2 0 0) ae (mEq (some (.long (setL (royB g s)))) ad sh σ) 5 [some (.ref (ad y0)), some (.ref (ad p)), some (.int (nI s)), some (.long acc), none, some (.int (nI i))] [] 0 0 ad sh σ := by
  intro n
  induction n with
  | zero =>
    intro i hn hi acc hacc
    have e : i = (cN g * rN g) := by omega
    subst e
    refine ev_iload_5 dX5_royalMen_5 ?_
    refine ev_aload_1 dX5_royalMen_7 ?_
    refine cl_X5_95 (c_squares hp) hp.1 dX5_royalMen_8 rfl (Nat.le_of_ble_eq_true rfl) ?_
    rw [hP.sq hG]
    refine ev_icmp_ge (tgt := 59) dX5_royalMen_11 (by decide) (fun h11 => ?_) (fun h11 => absurd (Int32.le_refl _) h11)
    refine ev_lload_3 dX5_royalMen_59 ?_
    exact ev_lret dX5_royalMen_60 (setL_of (fun k hk => by
      rw [hacc k hk]
      by_cases e : k < cN g * rN g
      · simp [e]
      · rw [royB_out (by omega)]; simp)) rfl
  | succ n ih =>
    intro i hn hi acc hacc
    have hlt : i < (cN g * rN g) := by omega
    have h36 := wf_sq hG
    refine ev_iload_5 dX5_royalMen_5 ?_
    refine ev_aload_1 dX5_royalMen_7 ?_
    refine cl_X5_95 (c_squares hp) hp.1 dX5_royalMen_8 rfl (Nat.le_of_ble_eq_true rfl) ?_
    rw [hP.sq hG]
    refine ev_icmp_ge (tgt := 59) dX5_royalMen_11 (by decide) (fun h11 => absurd h11 (nI_ge hlt (by omega))) (fun h11 => ?_)
    refine ev_aload_1 dX5_royalMen_14 ?_
    refine ev_iload_2 dX5_royalMen_15 ?_
    refine cl_X5_33 (c_menOf hp) hp.1 dX5_royalMen_16 rfl (Nat.le_of_ble_eq_true rfl) ?_
    refine ev_iload_5 dX5_royalMen_19 ?_
    refine cl_X5_99 c_has dX5_royalMen_21 rfl (Nat.le_of_ble_eq_true rfl) ?_
    rw [hasR_nI (by omega), hP.side hs (by omega)]
    refine ev_if_eq (tgt := 53) dX5_royalMen_24 (by decide) (fun h24 => ?_) (fun h24 => ?_)
    · refine ev_iinc_5 (v := 1) dX5_royalMen_53 (by decide) rfl rfl ?_
      refine ev_goto (tgt := 5) dX5_royalMen_56 (by decide) ?_
      first
        | exact Ev.to (by rw [nI_1]) rfl rfl (ih (i + 1) (by omega) (by omega) acc (fun k hk => by rw [hacc k hk, lt_step, dec_and (i := i) (f := royB g s), royB_i hlt, (b2i_0 _).mp h24]; simp))
        | exact Ev.to (by rw [nI_1]) rfl rfl (ih (i + 1) (by omega) (by omega) acc (fun k hk => by rw [hacc k hk, lt_step, dec_and (i := i) (f := royB g s), royB_i hlt, show royG g (tyN (mN g i)) = false from (b2i_0 _).mp h43]; simp))
        | exact Ev.to (by rw [nI_1]) rfl rfl (ih (i + 1) (by omega) (by omega) _ (fun k hk => by rw [lb_or, show (1 : Int64) <<< ((nI i).toInt64 &&& 63) = mBit (nI i) from rfl, lb_mBit (by omega) hk, hacc k hk, lt_step, dec_and (i := i) (f := royB g s), royB_i hlt, b2i_t h24, show royG g (tyN (mN g i)) = true from b2i_t h43]; simp))
    · have hm := isOf_1 (b2i_t h24)
      have h12 := wf_m hG hm.1
      have ht := tyN_lt hm.2.1 h12
      refine ev_aload_0 dX5_royalMen_27 ?_
      refine gf_X5_9 dX5_royalMen_28 hy.1 rfl ?_
      refine ev_aload_1 dX5_royalMen_31 ?_
      refine ev_iload_5 dX5_royalMen_32 ?_
      refine cl_X5_26 (c_manOn hp) hp.1 dX5_royalMen_34 rfl (Nat.le_of_ble_eq_true rfl) ?_
      rw [cellV_nI (by omega) (by omega), hP.man hG (by omega)]
      refine cl_X5_47 c_typeOf dX5_royalMen_37 rfl (Nat.le_of_ble_eq_true rfl) ?_
      rw [tyR_nI hm.2.1 (by omega)]
      refine cl_X5_103 (c_isRoyal hy.2) hy.2.1 dX5_royalMen_40 rfl (Nat.le_of_ble_eq_true rfl) ?_
      rw [cellV_nI (by omega) ht, hL.2.2.2.2.1 _ ht]
      refine ev_if_eq (tgt := 53) dX5_royalMen_43 (by decide) (fun h43 => ?_) (fun h43 => ?_)
      · refine ev_iinc_5 (v := 1) dX5_royalMen_53 (by decide) rfl rfl ?_
        refine ev_goto (tgt := 5) dX5_royalMen_56 (by decide) ?_
        first
          | exact Ev.to (by rw [nI_1]) rfl rfl (ih (i + 1) (by omega) (by omega) acc (fun k hk => by rw [hacc k hk, lt_step, dec_and (i := i) (f := royB g s), royB_i hlt, (b2i_0 _).mp h24]; simp))
          | exact Ev.to (by rw [nI_1]) rfl rfl (ih (i + 1) (by omega) (by omega) acc (fun k hk => by rw [hacc k hk, lt_step, dec_and (i := i) (f := royB g s), royB_i hlt, show royG g (tyN (mN g i)) = false from (b2i_0 _).mp h43]; simp))
          | exact Ev.to (by rw [nI_1]) rfl rfl (ih (i + 1) (by omega) (by omega) _ (fun k hk => by rw [lb_or, show (1 : Int64) <<< ((nI i).toInt64 &&& 63) = mBit (nI i) from rfl, lb_mBit (by omega) hk, hacc k hk, lt_step, dec_and (i := i) (f := royB g s), royB_i hlt, b2i_t h24, show royG g (tyN (mN g i)) = true from b2i_t h43]; simp))
      · refine ev_lload_3 dX5_royalMen_46 ?_
        refine ev_lconst_1 dX5_royalMen_47 ?_
        refine ev_iload_5 dX5_royalMen_48 ?_
        refine ev_lshl dX5_royalMen_50 ?_
        refine ev_lor dX5_royalMen_51 ?_
        refine ev_lstore_3 dX5_royalMen_52 rfl rfl ?_
        refine ev_iinc_5 (v := 1) dX5_royalMen_53 (by decide) rfl rfl ?_
        refine ev_goto (tgt := 5) dX5_royalMen_56 (by decide) ?_
        first
          | exact Ev.to (by rw [nI_1]) rfl rfl (ih (i + 1) (by omega) (by omega) acc (fun k hk => by rw [hacc k hk, lt_step, dec_and (i := i) (f := royB g s), royB_i hlt, (b2i_0 _).mp h24]; simp))
          | exact Ev.to (by rw [nI_1]) rfl rfl (ih (i + 1) (by omega) (by omega) acc (fun k hk => by rw [hacc k hk, lt_step, dec_and (i := i) (f := royB g s), royB_i hlt, show royG g (tyN (mN g i)) = false from (b2i_0 _).mp h43]; simp))
          | exact Ev.to (by rw [nI_1]) rfl rfl (ih (i + 1) (by omega) (by omega) _ (fun k hk => by rw [lb_or, show (1 : Int64) <<< ((nI i).toInt64 &&& 63) = mBit (nI i) from rfl, lb_mBit (by omega) hk, hacc k hk, lt_step, dec_and (i := i) (f := royB g s), royB_i hlt, b2i_t h24, show royG g (tyN (mN g i)) = true from b2i_t h43]; simp))
set_option maxRecDepth 100000 in
set_option maxHeartbeats 4000000 in
theorem c_royalMen {ae ad : Nat → Nat} {sh : mSh} {σ : mSt} {y0 l p : Nat} {g : Nat → Int32} (hy : mPlay ad sh y0 l) (hp : mPos ad sh p) (hG : wfP g) (hP : posR σ p g) (hL : lawR σ l g) {s : Nat} (hs : s ≤ 1) : Ct yX5_royalMen cX5_royalMen 6 (some .long) 2 0 0 [.ref (ad y0), .ref (ad p), .int (nI s)] ae ad sh σ (mEq (some (.long (setL (royB g s)))) ad sh σ) := by
  refine Ct.ofL (own := RX5) (ini := false) (ls := [some (.ref (ad y0)), some (.ref (ad p)), some (.int (nI s)), none, none, none]) (by decide +kernel) rfl (fun h => by cases h) (Nat.le_of_ble_eq_true rfl) rfl ?_
  refine ev_lconst_0 dX5_royalMen_0 ?_
  refine ev_lstore_3 dX5_royalMen_1 rfl rfl ?_
  refine ev_iconst_0 dX5_royalMen_2 ?_
  refine ev_istore_5 dX5_royalMen_3 rfl rfl ?_
  exact c_royalMen_5 hy hp hG hP hL hs _ 0 rfl (Nat.zero_le _) 0 (fun k hk => by rw [lb_0]; simp)
set_option maxRecDepth 100000 in
set_option maxHeartbeats 4000000 in
theorem c_isSafe {ae ad : Nat → Nat} {sh : mSh} {σ : mSt} {y0 l p : Nat} {g : Nat → Int32} (hy : mPlay ad sh y0 l) (hp : mPos ad sh p) (hG : wfP g) (hP : posR σ p g) (hL : lawR σ l g) (hW : wfL g) {s : Nat} (hs : s ≤ 1) : Ct yX5_isSafe cX5_isSafe 7 (some .boolean) 3 0 0 [.ref (ad y0), .ref (ad p), .int (nI s)] ae ad sh σ (mEq (some (.int (b2i (safeG g s)))) ad sh σ) := by
  refine Ct.ofL (own := RX5) (ini := false) (ls := [some (.ref (ad y0)), some (.ref (ad p)), some (.int (nI s)), none, none, none, none]) (by decide +kernel) rfl (fun h => by cases h) (Nat.le_of_ble_eq_true rfl) rfl ?_
  have hr2 := hW.2.1.2
  refine ev_aload_0 dX5_isSafe_0 ?_
  refine gf_X5_9 dX5_isSafe_1 hy.1 rfl ?_
  refine gf_X5_107 dX5_isSafe_4 hy.2.1 rfl ?_
  rw [hL.2.2.2.2.2.2.2.2.2, hW.2.1.1]
  refine ev_iconst_2 dX5_isSafe_7 ?_
  refine ev_icmp_ne (tgt := 13) dX5_isSafe_8 (by decide) (fun h8 => ?_) (fun h8 => ?_)
  · have g2 : ¬ clN g 56 = 2 := fun q => h8 (by rw [q]; rfl)
    refine ev_aload_0 dX5_isSafe_13 ?_
    refine ev_aload_1 dX5_isSafe_14 ?_
    refine ev_iload_2 dX5_isSafe_15 ?_
    refine cl_X5_110 (c_royalMen hy hp hG hP hL hs) hy.1 dX5_isSafe_16 rfl (Nat.le_of_ble_eq_true rfl) ?_
    refine ev_lstore_3 dX5_isSafe_19 rfl rfl ?_
    refine ev_lload_3 dX5_isSafe_20 ?_
    refine ev_lconst_0 dX5_isSafe_21 ?_
    refine ev_lcmp dX5_isSafe_22 ?_
    refine ev_if_ne (tgt := 28) dX5_isSafe_23 (by decide) (fun h23 => ?_) (fun h23 => ?_)
    · have g1 : ¬ setL (royB g s) = 0 := fun q => h23 ((lg_cmp_0 _ _).mpr q)
      refine ev_aload_0 dX5_isSafe_28 ?_
      refine ev_aload_1 dX5_isSafe_29 ?_
      refine ev_iconst_1 dX5_isSafe_30 ?_
      refine ev_iload_2 dX5_isSafe_31 ?_
      refine ev_isub dX5_isSafe_32 ?_
      rw [lI1, nI_sub hs]
      refine cl_X5_114 (c_attackedBy hy hp hG hP hL (s := 1 - s) (by omega)) hy.1 dX5_isSafe_33 rfl (Nat.le_of_ble_eq_true rfl) ?_
      refine ev_lstore_5 dX5_isSafe_36 rfl rfl ?_
      refine ev_aload_0 dX5_isSafe_38 ?_
      refine gf_X5_9 dX5_isSafe_39 hy.1 rfl ?_
      refine gf_X5_107 dX5_isSafe_42 hy.2.1 rfl ?_
      rw [hL.2.2.2.2.2.2.2.2.2, hW.2.1.1]
      refine ev_if_ne (tgt := 65) dX5_isSafe_45 (by decide) (fun h45 => ?_) (fun h45 => ?_)
      · have g0 : ¬ clN g 56 = 0 := fun q => h45 (by rw [q]; rfl)
        refine ev_lload_3 dX5_isSafe_65 ?_
        refine ev_lload_5 dX5_isSafe_66 ?_
        refine ev_ldc2 kc_X5_24 dX5_isSafe_68 ?_
        refine ev_lxor dX5_isSafe_71 ?_
        refine ev_land dX5_isSafe_72 ?_
        refine ev_lconst_0 dX5_isSafe_73 ?_
        refine ev_lcmp dX5_isSafe_74 ?_
        refine ev_if_eq (tgt := 82) dX5_isSafe_75 (by decide) (fun h75 => ?_) (fun h75 => ?_)
        · refine ev_iconst_0 dX5_isSafe_82 ?_
          exact ev_zret (b2i_nar _) dX5_isSafe_83 (by
            first
            | (rw [safe_2 ((nI_eq (b := 2) (by omega) (by decide)).mp h8)]; rfl)
            | (rw [safe_2 ((nI_eq (b := 2) (by omega) (by decide)).mp (Decidable.not_not.mp h8))]; rfl)
            | (rw [safe_0 hG ((lg_cmp_0 _ _).mp h23)]; rfl)
            | (rw [safe_0 hG ((lg_cmp_0 _ _).mp (Decidable.not_not.mp h23))]; rfl)
            | (rw [safe_r0 hG g2 g1 g0, decide_eq_true ((lg_cmp_0 _ _).mp h54)]; rfl)
            | (rw [safe_r0 hG g2 g1 g0, decide_eq_false (fun q => h54 ((lg_cmp_0 _ _).mpr q))]; rfl)
            | (rw [safe_r1 hG g2 g1 g0]; have e : ¬ setL (royB g s) &&& (setL (attG g (1 - s)) ^^^ -1) = 0 := (fun q => h75 ((lg_cmp_0 _ _).mpr q)); rw [decide_eq_true e]; rfl)
            | (rw [safe_r1 hG g2 g1 g0, decide_eq_false (fun q => q ((lg_cmp_0 _ _).mp h75))]; rfl)) rfl
        · refine ev_iconst_1 dX5_isSafe_78 ?_
          refine ev_goto (tgt := 83) dX5_isSafe_79 (by decide) ?_
          exact ev_zret (b2i_nar _) dX5_isSafe_83 (by
            first
            | (rw [safe_2 ((nI_eq (b := 2) (by omega) (by decide)).mp h8)]; rfl)
            | (rw [safe_2 ((nI_eq (b := 2) (by omega) (by decide)).mp (Decidable.not_not.mp h8))]; rfl)
            | (rw [safe_0 hG ((lg_cmp_0 _ _).mp h23)]; rfl)
            | (rw [safe_0 hG ((lg_cmp_0 _ _).mp (Decidable.not_not.mp h23))]; rfl)
            | (rw [safe_r0 hG g2 g1 g0, decide_eq_true ((lg_cmp_0 _ _).mp h54)]; rfl)
            | (rw [safe_r0 hG g2 g1 g0, decide_eq_false (fun q => h54 ((lg_cmp_0 _ _).mpr q))]; rfl)
            | (rw [safe_r1 hG g2 g1 g0]; have e : ¬ setL (royB g s) &&& (setL (attG g (1 - s)) ^^^ -1) = 0 := (fun q => h75 ((lg_cmp_0 _ _).mpr q)); rw [decide_eq_true e]; rfl)
            | (rw [safe_r1 hG g2 g1 g0, decide_eq_false (fun q => q ((lg_cmp_0 _ _).mp h75))]; rfl)) rfl
      · have g0 : clN g 56 = 0 := (nI_eq (b := 0) (by omega) (by decide)).mp (by first | exact h45 | exact Decidable.not_not.mp h45)
        refine ev_lload_3 dX5_isSafe_48 ?_
        refine ev_lload_5 dX5_isSafe_49 ?_
        refine ev_land dX5_isSafe_51 ?_
        refine ev_lconst_0 dX5_isSafe_52 ?_
        refine ev_lcmp dX5_isSafe_53 ?_
        refine ev_if_ne (tgt := 61) dX5_isSafe_54 (by decide) (fun h54 => ?_) (fun h54 => ?_)
        · refine ev_iconst_0 dX5_isSafe_61 ?_
          refine ev_goto (tgt := 83) dX5_isSafe_62 (by decide) ?_
          exact ev_zret (b2i_nar _) dX5_isSafe_83 (by
            first
            | (rw [safe_2 ((nI_eq (b := 2) (by omega) (by decide)).mp h8)]; rfl)
            | (rw [safe_2 ((nI_eq (b := 2) (by omega) (by decide)).mp (Decidable.not_not.mp h8))]; rfl)
            | (rw [safe_0 hG ((lg_cmp_0 _ _).mp h23)]; rfl)
            | (rw [safe_0 hG ((lg_cmp_0 _ _).mp (Decidable.not_not.mp h23))]; rfl)
            | (rw [safe_r0 hG g2 g1 g0, decide_eq_true ((lg_cmp_0 _ _).mp h54)]; rfl)
            | (rw [safe_r0 hG g2 g1 g0, decide_eq_false (fun q => h54 ((lg_cmp_0 _ _).mpr q))]; rfl)
            | (rw [safe_r1 hG g2 g1 g0]; have e : ¬ setL (royB g s) &&& (setL (attG g (1 - s)) ^^^ -1) = 0 := (fun q => h75 ((lg_cmp_0 _ _).mpr q)); rw [decide_eq_true e]; rfl)
            | (rw [safe_r1 hG g2 g1 g0, decide_eq_false (fun q => q ((lg_cmp_0 _ _).mp h75))]; rfl)) rfl
        · refine ev_iconst_1 dX5_isSafe_57 ?_
          refine ev_goto (tgt := 83) dX5_isSafe_58 (by decide) ?_
          exact ev_zret (b2i_nar _) dX5_isSafe_83 (by
            first
            | (rw [safe_2 ((nI_eq (b := 2) (by omega) (by decide)).mp h8)]; rfl)
            | (rw [safe_2 ((nI_eq (b := 2) (by omega) (by decide)).mp (Decidable.not_not.mp h8))]; rfl)
            | (rw [safe_0 hG ((lg_cmp_0 _ _).mp h23)]; rfl)
            | (rw [safe_0 hG ((lg_cmp_0 _ _).mp (Decidable.not_not.mp h23))]; rfl)
            | (rw [safe_r0 hG g2 g1 g0, decide_eq_true ((lg_cmp_0 _ _).mp h54)]; rfl)
            | (rw [safe_r0 hG g2 g1 g0, decide_eq_false (fun q => h54 ((lg_cmp_0 _ _).mpr q))]; rfl)
            | (rw [safe_r1 hG g2 g1 g0]; have e : ¬ setL (royB g s) &&& (setL (attG g (1 - s)) ^^^ -1) = 0 := (fun q => h75 ((lg_cmp_0 _ _).mpr q)); rw [decide_eq_true e]; rfl)
            | (rw [safe_r1 hG g2 g1 g0, decide_eq_false (fun q => q ((lg_cmp_0 _ _).mp h75))]; rfl)) rfl
    · refine ev_iconst_1 dX5_isSafe_26 ?_
      exact ev_zret (b2i_nar _) dX5_isSafe_27 (by
        first
        | (rw [safe_2 ((nI_eq (b := 2) (by omega) (by decide)).mp h8)]; rfl)
        | (rw [safe_2 ((nI_eq (b := 2) (by omega) (by decide)).mp (Decidable.not_not.mp h8))]; rfl)
        | (rw [safe_0 hG ((lg_cmp_0 _ _).mp h23)]; rfl)
        | (rw [safe_0 hG ((lg_cmp_0 _ _).mp (Decidable.not_not.mp h23))]; rfl)
        | (rw [safe_r0 hG g2 g1 g0, decide_eq_true ((lg_cmp_0 _ _).mp h54)]; rfl)
        | (rw [safe_r0 hG g2 g1 g0, decide_eq_false (fun q => h54 ((lg_cmp_0 _ _).mpr q))]; rfl)
        | (rw [safe_r1 hG g2 g1 g0]; have e : ¬ setL (royB g s) &&& (setL (attG g (1 - s)) ^^^ -1) = 0 := (fun q => h75 ((lg_cmp_0 _ _).mpr q)); rw [decide_eq_true e]; rfl)
        | (rw [safe_r1 hG g2 g1 g0, decide_eq_false (fun q => q ((lg_cmp_0 _ _).mp h75))]; rfl)) rfl
  · refine ev_iconst_1 dX5_isSafe_11 ?_
    exact ev_zret (b2i_nar _) dX5_isSafe_12 (by
      first
      | (rw [safe_2 ((nI_eq (b := 2) (by omega) (by decide)).mp h8)]; rfl)
      | (rw [safe_2 ((nI_eq (b := 2) (by omega) (by decide)).mp (Decidable.not_not.mp h8))]; rfl)
      | (rw [safe_0 hG ((lg_cmp_0 _ _).mp h23)]; rfl)
      | (rw [safe_0 hG ((lg_cmp_0 _ _).mp (Decidable.not_not.mp h23))]; rfl)
      | (rw [safe_r0 hG g2 g1 g0, decide_eq_true ((lg_cmp_0 _ _).mp h54)]; rfl)
      | (rw [safe_r0 hG g2 g1 g0, decide_eq_false (fun q => h54 ((lg_cmp_0 _ _).mpr q))]; rfl)
      | (rw [safe_r1 hG g2 g1 g0]; have e : ¬ setL (royB g s) &&& (setL (attG g (1 - s)) ^^^ -1) = 0 := (fun q => h75 ((lg_cmp_0 _ _).mpr q)); rw [decide_eq_true e]; rfl)
      | (rw [safe_r1 hG g2 g1 g0, decide_eq_false (fun q => q ((lg_cmp_0 _ _).mp h75))]; rfl)) rfl
theorem manAtk_lb {g : Nat → Int32} (_hG : wfP g) {s s2 : Nat} : setL (manAtk g s (fun q => lb (setL (royB g s2)) q)) = setL (manAtk g s (royB g s2)) := setL_cong fun k _ => by
  rw [manAtk_eq, manAtk_eq, anyF_cong (g := fun q => atkG g k q && royB g s2 q) (fun i _ h2 => by rw [lb_setL (by omega)])]
set_option maxRecDepth 100000 in
set_option maxHeartbeats 4000000 in
theorem c_lowest_18 {ae ad : Nat → Nat} {sh : mSh} {σ : mSt} {y0 l p : Nat} {g : Nat → Int32} (hy : mPlay ad sh y0 l) (hp : mPos ad sh p) (hG : wfP g) (hP : posR σ p g) (hL : lawR σ l g) {s : Nat} (hs : s ≤ 1) : ∀ (n i : Nat), (cN g * rN g) - i = n → i ≤ (cN g * rN g) → Ev RX5 cX5_lowestChecker 6 false (some .int) (mRm 3 0 0) ae (mEq (some (.int (fstF (manAtk g (1 - s) (royB g s)) i ((cN g * rN g) - i)))) ad sh σ) 18 [some (.ref (ad y0)), some (.ref (ad p)), some (.int (nI s)), some (.long (setL (manAtk g (1 - s) (royB g s)))), none, some (.int (nI i))] [] 0 0 ad sh σ := by
  intro n
  induction n with
  | zero =>
    intro i hn hi
    have e : i = (cN g * rN g) := by omega
    subst e
    refine ev_iload_5 dX5_lowestChecker_18 ?_
    refine ev_aload_1 dX5_lowestChecker_20 ?_
    refine cl_X5_95 (c_squares hp) hp.1 dX5_lowestChecker_21 rfl (Nat.le_of_ble_eq_true rfl) ?_
    rw [hP.sq hG]
    refine ev_icmp_ge (tgt := 45) dX5_lowestChecker_24 (by decide) (fun h24 => ?_) (fun h24 => absurd (Int32.le_refl _) h24)
    refine ev_bipush_m5 dX5_lowestChecker_45 ?_
    exact ev_iret dX5_lowestChecker_47 (by rw [Nat.sub_self]; rfl) rfl
  | succ n ih =>
    intro i hn hi 
    have hlt : i < (cN g * rN g) := by omega
    have h36 := wf_sq hG
    refine ev_iload_5 dX5_lowestChecker_18 ?_
    refine ev_aload_1 dX5_lowestChecker_20 ?_
    refine cl_X5_95 (c_squares hp) hp.1 dX5_lowestChecker_21 rfl (Nat.le_of_ble_eq_true rfl) ?_
    rw [hP.sq hG]
    refine ev_icmp_ge (tgt := 45) dX5_lowestChecker_24 (by decide) (fun h24 => absurd h24 (nI_ge hlt (by omega))) (fun h24 => ?_)
    refine ev_lload_3 dX5_lowestChecker_27 ?_
    refine ev_iload_5 dX5_lowestChecker_28 ?_
    refine cl_X5_99 c_has dX5_lowestChecker_30 rfl (Nat.le_of_ble_eq_true rfl) ?_
    rw [hasR_nI (by omega), lb_setL (by omega)]
    refine ev_if_eq (tgt := 39) dX5_lowestChecker_33 (by decide) (fun h33 => ?_) (fun h33 => ?_)
    · refine ev_iinc_5 (v := 1) dX5_lowestChecker_39 (by decide) rfl rfl ?_
      refine ev_goto (tgt := 18) dX5_lowestChecker_42 (by decide) ?_
      exact Ev.to (by rw [nI_1]) rfl rfl (Ev.post (congrArg (fun v => mEq (some (.int v)) ad sh σ) (by rw [show cN g * rN g - i = (cN g * rN g - (i + 1)) + 1 by omega, fstF, if_neg (by rw [(b2i_0 _).mp h33]; decide)])) (ih (i + 1) (by omega) (by omega)))
    · refine ev_iload_5 dX5_lowestChecker_36 ?_
      exact ev_iret dX5_lowestChecker_38 (by rw [show cN g * rN g - i = (cN g * rN g - (i + 1)) + 1 by omega, fstF, if_pos (b2i_t h33)]) rfl
set_option maxRecDepth 100000 in
set_option maxHeartbeats 4000000 in
theorem c_lowestChecker {ae ad : Nat → Nat} {sh : mSh} {σ : mSt} {y0 l p : Nat} {g : Nat → Int32} (hy : mPlay ad sh y0 l) (hp : mPos ad sh p) (hG : wfP g) (hP : posR σ p g) (hL : lawR σ l g) {s : Nat} (hs : s ≤ 1) : Ct yX5_lowestChecker cX5_lowestChecker 6 (some .int) 3 0 0 [.ref (ad y0), .ref (ad p), .int (nI s)] ae ad sh σ (mEq (some (.int (fstF (manAtk g (1 - s) (royB g s)) 0 (cN g * rN g)))) ad sh σ) := by
  refine Ct.ofL (own := RX5) (ini := false) (ls := [some (.ref (ad y0)), some (.ref (ad p)), some (.int (nI s)), none, none, none]) (by decide +kernel) rfl (fun h => by cases h) (Nat.le_of_ble_eq_true rfl) rfl ?_
  refine ev_aload_0 dX5_lowestChecker_0 ?_
  refine ev_aload_1 dX5_lowestChecker_1 ?_
  refine ev_iconst_1 dX5_lowestChecker_2 ?_
  refine ev_iload_2 dX5_lowestChecker_3 ?_
  refine ev_isub dX5_lowestChecker_4 ?_
  rw [lI1, nI_sub hs]
  refine ev_aload_0 dX5_lowestChecker_5 ?_
  refine ev_aload_1 dX5_lowestChecker_6 ?_
  refine ev_iload_2 dX5_lowestChecker_7 ?_
  refine cl_X5_110 (c_royalMen hy hp hG hP hL hs) hy.1 dX5_lowestChecker_8 rfl (Nat.le_of_ble_eq_true rfl) ?_
  refine cl_X5_117 (c_menAttacking hy hp hG hP hL (s := 1 - s) (by omega)) hy.1 dX5_lowestChecker_11 rfl (Nat.le_of_ble_eq_true rfl) ?_
  refine ev_lstore_3 dX5_lowestChecker_14 rfl rfl ?_
  refine ev_iconst_0 dX5_lowestChecker_15 ?_
  refine ev_istore_5 dX5_lowestChecker_16 rfl rfl ?_
  exact Ev.to (by rw [manAtk_lb hG]; rfl) rfl rfl (c_lowest_18 hy hp hG hP hL hs _ 0 rfl (Nat.zero_le _))
