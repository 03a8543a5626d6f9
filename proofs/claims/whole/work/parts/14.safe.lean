theorem goG_at {g : Nat → Int32} {t f s q : Nat} {em ot em' ot' : Nat → Bool} (h1 : em q = em' q) (h2 : ot q = ot' q) : goG g t f s em ot q = goG g t f s em' ot' q := by
  refine anyF_cong (fun j _ _ => ?_)
  rw [partB, partB, wantB, wantB, h1, h2]
theorem posR.sq {σ : mSt} {p : Nat} {g : Nat → Int32} (hG : wfP g) (hP : posR σ p g) : σ.1 p 2 * σ.1 p 3 = nI (cN g * rN g) := by
  rw [hP.2.2.1, hP.2.2.2.1, hG.1.1, hG.2.1.1, nI_mul]
theorem b2i_t {b : Bool} (h : ¬ b2i b = 0) : b = true := ts_nf (fun q => h ((b2i_0 b).mpr q))
theorem isOf_1 {g : Nat → Int32} {q s : Nat} (h : isOfG g q s = true) : q < 36 ∧ 1 ≤ mN g q ∧ sdN (mN g q) = s := of_decide_eq_true h
theorem posR.man {σ : mSt} {p : Nat} {g : Nat → Int32} (hG : wfP g) (hP : posR σ p g) {q : Nat} (hq : q < 36) : σ.1 (p + 1) q = nI (mN g q) := (hP.1 q hq).trans (hG.2.2.1 q hq).1
theorem wf_m {g : Nat → Int32} (hG : wfP g) {q : Nat} (hq : q < 36) : mN g q ≤ 12 := (hG.2.2.1 q hq).2.1
theorem wf_in {g : Nat → Int32} (hG : wfP g) {q : Nat} (hq : q < 36) (h1 : 1 ≤ mN g q) : q < cN g * rN g := by
  rcases Nat.lt_or_ge q (cN g * rN g) with h | h
  · exact h
  · have := (hG.2.2.1 q hq).2.2 h
    omega
theorem lb_not (x : Int64) {i : Nat} (hi : i < 64) : lb (x ^^^ -1) i = !(lb x i) := by
  rw [lb_xor, lb_m1 hi]; cases lb x i <;> rfl
theorem setL_0 {f : Nat → Bool} : setL f = 0 ↔ ∀ k, k < 64 → f k = false := by
  constructor
  · intro h k hk
    rw [← lb_setL (f := f) hk, h, lb_0]
  · intro h
    exact lb_ext fun k hk => by rw [lb_setL hk, lb_0, h k hk]
theorem setL_and {f g : Nat → Bool} : setL f &&& setL g = setL (fun k => f k && g k) := setL_of fun k hk => by rw [lb_and, lb_setL hk, lb_setL hk]
theorem anyF_0 {f : Nat → Bool} {n : Nat} : anyF f 0 n = false ↔ ∀ k, k < n → f k = false := by
  rw [← Bool.not_eq_true, anyF_iff]
  constructor
  · intro h k hk
    exact Bool.eq_false_iff.mpr (fun q => h ⟨k, Nat.zero_le _, by omega, q⟩)
  · rintro h ⟨k, -, h2, h3⟩
    rw [h k (by omega)] at h3; cases h3
/-- a set that lies on the board is empty when no square of the board passes -/
theorem setL_any {f : Nat → Bool} {n : Nat} (hn : n ≤ 64) (h : ∀ k, n ≤ k → k < 64 → f k = false) : setL f = 0 ↔ anyF f 0 n = false := by
  rw [setL_0, anyF_0]
  constructor
  · intro h1 k hk; exact h1 k (by omega)
  · intro h1 k hk
    rcases Nat.lt_or_ge k n with q | q
    · exact h1 k q
    · exact h k q hk
theorem royB_out {g : Nat → Int32} {s k : Nat} (h : cN g * rN g ≤ k) : royB g s k = false := by
  unfold royB
  rw [show decide (k < cN g * rN g) = false from decide_eq_false (by omega), Bool.and_false]

set_option maxRecDepth 100000 in
set_option maxHeartbeats 4000000 in
theorem c_targets {ae ad : Nat → Nat} {sh : mSh} {σ : mSt} {y0 l p : Nat} {g : Nat → Int32} (hy : mPlay ad sh y0 l) (hp : mPos ad sh p) (hG : wfP g) (hP : posR σ p g) (hL : lawR σ l g) {f : Nat} (hf : f < 36) (hm1 : 1 ≤ mN g f) : Ct yX5_targets cX5_targets 3 (some .long) 2 0 0 [.ref (ad y0), .ref (ad p), .int (nI f)] ae ad sh σ (mEq (some (.long (setL (tgtG g f)))) ad sh σ) := by
  refine Ct.ofL (own := RX5) (ini := false) (ls := [some (.ref (ad y0)), some (.ref (ad p)), some (.int (nI f))]) (by decide +kernel) rfl (fun h => by cases h) (Nat.le_of_ble_eq_true rfl) rfl ?_
  have h36 := wf_sq hG
  have h12 := wf_m hG hf
  have hsd : sdN (mN g f) ≤ 1 := by unfold sdN; split <;> decide
  refine ev_aload_0 dX5_targets_0 ?_
  refine ev_aload_1 dX5_targets_1 ?_
  refine ev_iload_2 dX5_targets_2 ?_
  refine ev_aload_1 dX5_targets_3 ?_
  refine gf_X5_15 dX5_targets_4 hp.1 rfl ?_
  refine ev_aload_1 dX5_targets_7 ?_
  refine gf_X5_21 dX5_targets_8 hp.1 rfl ?_
  refine ev_lor dX5_targets_11 ?_
  refine ev_ldc2 kc_X5_24 dX5_targets_12 ?_
  refine ev_lxor dX5_targets_15 ?_
  refine ev_aload_1 dX5_targets_16 ?_
  refine ev_iconst_1 dX5_targets_17 ?_
  refine ev_aload_1 dX5_targets_18 ?_
  refine ev_iload_2 dX5_targets_19 ?_
  refine cl_X5_26 (c_manOn hp) hp.1 dX5_targets_20 rfl (Nat.le_of_ble_eq_true rfl) ?_
  rw [cellV_nI (by omega) hf, hP.man hG hf]
  refine cl_X5_30 c_sideOf dX5_targets_23 rfl (Nat.le_of_ble_eq_true rfl) ?_
  rw [sdR_nI (by omega)]
  refine ev_isub dX5_targets_26 ?_
  rw [lI1, nI_sub hsd]
  refine cl_X5_33 (c_menOf hp) hp.1 dX5_targets_27 rfl (Nat.le_of_ble_eq_true rfl) ?_
  refine cl_X5_37 (c_endsG hy hp hG hP hL (wf_in hG hf hm1) hm1) hy.1 dX5_targets_30 rfl (Nat.le_of_ble_eq_true rfl) ?_
  exact ev_lret dX5_targets_33 (setL_cong (fun k hk => goG_at (by rw [lb_not _ hk]; exact congrArg (fun f => !(f k)) hP.occ) (hP.side (by omega) hk))) rfl
set_option maxRecDepth 100000 in
set_option maxHeartbeats 4000000 in
theorem c_attackedBy_5 {ae ad : Nat → Nat} {sh : mSh} {σ : mSt} {y0 l p : Nat} {g : Nat → Int32} (hy : mPlay ad sh y0 l) (hp : mPos ad sh p) (hG : wfP g) (hP : posR σ p g) (hL : lawR σ l g) {s : Nat} (hs : s ≤ 1) : ∀ (n i : Nat), (cN g * rN g) - i = n → i ≤ (cN g * rN g) → ∀ acc : Int64, (∀ k, k < 64 → lb acc k = anyF (fun f => isOfG g f s && atkG g f k) 0 i) → Ev RX5 cX5_attackedBy 6 false (some .long) (mRm 2 0 0) ae (mEq (some (.long (setL (attG g s)))) ad sh σ) 5 [some (.ref (ad y0)), some (.ref (ad p)), some (.int (nI s)), some (.long acc), none, some (.int (nI i))] [] 0 0 ad sh σ := by
  intro n
  induction n with
  | zero =>
    intro i hn hi acc hacc
    have e : i = (cN g * rN g) := by omega
    subst e
    refine ev_iload_5 dX5_attackedBy_5 ?_
    refine ev_aload_1 dX5_attackedBy_7 ?_
    refine cl_X5_95 (c_squares hp) hp.1 dX5_attackedBy_8 rfl (Nat.le_of_ble_eq_true rfl) ?_
    rw [hP.sq hG]
    refine ev_icmp_ge (tgt := 47) dX5_attackedBy_11 (by decide) (fun h11 => ?_) (fun h11 => absurd (Int32.le_refl _) h11)
    refine ev_lload_3 dX5_attackedBy_47 ?_
    exact ev_lret dX5_attackedBy_48 (setL_of hacc) rfl
  | succ n ih =>
    intro i hn hi acc hacc
    have hlt : i < (cN g * rN g) := by omega
    have h36 := wf_sq hG
    refine ev_iload_5 dX5_attackedBy_5 ?_
    refine ev_aload_1 dX5_attackedBy_7 ?_
    refine cl_X5_95 (c_squares hp) hp.1 dX5_attackedBy_8 rfl (Nat.le_of_ble_eq_true rfl) ?_
    rw [hP.sq hG]
    refine ev_icmp_ge (tgt := 47) dX5_attackedBy_11 (by decide) (fun h11 => absurd h11 (nI_ge hlt (by omega))) (fun h11 => ?_)
    refine ev_aload_1 dX5_attackedBy_14 ?_
    refine ev_iload_2 dX5_attackedBy_15 ?_
    refine cl_X5_33 (c_menOf hp) hp.1 dX5_attackedBy_16 rfl (Nat.le_of_ble_eq_true rfl) ?_
    refine ev_iload_5 dX5_attackedBy_19 ?_
    refine cl_X5_99 c_has dX5_attackedBy_21 rfl (Nat.le_of_ble_eq_true rfl) ?_
    rw [hasR_nI (by omega), hP.side hs (by omega)]
    refine ev_if_eq (tgt := 41) dX5_attackedBy_24 (by decide) (fun h24 => ?_) (fun h24 => ?_)
    · refine ev_iinc_5 (v := 1) dX5_attackedBy_41 (by decide) rfl rfl ?_
      refine ev_goto (tgt := 5) dX5_attackedBy_44 (by decide) ?_
      first
        | exact Ev.to (by rw [nI_1]) rfl rfl (ih (i + 1) (by omega) (by omega) acc (fun k hk => by rw [hacc k hk, anyF, Nat.zero_add, (b2i_0 _).mp h24]; simp))
        | exact Ev.to (by rw [nI_1]) rfl rfl (ih (i + 1) (by omega) (by omega) _ (fun k hk => by rw [lb_or, hacc k hk, anyF, Nat.zero_add, b2i_t h24, lb_setL hk, Bool.true_and, atkG, goG_at (em' := fun _ => false) (ot' := fun _ => true) (lb_0 k) (lb_m1 hk)]))
    · refine ev_lload_3 dX5_attackedBy_27 ?_
      refine ev_aload_0 dX5_attackedBy_28 ?_
      refine ev_aload_1 dX5_attackedBy_29 ?_
      refine ev_iload_5 dX5_attackedBy_30 ?_
      refine ev_lconst_0 dX5_attackedBy_32 ?_
      refine ev_ldc2 kc_X5_24 dX5_attackedBy_33 ?_
      refine cl_X5_37 (c_endsG hy hp hG hP hL hlt (isOf_1 (b2i_t h24)).2.1) hy.1 dX5_attackedBy_36 rfl (Nat.le_of_ble_eq_true rfl) ?_
      refine ev_lor dX5_attackedBy_39 ?_
      refine ev_lstore_3 dX5_attackedBy_40 rfl rfl ?_
      refine ev_iinc_5 (v := 1) dX5_attackedBy_41 (by decide) rfl rfl ?_
      refine ev_goto (tgt := 5) dX5_attackedBy_44 (by decide) ?_
      first
        | exact Ev.to (by rw [nI_1]) rfl rfl (ih (i + 1) (by omega) (by omega) acc (fun k hk => by rw [hacc k hk, anyF, Nat.zero_add, (b2i_0 _).mp h24]; simp))
        | exact Ev.to (by rw [nI_1]) rfl rfl (ih (i + 1) (by omega) (by omega) _ (fun k hk => by rw [lb_or, hacc k hk, anyF, Nat.zero_add, b2i_t h24, lb_setL hk, Bool.true_and, atkG, goG_at (em' := fun _ => false) (ot' := fun _ => true) (lb_0 k) (lb_m1 hk)]))
set_option maxRecDepth 100000 in
set_option maxHeartbeats 4000000 in
theorem c_attackedBy {ae ad : Nat → Nat} {sh : mSh} {σ : mSt} {y0 l p : Nat} {g : Nat → Int32} (hy : mPlay ad sh y0 l) (hp : mPos ad sh p) (hG : wfP g) (hP : posR σ p g) (hL : lawR σ l g) {s : Nat} (hs : s ≤ 1) : Ct yX5_attackedBy cX5_attackedBy 6 (some .long) 2 0 0 [.ref (ad y0), .ref (ad p), .int (nI s)] ae ad sh σ (mEq (some (.long (setL (attG g s)))) ad sh σ) := by
  refine Ct.ofL (own := RX5) (ini := false) (ls := [some (.ref (ad y0)), some (.ref (ad p)), some (.int (nI s)), none, none, none]) (by decide +kernel) rfl (fun h => by cases h) (Nat.le_of_ble_eq_true rfl) rfl ?_
  refine ev_lconst_0 dX5_attackedBy_0 ?_
  refine ev_lstore_3 dX5_attackedBy_1 rfl rfl ?_
  refine ev_iconst_0 dX5_attackedBy_2 ?_
  refine ev_istore_5 dX5_attackedBy_3 rfl rfl ?_
  exact c_attackedBy_5 hy hp hG hP hL hs _ 0 rfl (Nat.zero_le _) 0 (fun k hk => lb_0 k)
theorem manAtk_eq0 : True := trivial
def manAtk (g : Nat → Int32) (s : Nat) (T : Nat → Bool) (f : Nat) : Bool := decide (f < cN g * rN g) && (isOfG g f s && anyF (fun q => atkG g f q && T q) 0 64)
theorem manAtk_eq {g : Nat → Int32} {s f : Nat} {T : Nat → Bool} : manAtk g s T f = (decide (f < cN g * rN g) && (isOfG g f s && anyF (fun q => atkG g f q && T q) 0 64)) := rfl
theorem lt_step {k i : Nat} (b : Bool) : (decide (k < i + 1) && b) = ((decide (k < i) && b) || (decide (k = i) && b)) := by
  by_cases h : k = i
  · subst h; simp
  · rw [show decide (k < i + 1) = decide (k < i) from decide_eq_decide.mpr (by omega)]; simp [h]
theorem dec_and {k i : Nat} {f : Nat → Bool} : (decide (k = i) && f k) = (decide (k = i) && f i) := by
  by_cases h : k = i
  · subst h; rfl
  · simp [h]
theorem anyE {g : Nat → Int32} {f : Nat} {ss : Int64} (h : setL (goG g (tyN (mN g f)) f (sdN (mN g f)) (fun k => lb 0 k) (fun k => lb (-1) k)) &&& ss = 0) : anyF (fun q => atkG g f q && (fun q => lb ss q) q) 0 64 = false := by
  rw [anyF_0]
  intro k hk
  have h1 := congrArg (fun x => lb x k) h
  simp only [lb_and, lb_setL hk, lb_0] at h1
  rw [atkG, goG_at (em := fun _ => false) (em' := fun k => lb 0 k) (ot' := fun k => lb (-1) k) (lb_0 k).symm (lb_m1 hk).symm]
  simpa [lb_0] using h1
theorem anyNE {g : Nat → Int32} {f : Nat} {ss : Int64} (h : ¬ setL (goG g (tyN (mN g f)) f (sdN (mN g f)) (fun k => lb 0 k) (fun k => lb (-1) k)) &&& ss = 0) : anyF (fun q => atkG g f q && (fun q => lb ss q) q) 0 64 = true := by
  refine ts_nf (fun h0 => h ?_)
  rw [anyF_0] at h0
  refine lb_ext fun k hk => ?_
  rw [lb_and, lb_setL hk, lb_0]
  have h1 := h0 k hk
  rw [atkG, goG_at (em := fun _ => false) (em' := fun k => lb 0 k) (ot' := fun k => lb (-1) k) (lb_0 k).symm (lb_m1 hk).symm] at h1
  exact h1
set_option maxRecDepth 100000 in
set_option maxHeartbeats 4000000 in
theorem c_menAttacking_6 {ae ad : Nat → Nat} {sh : mSh} {σ : mSt} {y0 l p : Nat} {g : Nat → Int32} (hy : mPlay ad sh y0 l) (hp : mPos ad sh p) (hG : wfP g) (hP : posR σ p g) (hL : lawR σ l g) {s : Nat} (hs : s ≤ 1) {ss : Int64} : ∀ (n i : Nat), (cN g * rN g) - i = n → i ≤ (cN g * rN g) → ∀ acc : Int64, (∀ k, k < 64 → lb acc k = (decide (k < i) && manAtk g s (fun q => lb ss q) k)) → Ev RX5 cX5_menAttacking 8 false (some .long) (mRm 2 0 0) ae (mEq (some (.long (setL (manAtk g s (fun q => lb ss q))))) ad sh σ) 6 [some (.ref (ad y0)), some (.ref (ad p)), some (.int (nI s)), some (.long ss), none, some (.long acc), none, some (.int (nI i))] [] 0 0 ad sh σ := by
  intro n
  induction n with
  | zero =>
    intro i hn hi acc hacc
    have e : i = (cN g * rN g) := by omega
    subst e
    refine ev_iload_7 dX5_menAttacking_6 ?_
    refine ev_aload_1 dX5_menAttacking_8 ?_
    refine cl_X5_95 (c_squares hp) hp.1 dX5_menAttacking_9 rfl (Nat.le_of_ble_eq_true rfl) ?_
    rw [hP.sq hG]
    refine ev_icmp_ge (tgt := 61) dX5_menAttacking_12 (by decide) (fun h12 => ?_) (fun h12 => absurd (Int32.le_refl _) h12)
    refine ev_lload_5 dX5_menAttacking_61 ?_
    exact ev_lret dX5_menAttacking_63 (setL_of (fun k hk => by
      rw [hacc k hk]
      unfold manAtk
      by_cases e : k < cN g * rN g <;> simp [e])) rfl
  | succ n ih =>
    intro i hn hi acc hacc
    have hlt : i < (cN g * rN g) := by omega
    have h36 := wf_sq hG
    refine ev_iload_7 dX5_menAttacking_6 ?_
    refine ev_aload_1 dX5_menAttacking_8 ?_
    refine cl_X5_95 (c_squares hp) hp.1 dX5_menAttacking_9 rfl (Nat.le_of_ble_eq_true rfl) ?_
    rw [hP.sq hG]
    refine ev_icmp_ge (tgt := 61) dX5_menAttacking_12 (by decide) (fun h12 => absurd h12 (nI_ge hlt (by omega))) (fun h12 => ?_)
    refine ev_aload_1 dX5_menAttacking_15 ?_
    refine ev_iload_2 dX5_menAttacking_16 ?_
    refine cl_X5_33 (c_menOf hp) hp.1 dX5_menAttacking_17 rfl (Nat.le_of_ble_eq_true rfl) ?_
    refine ev_iload_7 dX5_menAttacking_20 ?_
    refine cl_X5_99 c_has dX5_menAttacking_22 rfl (Nat.le_of_ble_eq_true rfl) ?_
    rw [hasR_nI (by omega), hP.side hs (by omega)]
    refine ev_if_eq (tgt := 55) dX5_menAttacking_25 (by decide) (fun h25 => ?_) (fun h25 => ?_)
    · refine ev_iinc_7 (v := 1) dX5_menAttacking_55 (by decide) rfl rfl ?_
      refine ev_goto (tgt := 6) dX5_menAttacking_58 (by decide) ?_
      first
        | exact Ev.to (by rw [nI_1]) rfl rfl (ih (i + 1) (by omega) (by omega) acc (fun k hk => by rw [hacc k hk, lt_step, dec_and (i := i) (f := manAtk g s (fun q => lb ss q)), manAtk_eq (f := i), (b2i_0 _).mp h25]; simp))
        | exact Ev.to (by rw [nI_1]) rfl rfl (ih (i + 1) (by omega) (by omega) acc (fun k hk => by rw [hacc k hk, lt_step, dec_and (i := i) (f := manAtk g s (fun q => lb ss q)), manAtk_eq (f := i), b2i_t h25, anyE ((lg_cmp_0 _ _).mp h43)]; simp))
        | exact Ev.to (by rw [nI_1]) rfl rfl (ih (i + 1) (by omega) (by omega) _ (fun k hk => by rw [lb_or, show (1 : Int64) <<< ((nI i).toInt64 &&& 63) = mBit (nI i) from rfl, lb_mBit (by omega) hk, hacc k hk, lt_step, dec_and (i := i) (f := manAtk g s (fun q => lb ss q)), manAtk_eq (f := i), b2i_t h25, anyNE (fun q => h43 ((lg_cmp_0 _ _).mpr q)), decide_eq_true hlt]; simp))
    · refine ev_aload_0 dX5_menAttacking_28 ?_
      refine ev_aload_1 dX5_menAttacking_29 ?_
      refine ev_iload_7 dX5_menAttacking_30 ?_
      refine ev_lconst_0 dX5_menAttacking_32 ?_
      refine ev_ldc2 kc_X5_24 dX5_menAttacking_33 ?_
      refine cl_X5_37 (c_endsG hy hp hG hP hL hlt (isOf_1 (b2i_t h25)).2.1) hy.1 dX5_menAttacking_36 rfl (Nat.le_of_ble_eq_true rfl) ?_
      skip
      refine ev_lload_3 dX5_menAttacking_39 ?_
      refine ev_land dX5_menAttacking_40 ?_
      refine ev_lconst_0 dX5_menAttacking_41 ?_
      refine ev_lcmp dX5_menAttacking_42 ?_
      refine ev_if_eq (tgt := 55) dX5_menAttacking_43 (by decide) (fun h43 => ?_) (fun h43 => ?_)
      · refine ev_iinc_7 (v := 1) dX5_menAttacking_55 (by decide) rfl rfl ?_
        refine ev_goto (tgt := 6) dX5_menAttacking_58 (by decide) ?_
        first
          | exact Ev.to (by rw [nI_1]) rfl rfl (ih (i + 1) (by omega) (by omega) acc (fun k hk => by rw [hacc k hk, lt_step, dec_and (i := i) (f := manAtk g s (fun q => lb ss q)), manAtk_eq (f := i), (b2i_0 _).mp h25]; simp))
          | exact Ev.to (by rw [nI_1]) rfl rfl (ih (i + 1) (by omega) (by omega) acc (fun k hk => by rw [hacc k hk, lt_step, dec_and (i := i) (f := manAtk g s (fun q => lb ss q)), manAtk_eq (f := i), b2i_t h25, anyE ((lg_cmp_0 _ _).mp h43)]; simp))
          | exact Ev.to (by rw [nI_1]) rfl rfl (ih (i + 1) (by omega) (by omega) _ (fun k hk => by rw [lb_or, show (1 : Int64) <<< ((nI i).toInt64 &&& 63) = mBit (nI i) from rfl, lb_mBit (by omega) hk, hacc k hk, lt_step, dec_and (i := i) (f := manAtk g s (fun q => lb ss q)), manAtk_eq (f := i), b2i_t h25, anyNE (fun q => h43 ((lg_cmp_0 _ _).mpr q)), decide_eq_true hlt]; simp))
      · refine ev_lload_5 dX5_menAttacking_46 ?_
        refine ev_lconst_1 dX5_menAttacking_48 ?_
        refine ev_iload_7 dX5_menAttacking_49 ?_
        refine ev_lshl dX5_menAttacking_51 ?_
        refine ev_lor dX5_menAttacking_52 ?_
        refine ev_lstore_5 dX5_menAttacking_53 rfl rfl ?_
        refine ev_iinc_7 (v := 1) dX5_menAttacking_55 (by decide) rfl rfl ?_
        refine ev_goto (tgt := 6) dX5_menAttacking_58 (by decide) ?_
        first
          | exact Ev.to (by rw [nI_1]) rfl rfl (ih (i + 1) (by omega) (by omega) acc (fun k hk => by rw [hacc k hk, lt_step, dec_and (i := i) (f := manAtk g s (fun q => lb ss q)), manAtk_eq (f := i), (b2i_0 _).mp h25]; simp))
          | exact Ev.to (by rw [nI_1]) rfl rfl (ih (i + 1) (by omega) (by omega) acc (fun k hk => by rw [hacc k hk, lt_step, dec_and (i := i) (f := manAtk g s (fun q => lb ss q)), manAtk_eq (f := i), b2i_t h25, anyE ((lg_cmp_0 _ _).mp h43)]; simp))
          | exact Ev.to (by rw [nI_1]) rfl rfl (ih (i + 1) (by omega) (by omega) _ (fun k hk => by rw [lb_or, show (1 : Int64) <<< ((nI i).toInt64 &&& 63) = mBit (nI i) from rfl, lb_mBit (by omega) hk, hacc k hk, lt_step, dec_and (i := i) (f := manAtk g s (fun q => lb ss q)), manAtk_eq (f := i), b2i_t h25, anyNE (fun q => h43 ((lg_cmp_0 _ _).mpr q)), decide_eq_true hlt]; simp))
set_option maxRecDepth 100000 in
set_option maxHeartbeats 4000000 in
theorem c_menAttacking {ae ad : Nat → Nat} {sh : mSh} {σ : mSt} {y0 l p : Nat} {g : Nat → Int32} (hy : mPlay ad sh y0 l) (hp : mPos ad sh p) (hG : wfP g) (hP : posR σ p g) (hL : lawR σ l g) {s : Nat} (hs : s ≤ 1) {ss : Int64} : Ct yX5_menAttacking cX5_menAttacking 8 (some .long) 2 0 0 [.ref (ad y0), .ref (ad p), .int (nI s), .long ss] ae ad sh σ (mEq (some (.long (setL (manAtk g s (fun q => lb ss q))))) ad sh σ) := by
  refine Ct.ofL (own := RX5) (ini := false) (ls := [some (.ref (ad y0)), some (.ref (ad p)), some (.int (nI s)), some (.long ss), none, none, none, none]) (by decide +kernel) rfl (fun h => by cases h) (Nat.le_of_ble_eq_true rfl) rfl ?_
  refine ev_lconst_0 dX5_menAttacking_0 ?_
  refine ev_lstore_5 dX5_menAttacking_1 rfl rfl ?_
  refine ev_iconst_0 dX5_menAttacking_3 ?_
  refine ev_istore_7 dX5_menAttacking_4 rfl rfl ?_
  exact c_menAttacking_6 hy hp hG hP hL hs _ 0 rfl (Nat.zero_le _) 0 (fun k hk => by rw [lb_0]; simp)
