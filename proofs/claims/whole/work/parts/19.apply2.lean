theorem caLt {g : Nat → Int32} (hW : wfL g) {k i : Nat} (hk : k < 4) (hi : i < 4) : caN g k (2 + i) < 64 := by
  have := ca_lt hW hk (show 1 ≤ 2 + i by omega) (by omega)
  omega
theorem mA_4 {g : Nat → Int32} {m : Nat} (hm : mvOk g m) (h : mK m = 1) : mA m < 4 := (mv1 hm h).1
theorem sq_lt {g : Nat → Int32} (hG : wfP g) {m : Nat} (hm : mvOk g m) (h : ¬ mK m = 1) : mB m < 36 := by
  have h36 := wf_sq hG
  rcases mK_le hm with k | k | k
  · have := (mv0 hm k).2.1; omega
  · exact absurd k h
  · have := (mv2 hm k).2.1; omega
theorem sa_lt {g : Nat → Int32} (hG : wfP g) {m : Nat} (hm : mvOk g m) (h : mK m = 0) : mA m < 36 := by
  have h36 := wf_sq hG
  have := (mv0 hm h).1
  omega
set_option maxRecDepth 100000 in
set_option maxHeartbeats 4000000 in
theorem c_rights_75 {ae ad : Nat → Nat} {sh : mSh} {σ : mSt} {y0 l : Nat} {g : Nat → Int32} (hy : mPlay ad sh y0 l) (hG : wfP g) (hW : wfL g) (hL : lawR σ l g) {m : Nat} (hm : mvOk g m) {T : Int64} (hT : ∀ k, k < 64 → lb T k = tSet g m k) : ∀ (n i : Nat), 4 - i = n → i ≤ 4 → Ev RX5 cX5_rightsTouched 6 false (some .int) (mRm 2 0 0) ae (mEq (some (.int (maskF (tchB g m) 4))) ad sh σ) 75 [some (.ref (ad y0)), some (.int (nI m)), some (.long T), none, some (.int (maskF (tchB g m) i)), some (.int (nI i))] [] 0 0 ad sh σ := by
  intro n
  induction n with
  | zero =>
    intro i hn hi
    have e : i = 4 := by omega
    subst e
    refine ev_iload_5 dX5_rightsTouched_75 ?_
    refine ev_iconst_4 dX5_rightsTouched_77 ?_
    refine ev_icmp_ge (tgt := 130) dX5_rightsTouched_78 (by decide) (fun h78 => ?_) (fun h78 => absurd (by decide) h78)
    refine ev_iload_4 dX5_rightsTouched_130 ?_
    exact ev_iret dX5_rightsTouched_132 rfl rfl
  | succ n ih =>
    intro i hn hi
    have hlt : i < 4 := by omega
    refine ev_iload_5 dX5_rightsTouched_75 ?_
    refine ev_iconst_4 dX5_rightsTouched_77 ?_
    refine ev_icmp_ge (tgt := 130) dX5_rightsTouched_78 (by decide) (fun h78 => absurd h78 (nI_ge (b := 4) hlt (by decide))) (fun h78 => ?_)
    refine ev_lload_2 dX5_rightsTouched_81 ?_
    refine ev_aload_0 dX5_rightsTouched_82 ?_
    refine gf_X5_9 dX5_rightsTouched_83 hy.1 rfl ?_
    refine ev_iload_5 dX5_rightsTouched_86 ?_
    refine ev_iconst_0 dX5_rightsTouched_88 ?_
    refine cl_X5_127 (c_castlingSquare hy.2) hy.2.1 dX5_rightsTouched_89 rfl (Nat.le_of_ble_eq_true rfl) ?_
    rw [lI0, clv_sq hW hL hlt (by decide)]
    refine cl_X5_99 c_has dX5_rightsTouched_92 rfl (Nat.le_of_ble_eq_true rfl) ?_
    rw [hasR_nI (caLt hW hlt (by decide)), hT _ (caLt hW hlt (by decide))]
    refine ev_if_ne (tgt := 115) dX5_rightsTouched_95 (by decide) (fun h95 => ?_) (fun h95 => ?_)
    · refine ev_iload_4 dX5_rightsTouched_115 ?_
      refine ev_iconst_1 dX5_rightsTouched_117 ?_
      refine ev_iload_5 dX5_rightsTouched_118 ?_
      refine ev_ishl dX5_rightsTouched_120 ?_
      refine ev_ior dX5_rightsTouched_121 ?_
      refine ev_istore_4 dX5_rightsTouched_122 rfl rfl ?_
      refine ev_iinc_5 (v := 1) dX5_rightsTouched_124 (by decide) rfl rfl ?_
      refine ev_goto (tgt := 75) dX5_rightsTouched_127 (by decide) ?_
      first
        | exact Ev.to (by rw [nI_1, maskF, tchB, b2i_t h95]; rfl) rfl rfl (ih (i + 1) (by omega) (by omega))
        | exact Ev.to (by rw [nI_1, maskF, tchB, show tSet g m (caN g i 4) = true from b2i_t h112, Bool.or_true]; rfl) rfl rfl (ih (i + 1) (by omega) (by omega))
        | exact Ev.to (by rw [nI_1, maskF, tchB, show tSet g m (caN g i 2) = false from (b2i_0 _).mp (by first | exact h95 | exact Decidable.not_not.mp h95), show tSet g m (caN g i 4) = false from (b2i_0 _).mp h112]; rfl) rfl rfl (ih (i + 1) (by omega) (by omega))
    · refine ev_lload_2 dX5_rightsTouched_98 ?_
      refine ev_aload_0 dX5_rightsTouched_99 ?_
      refine gf_X5_9 dX5_rightsTouched_100 hy.1 rfl ?_
      refine ev_iload_5 dX5_rightsTouched_103 ?_
      refine ev_iconst_2 dX5_rightsTouched_105 ?_
      refine cl_X5_127 (c_castlingSquare hy.2) hy.2.1 dX5_rightsTouched_106 rfl (Nat.le_of_ble_eq_true rfl) ?_
      rw [lI2, clv_sq hW hL hlt (by decide)]
      refine cl_X5_99 c_has dX5_rightsTouched_109 rfl (Nat.le_of_ble_eq_true rfl) ?_
      rw [hasR_nI (caLt hW hlt (by decide)), hT _ (caLt hW hlt (by decide))]
      refine ev_if_eq (tgt := 124) dX5_rightsTouched_112 (by decide) (fun h112 => ?_) (fun h112 => ?_)
      · refine ev_iinc_5 (v := 1) dX5_rightsTouched_124 (by decide) rfl rfl ?_
        refine ev_goto (tgt := 75) dX5_rightsTouched_127 (by decide) ?_
        first
          | exact Ev.to (by rw [nI_1, maskF, tchB, b2i_t h95]; rfl) rfl rfl (ih (i + 1) (by omega) (by omega))
          | exact Ev.to (by rw [nI_1, maskF, tchB, show tSet g m (caN g i 4) = true from b2i_t h112, Bool.or_true]; rfl) rfl rfl (ih (i + 1) (by omega) (by omega))
          | exact Ev.to (by rw [nI_1, maskF, tchB, show tSet g m (caN g i 2) = false from (b2i_0 _).mp (by first | exact h95 | exact Decidable.not_not.mp h95), show tSet g m (caN g i 4) = false from (b2i_0 _).mp h112]; rfl) rfl rfl (ih (i + 1) (by omega) (by omega))
      · refine ev_iload_4 dX5_rightsTouched_115 ?_
        refine ev_iconst_1 dX5_rightsTouched_117 ?_
        refine ev_iload_5 dX5_rightsTouched_118 ?_
        refine ev_ishl dX5_rightsTouched_120 ?_
        refine ev_ior dX5_rightsTouched_121 ?_
        refine ev_istore_4 dX5_rightsTouched_122 rfl rfl ?_
        refine ev_iinc_5 (v := 1) dX5_rightsTouched_124 (by decide) rfl rfl ?_
        refine ev_goto (tgt := 75) dX5_rightsTouched_127 (by decide) ?_
        first
          | exact Ev.to (by rw [nI_1, maskF, tchB, b2i_t h95]; rfl) rfl rfl (ih (i + 1) (by omega) (by omega))
          | exact Ev.to (by rw [nI_1, maskF, tchB, show tSet g m (caN g i 4) = true from b2i_t h112, Bool.or_true]; rfl) rfl rfl (ih (i + 1) (by omega) (by omega))
          | exact Ev.to (by rw [nI_1, maskF, tchB, show tSet g m (caN g i 2) = false from (b2i_0 _).mp (by first | exact h95 | exact Decidable.not_not.mp h95), show tSet g m (caN g i 4) = false from (b2i_0 _).mp h112]; rfl) rfl rfl (ih (i + 1) (by omega) (by omega))
set_option maxRecDepth 100000 in
set_option maxHeartbeats 4000000 in
theorem c_rights_13 {ae ad : Nat → Nat} {sh : mSh} {σ : mSt} {y0 l : Nat} {g : Nat → Int32} (hy : mPlay ad sh y0 l) (hG : wfP g) (hW : wfL g) (hL : lawR σ l g) {m : Nat} (hm : mvOk g m) (hk : mK m = 1) : ∀ (n i : Nat), 4 - i = n → i ≤ 4 → ∀ T : Int64, (∀ k, k < 64 → lb T k = anyF (fun j => decide (k = caN g (mA m) (2 + j))) 0 i) → Ev RX5 cX5_rightsTouched 6 false (some .int) (mRm 2 0 0) ae (mEq (some (.int (maskF (tchB g m) 4))) ad sh σ) 13 [some (.ref (ad y0)), some (.int (nI m)), some (.long T), none, some (.int (nI i)), none] [] 0 0 ad sh σ := by
  intro n
  induction n with
  | zero =>
    intro i hn hi T hT
    have e : i = 4 := by omega
    subst e
    refine ev_iload_4 dX5_rightsTouched_13 ?_
    refine ev_iconst_4 dX5_rightsTouched_15 ?_
    refine ev_icmp_ge (tgt := 43) dX5_rightsTouched_16 (by decide) (fun h16 => ?_) (fun h16 => absurd (by decide) h16)
    refine ev_goto (tgt := 69) dX5_rightsTouched_43 (by decide) ?_
    refine ev_iconst_0 dX5_rightsTouched_69 ?_
    refine ev_istore_4 dX5_rightsTouched_70 rfl rfl ?_
    refine ev_iconst_0 dX5_rightsTouched_72 ?_
    refine ev_istore_5 dX5_rightsTouched_73 rfl rfl ?_
    exact c_rights_75 hy hG hW hL hm (fun k hk2 => by rw [hT k hk2, tSet, if_pos hk]) 4 0 rfl (by decide)
  | succ n ih =>
    intro i hn hi T hT
    have hlt : i < 4 := by omega
    have hlt2 := mvOk_lt hm
    refine ev_iload_4 dX5_rightsTouched_13 ?_
    refine ev_iconst_4 dX5_rightsTouched_15 ?_
    refine ev_icmp_ge (tgt := 43) dX5_rightsTouched_16 (by decide) (fun h16 => absurd h16 (nI_ge (b := 4) hlt (by decide))) (fun h16 => ?_)
    refine ev_lload_2 dX5_rightsTouched_19 ?_
    refine ev_lconst_1 dX5_rightsTouched_20 ?_
    refine ev_aload_0 dX5_rightsTouched_21 ?_
    refine gf_X5_9 dX5_rightsTouched_22 hy.1 rfl ?_
    refine ev_iload_1 dX5_rightsTouched_25 ?_
    refine cl_X5_124 c_firstOf dX5_rightsTouched_26 rfl (Nat.le_of_ble_eq_true rfl) ?_
    rw [fiR_nI (by omega)]
    refine ev_iload_4 dX5_rightsTouched_29 ?_
    refine cl_X5_127 (c_castlingSquare hy.2) hy.2.1 dX5_rightsTouched_31 rfl (Nat.le_of_ble_eq_true rfl) ?_
    rw [clv_sq hW hL (mA_4 hm hk) hlt]
    refine ev_lshl dX5_rightsTouched_34 ?_
    refine ev_lor dX5_rightsTouched_35 ?_
    refine ev_lstore_2 dX5_rightsTouched_36 rfl rfl ?_
    refine ev_iinc_4 (v := 1) dX5_rightsTouched_37 (by decide) rfl rfl ?_
    refine ev_goto (tgt := 13) dX5_rightsTouched_40 (by decide) ?_
    exact Ev.to (by rw [nI_1]) rfl rfl (ih (i + 1) (by omega) (by omega) _ (fun k hk2 => by rw [lb_or, hT k hk2, show (1 : Int64) <<< ((nI (caN g (mA m) (2 + i))).toInt64 &&& 63) = mBit (nI (caN g (mA m) (2 + i))) from rfl, lb_mBit (caLt hW (mA_4 hm hk) hlt) hk2, anyF, Nat.zero_add]))
set_option maxRecDepth 100000 in
set_option maxHeartbeats 4000000 in
theorem c_rights {ae ad : Nat → Nat} {sh : mSh} {σ : mSt} {y0 l : Nat} {g : Nat → Int32} (hy : mPlay ad sh y0 l) (hG : wfP g) (hW : wfL g) (hL : lawR σ l g) {m : Nat} (hm : mvOk g m) : Ct yX5_rightsTouched cX5_rightsTouched 6 (some .int) 2 0 0 [.ref (ad y0), .int (nI m)] ae ad sh σ (mEq (some (.int (maskF (tchB g m) 4))) ad sh σ) := by
  refine Ct.ofL (own := RX5) (ini := false) (ls := [some (.ref (ad y0)), some (.int (nI m)), none, none, none, none]) (by decide +kernel) rfl (fun h => by cases h) (Nat.le_of_ble_eq_true rfl) rfl ?_
  have hlt := mvOk_lt hm
  refine ev_lconst_0 dX5_rightsTouched_0 ?_
  refine ev_lstore_2 dX5_rightsTouched_1 rfl rfl ?_
  refine ev_iload_1 dX5_rightsTouched_2 ?_
  refine cl_X5_121 c_kindOf dX5_rightsTouched_3 rfl (Nat.le_of_ble_eq_true rfl) ?_
  rw [kiR_nI (by omega)]
  refine ev_iconst_1 dX5_rightsTouched_6 ?_
  refine ev_icmp_ne (tgt := 46) dX5_rightsTouched_7 (by decide) (fun h7 => ?_) (fun h7 => ?_)
  · have hk : ¬ mK m = 1 := fun q => h7 (by rw [q]; rfl)
    have hb := sq_lt hG hm hk
    refine ev_lconst_1 dX5_rightsTouched_46 ?_
    refine ev_iload_1 dX5_rightsTouched_47 ?_
    refine cl_X5_148 c_secondOf dX5_rightsTouched_48 rfl (Nat.le_of_ble_eq_true rfl) ?_
    rw [seR_nI]
    refine ev_lshl dX5_rightsTouched_51 ?_
    refine ev_lstore_2 dX5_rightsTouched_52 rfl rfl ?_
    refine ev_iload_1 dX5_rightsTouched_53 ?_
    refine cl_X5_121 c_kindOf dX5_rightsTouched_54 rfl (Nat.le_of_ble_eq_true rfl) ?_
    rw [kiR_nI (by omega)]
    refine ev_if_ne (tgt := 69) dX5_rightsTouched_57 (by decide) (fun h57 => ?_) (fun h57 => ?_)
    · refine ev_iconst_0 dX5_rightsTouched_69 ?_
      refine ev_istore_4 dX5_rightsTouched_70 rfl rfl ?_
      refine ev_iconst_0 dX5_rightsTouched_72 ?_
      refine ev_istore_5 dX5_rightsTouched_73 rfl rfl ?_
      first
        | exact c_rights_75 hy hG hW hL hm (fun k hk2 => by rw [lb_or, show (1 : Int64) <<< ((nI (mB m)).toInt64 &&& 63) = mBit (nI (mB m)) from rfl, show (1 : Int64) <<< ((nI (mA m)).toInt64 &&& 63) = mBit (nI (mA m)) from rfl, lb_mBit (by omega) hk2, lb_mBit (by have := sa_lt hG hm ((nI_eq (b := 0) (by unfold mK; omega) (by decide)).mp (by first | exact h57 | exact Decidable.not_not.mp h57)); omega) hk2, tSet, if_neg hk, show decide (mK m = 0) = true from decide_eq_true ((nI_eq (b := 0) (by unfold mK; omega) (by decide)).mp (by first | exact h57 | exact Decidable.not_not.mp h57)), Bool.true_and]) 4 0 rfl (by decide)
        | exact c_rights_75 hy hG hW hL hm (fun k hk2 => by rw [show (1 : Int64) <<< ((nI (mB m)).toInt64 &&& 63) = mBit (nI (mB m)) from rfl, lb_mBit (by omega) hk2, tSet, if_neg hk, show decide (mK m = 0) = false from decide_eq_false (fun q => h57 (by rw [q]; rfl)), Bool.false_and, Bool.or_false]) 4 0 rfl (by decide)
    · refine ev_lload_2 dX5_rightsTouched_60 ?_
      refine ev_lconst_1 dX5_rightsTouched_61 ?_
      refine ev_iload_1 dX5_rightsTouched_62 ?_
      refine cl_X5_124 c_firstOf dX5_rightsTouched_63 rfl (Nat.le_of_ble_eq_true rfl) ?_
      rw [fiR_nI (by omega)]
      refine ev_lshl dX5_rightsTouched_66 ?_
      refine ev_lor dX5_rightsTouched_67 ?_
      refine ev_lstore_2 dX5_rightsTouched_68 rfl rfl ?_
      refine ev_iconst_0 dX5_rightsTouched_69 ?_
      refine ev_istore_4 dX5_rightsTouched_70 rfl rfl ?_
      refine ev_iconst_0 dX5_rightsTouched_72 ?_
      refine ev_istore_5 dX5_rightsTouched_73 rfl rfl ?_
      first
        | exact c_rights_75 hy hG hW hL hm (fun k hk2 => by rw [lb_or, show (1 : Int64) <<< ((nI (mB m)).toInt64 &&& 63) = mBit (nI (mB m)) from rfl, show (1 : Int64) <<< ((nI (mA m)).toInt64 &&& 63) = mBit (nI (mA m)) from rfl, lb_mBit (by omega) hk2, lb_mBit (by have := sa_lt hG hm ((nI_eq (b := 0) (by unfold mK; omega) (by decide)).mp (by first | exact h57 | exact Decidable.not_not.mp h57)); omega) hk2, tSet, if_neg hk, show decide (mK m = 0) = true from decide_eq_true ((nI_eq (b := 0) (by unfold mK; omega) (by decide)).mp (by first | exact h57 | exact Decidable.not_not.mp h57)), Bool.true_and]) 4 0 rfl (by decide)
        | exact c_rights_75 hy hG hW hL hm (fun k hk2 => by rw [show (1 : Int64) <<< ((nI (mB m)).toInt64 &&& 63) = mBit (nI (mB m)) from rfl, lb_mBit (by omega) hk2, tSet, if_neg hk, show decide (mK m = 0) = false from decide_eq_false (fun q => h57 (by rw [q]; rfl)), Bool.false_and, Bool.or_false]) 4 0 rfl (by decide)
  · refine ev_iconst_0 dX5_rightsTouched_10 ?_
    refine ev_istore_4 dX5_rightsTouched_11 rfl rfl ?_
    have hk : mK m = 1 := (nI_eq (b := 1) (by unfold mK; omega) (by decide)).mp (by first | exact h7 | exact Decidable.not_not.mp h7)
    exact c_rights_13 hy hG hW hL hm hk 4 0 rfl (by decide) 0 (fun k hk => lb_0 k)
def sepL (l p : Nat) : Prop := l + 9 < p ∨ p + 2 < l
theorem lawR.fr {σ σ' : mSt} {l p : Nat} {g : Nat → Int32} (hL : lawR σ l g) (hf : frP σ σ' p) (hs : sepL l p) : lawR σ' l g := by
  have e : ∀ i, i ≤ 9 → σ'.1 (l + i) = σ.1 (l + i) := fun i hi => (hf (l + i) (by unfold sepL at hs; omega) (by unfold sepL at hs; omega) (by unfold sepL at hs; omega)).1
  have e0 := e 0 (by decide)
  rw [Nat.add_zero] at e0
  unfold lawR
  rw [e 1 (by decide), e 2 (by decide), e 3 (by decide), e 4 (by decide), e 5 (by decide), e 6 (by decide), e 7 (by decide), e 8 (by decide), e 9 (by decide), e0]
  exact hL
theorem posQ.man {σ : mSt} {p q : Nat} {M Hd : Nat → Nat} {C R T RI : Int32} (h : posQ σ p M Hd C R T RI) (hq : q < 36) : cellV (σ.1 (p + 1)) 36 (nI q) = nI (M q) := by
  rw [cellV_nI (by omega) hq, (h.1 q hq).1]
/-- the state behind moveTwo -/
def two (σ : mSt) (p : Nat) (g : Nat → Int32) (k f t : Nat) (M : Nat → Nat) : mSt :=
  putS (putS (putS (putS σ p (nI (caN g k (2 + f))) (nI 0)) p (nI (caN g k (4 + f))) (nI 0)) p (nI (caN g k (2 + t))) (nI (M (caN g k (2 + f))))) p (nI (caN g k (4 + t))) (nI (M (caN g k (4 + f))))
set_option maxRecDepth 100000 in
set_option maxHeartbeats 4000000 in
theorem c_moveTwo {ae ad : Nat → Nat} {sh : mSh} {σ : mSt} {y0 l p : Nat} {g : Nat → Int32} (hy : mPlay ad sh y0 l) (hp : mPos ad sh p) (hs : sepL l p) (hW : wfL g) (hL : lawR σ l g) {M Hd : Nat → Nat} {C R T RI : Int32} (hQ : posQ σ p M Hd C R T RI) {k f t : Nat} (hk : k < 4) (hf : f ≤ 1) (ht : t ≤ 1) : Ct yX5_moveTwo cX5_moveTwo 9 none 2 0 0 [.ref (ad y0), .ref (ad p), .int (nI k), .int (nI f), .int (nI t)] ae ad sh σ (mEq none ad sh (two σ p g k f t M)) := by
  refine Ct.ofL (own := RX5) (ini := false) (ls := [some (.ref (ad y0)), some (.ref (ad p)), some (.int (nI k)), some (.int (nI f)), some (.int (nI t)), none, none, none, none]) (by decide +kernel) rfl (fun h => by cases h) (Nat.le_of_ble_eq_true rfl) rfl ?_
  have a1 := ca_lt hW hk (show 1 ≤ 2 + f by omega) (by omega)
  have a2 := ca_lt hW hk (show 1 ≤ 4 + f by omega) (by omega)
  have f4 : frP σ (putS (putS σ p (nI (caN g k (2 + f))) (nI 0)) p (nI (caN g k (4 + f))) (nI 0)) p := frP.put.tr frP.put
  have L4 := hL.fr f4 hs
  have L5 := hL.fr (f4.tr (frP.put (q := nI (caN g k (2 + t))) (m := nI (M (caN g k (2 + f)))))) hs
  refine ev_aload_0 dX5_moveTwo_0 ?_
  refine gf_X5_9 dX5_moveTwo_1 hy.1 rfl ?_
  refine ev_iload_2 dX5_moveTwo_4 ?_
  refine ev_iload_3 dX5_moveTwo_5 ?_
  refine cl_X5_127 (c_castlingSquare hy.2) hy.2.1 dX5_moveTwo_6 rfl (Nat.le_of_ble_eq_true rfl) ?_
  rw [clv_sq hW hL hk (by omega)]
  refine ev_istore_5 dX5_moveTwo_9 rfl rfl ?_
  refine ev_aload_0 dX5_moveTwo_11 ?_
  refine gf_X5_9 dX5_moveTwo_12 hy.1 rfl ?_
  refine ev_iload_2 dX5_moveTwo_15 ?_
  refine ev_iconst_2 dX5_moveTwo_16 ?_
  refine ev_iload_3 dX5_moveTwo_17 ?_
  refine ev_iadd dX5_moveTwo_18 ?_
  refine cl_X5_127 (c_castlingSquare hy.2) hy.2.1 dX5_moveTwo_19 rfl (Nat.le_of_ble_eq_true rfl) ?_
  rw [lI2, nI_add, clv_sq hW hL hk (by omega), show 2 + (2 + f) = 4 + f by omega]
  refine ev_istore_6 dX5_moveTwo_22 rfl rfl ?_
  refine ev_aload_1 dX5_moveTwo_24 ?_
  refine ev_iload_5 dX5_moveTwo_25 ?_
  refine cl_X5_26 (c_manOn hp) hp.1 dX5_moveTwo_27 rfl (Nat.le_of_ble_eq_true rfl) ?_
  rw [hQ.man a1]
  refine ev_istore_7 dX5_moveTwo_30 rfl rfl ?_
  refine ev_aload_1 dX5_moveTwo_32 ?_
  refine ev_iload_6 dX5_moveTwo_33 ?_
  refine cl_X5_26 (c_manOn hp) hp.1 dX5_moveTwo_35 rfl (Nat.le_of_ble_eq_true rfl) ?_
  rw [hQ.man a2]
  refine ev_istore_8 dX5_moveTwo_38 rfl rfl ?_
  refine ev_aload_1 dX5_moveTwo_40 ?_
  refine ev_iload_5 dX5_moveTwo_41 ?_
  refine ev_iconst_0 dX5_moveTwo_43 ?_
  refine cl_X5_171 (c_put hp) hp.1 dX5_moveTwo_44 rfl (Nat.le_of_ble_eq_true rfl) ?_
  refine ev_aload_1 dX5_moveTwo_47 ?_
  refine ev_iload_6 dX5_moveTwo_48 ?_
  refine ev_iconst_0 dX5_moveTwo_50 ?_
  refine cl_X5_171 (c_put hp) hp.1 dX5_moveTwo_51 rfl (Nat.le_of_ble_eq_true rfl) ?_
  refine ev_aload_1 dX5_moveTwo_54 ?_
  refine ev_aload_0 dX5_moveTwo_55 ?_
  refine gf_X5_9 dX5_moveTwo_56 hy.1 rfl ?_
  refine ev_iload_2 dX5_moveTwo_59 ?_
  refine ev_iload_4 dX5_moveTwo_60 ?_
  refine cl_X5_127 (c_castlingSquare hy.2) hy.2.1 dX5_moveTwo_62 rfl (Nat.le_of_ble_eq_true rfl) ?_
  rw [show (0 : Int32) = nI 0 from rfl, clv_sq hW L4 hk (by omega)]
  refine ev_iload_7 dX5_moveTwo_65 ?_
  refine cl_X5_171 (c_put hp) hp.1 dX5_moveTwo_67 rfl (Nat.le_of_ble_eq_true rfl) ?_
  refine ev_aload_1 dX5_moveTwo_70 ?_
  refine ev_aload_0 dX5_moveTwo_71 ?_
  refine gf_X5_9 dX5_moveTwo_72 hy.1 rfl ?_
  refine ev_iload_2 dX5_moveTwo_75 ?_
  refine ev_iconst_2 dX5_moveTwo_76 ?_
  refine ev_iload_4 dX5_moveTwo_77 ?_
  refine ev_iadd dX5_moveTwo_79 ?_
  refine cl_X5_127 (c_castlingSquare hy.2) hy.2.1 dX5_moveTwo_80 rfl (Nat.le_of_ble_eq_true rfl) ?_
  rw [lI2, nI_add, clv_sq hW L5 hk (by omega), show 2 + (2 + t) = 4 + t by omega]
  refine ev_iload_8 dX5_moveTwo_83 ?_
  refine cl_X5_171 (c_put hp) hp.1 dX5_moveTwo_85 rfl (Nat.le_of_ble_eq_true rfl) ?_
  exact ev_vret dX5_moveTwo_88 rfl
