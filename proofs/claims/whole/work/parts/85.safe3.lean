theorem pc_val {g : Nat → Int32} (hW : wfL g) {t : Nat} (ht : t < 6) : g (60 + 21 * t) ≤ nI (pcG g t) ∧ ∀ k, k < pcG g t → ¬ g (60 + 21 * t) ≤ nI k := by
  obtain ⟨h6, hv⟩ := hW.2.2.2.2.1 t ht
  rcases hv with e | ⟨e, h1⟩
  · have e0 : pcG g t = 0 := by unfold pcG clN; rw [e]; decide
    rw [e, e0]; exact ⟨by decide, fun k hk => by omega⟩
  · rw [e]; exact ⟨Int32.le_refl _, fun k hk => nI_ge hk (by omega)⟩
theorem frE.now {σ σ' : mSt} {g : Nat → Int32} (h : frE σ σ') (hg : σ.1 62 = g) : σ'.1 62 = g := (h.1 62 (by decide) (by decide) (by decide)).trans hg
theorem lb_orA {a b : Int64} {z : Nat} {x y : Bool} (h1 : lb a z = x) (h2 : lb b z = y) : lb (a ||| b) z = (x || y) := by rw [lb_or, h1, h2]

set_option maxRecDepth 100000 in
set_option maxHeartbeats 4000000 in
theorem c_mAll0_6 {ae ad : Nat → Nat} {sh : mSh} {σ : mSt} (hm : mModel ad sh) {g : Nat → Int32} (hG : wfP g) (hW : wfL g) {f s t : Nat} (hs : s ≤ 1) (hf : f < cN g * rN g) (ht : t < 6) : ∀ (n k : Nat), pcG g t - k = n → k ≤ pcG g t → ∀ (σ2 : mSt) (acc : Int64), σ2.1 62 = g → frE σ σ2 → (∀ z, z < 64 → lb acc z = anyF (fun j => partB (cN g) (rN g) (occG g) (emA g false) (otA g s false) (f % cN g) (f / cN g) (fwS s) (mkG g t) (dmG g t) (atG g t) (rcG g t) j z) 0 k) → Ev RX10 cX10_all 8 false (some .long) (mRm 4 0 0) ae (mPl ad sh (fun x σ' => x = setL (goG g t f s (emA g false) (otA g s false)) ∧ frE σ σ')) 6 [some (.ref (ad 61)), some (.int (nI t)), some (.int (nI f)), some (.int (nI s)), some (.int 0), some (.long acc), none, some (.int (nI k))] [] 0 0 ad sh σ2 := by
  have hpv := pc_val hW ht
  have h6 := (hW.2.2.2.2.1 t ht).1
  intro n
  induction n with
  | zero =>
    intro k hn hk σ2 acc hg hfr hacc
    have e : k = pcG g t := by omega
    subst e
    refine ev_iload_7 dX10_all_6 ?_
    refine ev_aload_0 dX10_all_8 ?_
    refine gf_X10_11 dX10_all_9 hm.1 rfl ?_
    refine ev_iload_1 dX10_all_12 ?_
    refine cl_X10_54 (c_typeAt (t := (t))) dX10_all_13 rfl (Nat.le_of_ble_eq_true rfl) ?_
    refine ev_iconst_2 dX10_all_16 ?_
    refine ev_iadd dX10_all_17 ?_
    rw [show nI (58 + 21 * t) + (2 : Int32) = nI (58 + 21 * t + 2) from nI_add (58 + 21 * t) (2)]
    refine ev_ldk (k := 58 + 21 * t + 2) hm.2.1 hg rfl (by omega) (by decide) dX10_all_18 ?_
    rw [show 58 + 21 * t + 2 = 60 + 21 * t by omega]
    refine ev_icmp_ge (tgt := 52) dX10_all_19 (by decide) (fun h19 => ?_) (fun h19 => absurd hpv.1 h19)
    refine ev_lload_5 dX10_all_52 ?_
    exact ev_pl dX10_all_54 ⟨setL_of hacc, hfr⟩
  | succ n ih =>
    intro k hn hk σ2 acc hg hfr hacc
    have hlt : k < pcG g t := by omega
    refine ev_iload_7 dX10_all_6 ?_
    refine ev_aload_0 dX10_all_8 ?_
    refine gf_X10_11 dX10_all_9 hm.1 rfl ?_
    refine ev_iload_1 dX10_all_12 ?_
    refine cl_X10_54 (c_typeAt (t := (t))) dX10_all_13 rfl (Nat.le_of_ble_eq_true rfl) ?_
    refine ev_iconst_2 dX10_all_16 ?_
    refine ev_iadd dX10_all_17 ?_
    rw [show nI (58 + 21 * t) + (2 : Int32) = nI (58 + 21 * t + 2) from nI_add (58 + 21 * t) (2)]
    refine ev_ldk (k := 58 + 21 * t + 2) hm.2.1 hg rfl (by omega) (by decide) dX10_all_18 ?_
    rw [show 58 + 21 * t + 2 = 60 + 21 * t by omega]
    refine ev_icmp_ge (tgt := 52) dX10_all_19 (by decide) (fun h19 => absurd h19 (hpv.2 k hlt)) (fun h19 => ?_)
    refine ev_lload_5 dX10_all_22 ?_
    refine ev_aload_0 dX10_all_24 ?_
    refine ev_iload_1 dX10_all_25 ?_
    refine cl_X10_54 (c_typeAt (t := (t))) dX10_all_26 rfl (Nat.le_of_ble_eq_true rfl) ?_
    refine ev_iconst_3 dX10_all_29 ?_
    refine ev_iadd dX10_all_30 ?_
    rw [show nI (58 + 21 * t) + (3 : Int32) = nI (58 + 21 * t + 3) from nI_add (58 + 21 * t) (3)]
    refine ev_iconst_3 dX10_all_31 ?_
    refine ev_iload_7 dX10_all_32 ?_
    refine ev_imul dX10_all_34 ?_
    rw [show (3 : Int32) * nI k = nI (3 * k) from nI_mul (3) (k)]
    refine ev_iadd dX10_all_35 ?_
    rw [show nI (58 + 21 * t + 3) + nI (3 * k) = nI (58 + 21 * t + 3 + (3 * k)) from nI_add (58 + 21 * t + 3) (3 * k)]
    rw [show 58 + 21 * t + 3 + 3 * k = 61 + 21 * t + 3 * k by omega]
    refine ev_iload_2 dX10_all_36 ?_
    refine ev_iload_3 dX10_all_37 ?_
    refine ev_iload_4 dX10_all_38 ?_
    refine cg_X10_179 (c_mReach0 hm hg hG hW (j := k) hs hf ht hlt) hm.1 dX10_all_40 rfl (Nat.le_of_ble_eq_true rfl) (fun r1 σ1 h140 => ?_)
    obtain ⟨e1, f140⟩ := h140
    subst e1
    have znow_40 := (f140.1 62 (by decide) (by decide) (by decide)).trans hg
    refine ev_lor dX10_all_43 ?_
    refine ev_lstore_5 dX10_all_44 rfl rfl ?_
    refine ev_iinc_7 (v := 1) dX10_all_46 (by decide) rfl rfl ?_
    rw [show nI k + 1 = nI (k + 1) from nI_add (k) 1]
    refine ev_goto (tgt := 6) dX10_all_49 (by decide) ?_
    exact ih (k + 1) (by omega) (by omega) _ _ znow_40 (hfr.tr f140) (fun z hz => by rw [lb_orA (hacc z hz) (lb_setL hz), anyF, Nat.zero_add])
set_option maxRecDepth 100000 in
set_option maxHeartbeats 4000000 in
theorem c_mAll0 {ae ad : Nat → Nat} {sh : mSh} {σ : mSt} (hm : mModel ad sh) {g : Nat → Int32} (hG : wfP g) (hW : wfL g) {f s t : Nat} (hs : s ≤ 1) (hf : f < cN g * rN g) (ht : t < 6) (hg : σ.1 62 = g) : Ct yX10_all cX10_all 8 (some .long) 4 0 0 [.ref (ad 61), .int (nI t), .int (nI f), .int (nI s), .int 0] ae ad sh σ (mPl ad sh (fun x σ' => x = setL (goG g t f s (emA g false) (otA g s false)) ∧ frE σ σ')) := by
  refine Ct.ofL (own := RX10) (ini := false) (ls := [some (.ref (ad 61)), some (.int (nI t)), some (.int (nI f)), some (.int (nI s)), some (.int 0), none, none, none]) (by decide +kernel) rfl (fun h => by cases h) (Nat.le_of_ble_eq_true rfl) rfl ?_
  refine ev_lconst_0 dX10_all_0 ?_
  refine ev_lstore_5 dX10_all_1 rfl rfl ?_
  refine ev_iconst_0 dX10_all_3 ?_
  refine ev_istore_7 dX10_all_4 rfl rfl ?_
  exact c_mAll0_6 hm hG hW hs hf ht _ 0 rfl (Nat.zero_le _) σ 0 hg frE.rf (fun z _ => by rw [lb_0]; rfl)
set_option maxRecDepth 100000 in
set_option maxHeartbeats 4000000 in
theorem c_mAll1_6 {ae ad : Nat → Nat} {sh : mSh} {σ : mSt} (hm : mModel ad sh) {g : Nat → Int32} (hG : wfP g) (hW : wfL g) {f s t : Nat} (hs : s ≤ 1) (hf : f < cN g * rN g) (ht : t < 6) : ∀ (n k : Nat), pcG g t - k = n → k ≤ pcG g t → ∀ (σ2 : mSt) (acc : Int64), σ2.1 62 = g → frE σ σ2 → (∀ z, z < 64 → lb acc z = anyF (fun j => partB (cN g) (rN g) (occG g) (emA g true) (otA g s true) (f % cN g) (f / cN g) (fwS s) (mkG g t) (dmG g t) (atG g t) (rcG g t) j z) 0 k) → Ev RX10 cX10_all 8 false (some .long) (mRm 4 0 0) ae (mPl ad sh (fun x σ' => x = setL (goG g t f s (emA g true) (otA g s true)) ∧ frE σ σ')) 6 [some (.ref (ad 61)), some (.int (nI t)), some (.int (nI f)), some (.int (nI s)), some (.int 1), some (.long acc), none, some (.int (nI k))] [] 0 0 ad sh σ2 := by
  have hpv := pc_val hW ht
  have h6 := (hW.2.2.2.2.1 t ht).1
  intro n
  induction n with
  | zero =>
    intro k hn hk σ2 acc hg hfr hacc
    have e : k = pcG g t := by omega
    subst e
    refine ev_iload_7 dX10_all_6 ?_
    refine ev_aload_0 dX10_all_8 ?_
    refine gf_X10_11 dX10_all_9 hm.1 rfl ?_
    refine ev_iload_1 dX10_all_12 ?_
    refine cl_X10_54 (c_typeAt (t := (t))) dX10_all_13 rfl (Nat.le_of_ble_eq_true rfl) ?_
    refine ev_iconst_2 dX10_all_16 ?_
    refine ev_iadd dX10_all_17 ?_
    rw [show nI (58 + 21 * t) + (2 : Int32) = nI (58 + 21 * t + 2) from nI_add (58 + 21 * t) (2)]
    refine ev_ldk (k := 58 + 21 * t + 2) hm.2.1 hg rfl (by omega) (by decide) dX10_all_18 ?_
    rw [show 58 + 21 * t + 2 = 60 + 21 * t by omega]
    refine ev_icmp_ge (tgt := 52) dX10_all_19 (by decide) (fun h19 => ?_) (fun h19 => absurd hpv.1 h19)
    refine ev_lload_5 dX10_all_52 ?_
    exact ev_pl dX10_all_54 ⟨setL_of hacc, hfr⟩
  | succ n ih =>
    intro k hn hk σ2 acc hg hfr hacc
    have hlt : k < pcG g t := by omega
    refine ev_iload_7 dX10_all_6 ?_
    refine ev_aload_0 dX10_all_8 ?_
    refine gf_X10_11 dX10_all_9 hm.1 rfl ?_
    refine ev_iload_1 dX10_all_12 ?_
    refine cl_X10_54 (c_typeAt (t := (t))) dX10_all_13 rfl (Nat.le_of_ble_eq_true rfl) ?_
    refine ev_iconst_2 dX10_all_16 ?_
    refine ev_iadd dX10_all_17 ?_
    rw [show nI (58 + 21 * t) + (2 : Int32) = nI (58 + 21 * t + 2) from nI_add (58 + 21 * t) (2)]
    refine ev_ldk (k := 58 + 21 * t + 2) hm.2.1 hg rfl (by omega) (by decide) dX10_all_18 ?_
    rw [show 58 + 21 * t + 2 = 60 + 21 * t by omega]
    refine ev_icmp_ge (tgt := 52) dX10_all_19 (by decide) (fun h19 => absurd h19 (hpv.2 k hlt)) (fun h19 => ?_)
    refine ev_lload_5 dX10_all_22 ?_
    refine ev_aload_0 dX10_all_24 ?_
    refine ev_iload_1 dX10_all_25 ?_
    refine cl_X10_54 (c_typeAt (t := (t))) dX10_all_26 rfl (Nat.le_of_ble_eq_true rfl) ?_
    refine ev_iconst_3 dX10_all_29 ?_
    refine ev_iadd dX10_all_30 ?_
    rw [show nI (58 + 21 * t) + (3 : Int32) = nI (58 + 21 * t + 3) from nI_add (58 + 21 * t) (3)]
    refine ev_iconst_3 dX10_all_31 ?_
    refine ev_iload_7 dX10_all_32 ?_
    refine ev_imul dX10_all_34 ?_
    rw [show (3 : Int32) * nI k = nI (3 * k) from nI_mul (3) (k)]
    refine ev_iadd dX10_all_35 ?_
    rw [show nI (58 + 21 * t + 3) + nI (3 * k) = nI (58 + 21 * t + 3 + (3 * k)) from nI_add (58 + 21 * t + 3) (3 * k)]
    rw [show 58 + 21 * t + 3 + 3 * k = 61 + 21 * t + 3 * k by omega]
    refine ev_iload_2 dX10_all_36 ?_
    refine ev_iload_3 dX10_all_37 ?_
    refine ev_iload_4 dX10_all_38 ?_
    refine cg_X10_179 (c_mReach1 hm hg hG hW (j := k) hs hf ht hlt) hm.1 dX10_all_40 rfl (Nat.le_of_ble_eq_true rfl) (fun r1 σ1 h140 => ?_)
    obtain ⟨e1, f140⟩ := h140
    subst e1
    have znow_40 := (f140.1 62 (by decide) (by decide) (by decide)).trans hg
    refine ev_lor dX10_all_43 ?_
    refine ev_lstore_5 dX10_all_44 rfl rfl ?_
    refine ev_iinc_7 (v := 1) dX10_all_46 (by decide) rfl rfl ?_
    rw [show nI k + 1 = nI (k + 1) from nI_add (k) 1]
    refine ev_goto (tgt := 6) dX10_all_49 (by decide) ?_
    exact ih (k + 1) (by omega) (by omega) _ _ znow_40 (hfr.tr f140) (fun z hz => by rw [lb_orA (hacc z hz) (lb_setL hz), anyF, Nat.zero_add])
set_option maxRecDepth 100000 in
set_option maxHeartbeats 4000000 in
theorem c_mAll1 {ae ad : Nat → Nat} {sh : mSh} {σ : mSt} (hm : mModel ad sh) {g : Nat → Int32} (hG : wfP g) (hW : wfL g) {f s t : Nat} (hs : s ≤ 1) (hf : f < cN g * rN g) (ht : t < 6) (hg : σ.1 62 = g) : Ct yX10_all cX10_all 8 (some .long) 4 0 0 [.ref (ad 61), .int (nI t), .int (nI f), .int (nI s), .int 1] ae ad sh σ (mPl ad sh (fun x σ' => x = setL (goG g t f s (emA g true) (otA g s true)) ∧ frE σ σ')) := by
  refine Ct.ofL (own := RX10) (ini := false) (ls := [some (.ref (ad 61)), some (.int (nI t)), some (.int (nI f)), some (.int (nI s)), some (.int 1), none, none, none]) (by decide +kernel) rfl (fun h => by cases h) (Nat.le_of_ble_eq_true rfl) rfl ?_
  refine ev_lconst_0 dX10_all_0 ?_
  refine ev_lstore_5 dX10_all_1 rfl rfl ?_
  refine ev_iconst_0 dX10_all_3 ?_
  refine ev_istore_7 dX10_all_4 rfl rfl ?_
  exact c_mAll1_6 hm hG hW hs hf ht _ 0 rfl (Nat.zero_le _) σ 0 hg frE.rf (fun z _ => by rw [lb_0]; rfl)
set_option maxRecDepth 100000 in
set_option maxHeartbeats 4000000 in
theorem c_mAtt_5 {ae ad : Nat → Nat} {sh : mSh} {σ : mSt} (hm : mModel ad sh) {g : Nat → Int32} (hG : wfP g) (hW : wfL g) {s : Nat} (hs : s ≤ 1) : ∀ (n i : Nat), cN g * rN g - i = n → i ≤ cN g * rN g → ∀ (σ2 : mSt) (acc : Int64), σ2.1 62 = g → frE σ σ2 → (∀ z, z < 64 → lb acc z = anyF (fun f => isOfG g f s && atkG g f z) 0 i) → Ev RX10 cX10_attackedBy 5 false (some .long) (mRm 5 0 0) ae (mPl ad sh (fun x σ' => x = setL (attG g s) ∧ frE σ σ')) 5 [some (.ref (ad 61)), some (.int (nI s)), some (.long acc), none, some (.int (nI i))] [] 0 0 ad sh σ2 := by
  have h36 := sq36 hG
  intro n
  induction n with
  | zero =>
    intro i hn hi σ2 acc hg hfr hacc
    have e : i = cN g * rN g := by omega
    subst e
    refine ev_iload_4 dX10_attackedBy_5 ?_
    refine ev_aload_0 dX10_attackedBy_7 ?_
    refine cl_X10_65 (c_mSquares hm hg hG) hm.1 dX10_attackedBy_8 rfl (Nat.le_of_ble_eq_true rfl) ?_
    refine ev_icmp_ge (tgt := 50) dX10_attackedBy_11 (by decide) (fun h11 => ?_) (fun h11 => absurd (Int32.le_refl _) h11)
    refine ev_lload_2 dX10_attackedBy_50 ?_
    exact ev_pl dX10_attackedBy_51 ⟨setL_of hacc, hfr⟩
  | succ n ih =>
    intro i hn hi σ2 acc hg hfr hacc
    have hlt : i < cN g * rN g := by omega
    have h12 := wf_m hG (q := i) (by omega)
    refine ev_iload_4 dX10_attackedBy_5 ?_
    refine ev_aload_0 dX10_attackedBy_7 ?_
    refine cl_X10_65 (c_mSquares hm hg hG) hm.1 dX10_attackedBy_8 rfl (Nat.le_of_ble_eq_true rfl) ?_
    refine ev_icmp_ge (tgt := 50) dX10_attackedBy_11 (by decide) (fun h11 => absurd h11 (nI_ge hlt (by omega))) (fun h11 => ?_)
    refine ev_aload_0 dX10_attackedBy_14 ?_
    refine ev_iload_4 dX10_attackedBy_15 ?_
    refine ev_iload_1 dX10_attackedBy_17 ?_
    refine cl_X10_175 (c_mIsOf hm hg hG (q := (i)) (by omega) hs) hm.1 dX10_attackedBy_18 rfl (Nat.le_of_ble_eq_true rfl) ?_
    refine ev_if_eq (tgt := 44) dX10_attackedBy_21 (by decide) (fun h21 => ?_) (fun h21 => ?_)
    · refine ev_iinc_4 (v := 1) dX10_attackedBy_44 (by decide) rfl rfl ?_
      rw [show nI i + 1 = nI (i + 1) from nI_add (i) 1]
      refine ev_goto (tgt := 5) dX10_attackedBy_47 (by decide) ?_
      have hof := (b2i_0 _).mp h21
      exact ih (i + 1) (by omega) (by omega) _ _ hg hfr (fun z hz => by rw [hacc z hz, anyF, Nat.zero_add, hof, Bool.false_and, Bool.or_false])
    · have hof := b2i_t h21
      obtain ⟨m0, m1, m2⟩ := isOf_1 hof
      have hty := tyN_lt m1 h12
      refine ev_lload_2 dX10_attackedBy_24 ?_
      refine ev_aload_0 dX10_attackedBy_25 ?_
      refine ev_aload_0 dX10_attackedBy_26 ?_
      refine ev_iload_4 dX10_attackedBy_27 ?_
      refine cl_X10_69 (c_mMan hm hg hG (q := (i)) (by omega)) hm.1 dX10_attackedBy_29 rfl (Nat.le_of_ble_eq_true rfl) ?_
      refine ev_bipush_6 dX10_attackedBy_32 ?_
      refine ev_irem dX10_attackedBy_34 (show ¬ (6 : Int32) = 0 by decide) ?_
      rw [m1_rem m1 h12]
      refine ev_iload_4 dX10_attackedBy_35 ?_
      refine ev_iload_1 dX10_attackedBy_37 ?_
      refine ev_iconst_1 dX10_attackedBy_38 ?_
      refine cg_X10_183 (c_mAll1 hm hG hW hs hlt (t := (tyN (mN g i))) hty hg) hm.1 dX10_attackedBy_39 rfl (Nat.le_of_ble_eq_true rfl) (fun r1 σ1 h139 => ?_)
      obtain ⟨e1, f139⟩ := h139
      subst e1
      have znow_39 := (f139.1 62 (by decide) (by decide) (by decide)).trans hg
      refine ev_lor dX10_attackedBy_42 ?_
      refine ev_lstore_2 dX10_attackedBy_43 rfl rfl ?_
      refine ev_iinc_4 (v := 1) dX10_attackedBy_44 (by decide) rfl rfl ?_
      rw [show nI i + 1 = nI (i + 1) from nI_add (i) 1]
      refine ev_goto (tgt := 5) dX10_attackedBy_47 (by decide) ?_
      exact ih (i + 1) (by omega) (by omega) _ _ znow_39 (hfr.tr f139) (fun z hz => by
        rw [lb_orA (hacc z hz) (lb_setL hz), anyF, Nat.zero_add, hof, Bool.true_and]
        unfold atkG
        rw [m2]; rfl)
set_option maxRecDepth 100000 in
set_option maxHeartbeats 4000000 in
theorem c_mAtt {ae ad : Nat → Nat} {sh : mSh} {σ : mSt} (hm : mModel ad sh) {g : Nat → Int32} (hG : wfP g) (hW : wfL g) {s : Nat} (hs : s ≤ 1) (hg : σ.1 62 = g) : Ct yX10_attackedBy cX10_attackedBy 5 (some .long) 5 0 0 [.ref (ad 61), .int (nI s)] ae ad sh σ (mPl ad sh (fun x σ' => x = setL (attG g s) ∧ frE σ σ')) := by
  refine Ct.ofL (own := RX10) (ini := false) (ls := [some (.ref (ad 61)), some (.int (nI s)), none, none, none]) (by decide +kernel) rfl (fun h => by cases h) (Nat.le_of_ble_eq_true rfl) rfl ?_
  refine ev_lconst_0 dX10_attackedBy_0 ?_
  refine ev_lstore_2 dX10_attackedBy_1 rfl rfl ?_
  refine ev_iconst_0 dX10_attackedBy_2 ?_
  refine ev_istore_4 dX10_attackedBy_3 rfl rfl ?_
  exact c_mAtt_5 hm hG hW hs _ 0 rfl (Nat.zero_le _) σ 0 hg frE.rf (fun z _ => by rw [lb_0]; rfl)
set_option maxRecDepth 100000 in
set_option maxHeartbeats 4000000 in
theorem c_mRoy_5 {ae ad : Nat → Nat} {sh : mSh} {σ : mSt} (hm : mModel ad sh) {g : Nat → Int32} (hG : wfP g) (hW : wfL g) {s : Nat} (hs : s ≤ 1) (hg : σ.1 62 = g) : ∀ (n i : Nat), cN g * rN g - i = n → i ≤ cN g * rN g → ∀ (acc : Int64), (∀ z, z < 64 → lb acc z = (decide (z < i) && royB g s z)) → Ev RX10 cX10_royals 5 false (some .long) (mRm 2 0 0) ae (mEq (some (.long (setL (royB g s)))) ad sh σ) 5 [some (.ref (ad 61)), some (.int (nI s)), some (.long acc), none, some (.int (nI i))] [] 0 0 ad sh σ := by
  have h36 := sq36 hG
  intro n
  induction n with
  | zero =>
    intro i hn hi acc hacc
    have e : i = cN g * rN g := by omega
    subst e
    refine ev_iload_4 dX10_royals_5 ?_
    refine ev_aload_0 dX10_royals_7 ?_
    refine cl_X10_65 (c_mSquares hm hg hG) hm.1 dX10_royals_8 rfl (Nat.le_of_ble_eq_true rfl) ?_
    refine ev_icmp_ge (tgt := 58) dX10_royals_11 (by decide) (fun h11 => ?_) (fun h11 => absurd (Int32.le_refl _) h11)
    refine ev_lload_2 dX10_royals_58 ?_
    exact ev_lret dX10_royals_59 (setL_of (fun z hz => by
      rw [hacc z hz]
      by_cases y : z < cN g * rN g
      · rw [decide_eq_true y, Bool.true_and]
      · rw [royB_out (Nat.le_of_not_lt y), Bool.and_false])) rfl
  | succ n ih =>
    intro i hn hi acc hacc
    have hlt : i < cN g * rN g := by omega
    have h12 := wf_m hG (q := i) (by omega)
    have hrb := royB_i (g := g) (s := s) hlt
    have hst : ∀ b : Bool, royB g s i = b → ∀ z, (decide (z < i + 1) && royB g s z) = ((decide (z < i) && royB g s z) || (decide (z = i) && b)) := fun b hb z => by
      rw [lt_step, dec_and, hb]
    refine ev_iload_4 dX10_royals_5 ?_
    refine ev_aload_0 dX10_royals_7 ?_
    refine cl_X10_65 (c_mSquares hm hg hG) hm.1 dX10_royals_8 rfl (Nat.le_of_ble_eq_true rfl) ?_
    refine ev_icmp_ge (tgt := 58) dX10_royals_11 (by decide) (fun h11 => absurd h11 (nI_ge hlt (by omega))) (fun h11 => ?_)
    refine ev_aload_0 dX10_royals_14 ?_
    refine ev_iload_4 dX10_royals_15 ?_
    refine ev_iload_1 dX10_royals_17 ?_
    refine cl_X10_175 (c_mIsOf hm hg hG (q := (i)) (by omega) hs) hm.1 dX10_royals_18 rfl (Nat.le_of_ble_eq_true rfl) ?_
    refine ev_if_eq (tgt := 52) dX10_royals_21 (by decide) (fun h21 => ?_) (fun h21 => ?_)
    · refine ev_iinc_4 (v := 1) dX10_royals_52 (by decide) rfl rfl ?_
      rw [show nI i + 1 = nI (i + 1) from nI_add (i) 1]
      refine ev_goto (tgt := 5) dX10_royals_55 (by decide) ?_
      have hro : royB g s i = false := by
        rw [hrb]
        first
        | (rw [(b2i_0 _).mp h21, Bool.false_and]; done)
        | (rw [hof, Bool.true_and]
           refine decide_eq_false (fun z => h42 ?_)
           have : clN g (58 + 21 * tyN (mN g i)) = 1 := by
             rcases (show clN g (58 + 21 * tyN (mN g i)) = 0 ∨ clN g (58 + 21 * tyN (mN g i)) = 1 by omega) with y | y
             · exact absurd (by rw [y1, y]; rfl) z
             · exact y
           rw [y1, this]; rfl)
      exact ih (i + 1) (by omega) (by omega) _ (fun z hz => by rw [hst false hro z, Bool.and_false, Bool.or_false]; exact hacc z hz)
    · have hof := b2i_t h21
      obtain ⟨m0, m1, m2⟩ := isOf_1 hof
      have hty := tyN_lt m1 h12
      obtain ⟨y1, y2⟩ := hW.2.2.1 _ hty
      refine ev_aload_0 dX10_royals_24 ?_
      refine gf_X10_11 dX10_royals_25 hm.1 rfl ?_
      refine ev_aload_0 dX10_royals_28 ?_
      refine ev_iload_4 dX10_royals_29 ?_
      refine cl_X10_69 (c_mMan hm hg hG (q := (i)) (by omega)) hm.1 dX10_royals_31 rfl (Nat.le_of_ble_eq_true rfl) ?_
      refine ev_bipush_6 dX10_royals_34 ?_
      refine ev_irem dX10_royals_36 (show ¬ (6 : Int32) = 0 by decide) ?_
      rw [m1_rem m1 h12]
      refine cl_X10_54 (c_typeAt (t := (tyN (mN g i)))) dX10_royals_37 rfl (Nat.le_of_ble_eq_true rfl) ?_
      refine ev_ldk (k := 58 + 21 * (tyN (mN g i))) hm.2.1 hg rfl (by omega) (by decide) dX10_royals_40 ?_
      refine ev_iconst_1 dX10_royals_41 ?_
      refine ev_icmp_ne (tgt := 52) dX10_royals_42 (by decide) (fun h42 => ?_) (fun h42 => ?_)
      · refine ev_iinc_4 (v := 1) dX10_royals_52 (by decide) rfl rfl ?_
        rw [show nI i + 1 = nI (i + 1) from nI_add (i) 1]
        refine ev_goto (tgt := 5) dX10_royals_55 (by decide) ?_
        have hro : royB g s i = false := by
          rw [hrb]
          first
          | (rw [(b2i_0 _).mp h21, Bool.false_and]; done)
          | (rw [hof, Bool.true_and]
             refine decide_eq_false (fun z => h42 ?_)
             have : clN g (58 + 21 * tyN (mN g i)) = 1 := by
               rcases (show clN g (58 + 21 * tyN (mN g i)) = 0 ∨ clN g (58 + 21 * tyN (mN g i)) = 1 by omega) with y | y
               · exact absurd (by rw [y1, y]; rfl) z
               · exact y
             rw [y1, this]; rfl)
        exact ih (i + 1) (by omega) (by omega) _ (fun z hz => by rw [hst false hro z, Bool.and_false, Bool.or_false]; exact hacc z hz)
      · have hro : royB g s i = true := by
          rw [hrb, hof, Bool.true_and]
          exact decide_eq_true (by rw [h42]; decide)
        refine ev_lload_2 dX10_royals_45 ?_
        refine ev_lconst_1 dX10_royals_46 ?_
        refine ev_iload_4 dX10_royals_47 ?_
        refine ev_lshl dX10_royals_49 ?_
        refine ev_lor dX10_royals_50 ?_
        refine ev_lstore_2 dX10_royals_51 rfl rfl ?_
        refine ev_iinc_4 (v := 1) dX10_royals_52 (by decide) rfl rfl ?_
        rw [show nI i + 1 = nI (i + 1) from nI_add (i) 1]
        refine ev_goto (tgt := 5) dX10_royals_55 (by decide) ?_
        exact ih (i + 1) (by omega) (by omega) _ (fun z hz => by
          rw [hst true hro z, Bool.and_true, lb_orA (hacc z hz) (show lb (1 <<< ((nI i).toInt64 &&& 63)) z = decide (z = i) from lb_mBit (by omega) hz)])
set_option maxRecDepth 100000 in
set_option maxHeartbeats 4000000 in
theorem c_mRoy {ae ad : Nat → Nat} {sh : mSh} {σ : mSt} (hm : mModel ad sh) {g : Nat → Int32} (hG : wfP g) (hW : wfL g) {s : Nat} (hs : s ≤ 1) (hg : σ.1 62 = g) : Ct yX10_royals cX10_royals 5 (some .long) 2 0 0 [.ref (ad 61), .int (nI s)] ae ad sh σ (mEq (some (.long (setL (royB g s)))) ad sh σ) := by
  refine Ct.ofL (own := RX10) (ini := false) (ls := [some (.ref (ad 61)), some (.int (nI s)), none, none, none]) (by decide +kernel) rfl (fun h => by cases h) (Nat.le_of_ble_eq_true rfl) rfl ?_
  refine ev_lconst_0 dX10_royals_0 ?_
  refine ev_lstore_2 dX10_royals_1 rfl rfl ?_
  refine ev_iconst_0 dX10_royals_2 ?_
  refine ev_istore_4 dX10_royals_3 rfl rfl ?_
  exact c_mRoy_5 hm hG hW hs hg _ 0 rfl (Nat.zero_le _) 0 (fun z _ => by rw [lb_0]; simp)
theorem and_self_iff {r a : Int64} : r &&& a = r ↔ r &&& (a ^^^ -1) = 0 := by
  constructor
  · intro h
    refine lb_ext fun i hi => ?_
    have := congrArg (fun x => lb x i) h
    have this : lb (r &&& a) i = lb r i := this
    rw [lb_and] at this
    rw [lb_and, lb_not a hi, lb_0]
    cases h1 : lb r i <;> cases h2 : lb a i <;> simp_all
  · intro h
    refine lb_ext fun i hi => ?_
    have this : lb (r &&& (a ^^^ -1)) i = lb 0 i := congrArg (fun x => lb x i) h
    rw [lb_and, lb_not a hi, lb_0] at this
    rw [lb_and]
    cases h1 : lb r i <;> cases h2 : lb a i <;> simp_all

set_option maxRecDepth 100000 in
set_option maxHeartbeats 4000000 in
theorem c_mSafe {ae ad : Nat → Nat} {sh : mSh} {σ : mSt} (hm : mModel ad sh) {g : Nat → Int32} (hG : wfP g) (hW : wfL g) {s : Nat} (hs : s ≤ 1) (hg : σ.1 62 = g) : Ct yX10_isSafe cX10_isSafe 7 (some .boolean) 6 0 0 [.ref (ad 61), .int (nI s)] ae ad sh σ (mPi ad sh (fun x σ' => x = b2i (safeG g s) ∧ frE σ σ')) := by
  refine Ct.ofL (own := RX10) (ini := false) (ls := [some (.ref (ad 61)), some (.int (nI s)), none, none, none, none, none]) (by decide +kernel) rfl (fun h => by cases h) (Nat.le_of_ble_eq_true rfl) rfl ?_
  have h56 := hW.2.1.2
  refine ev_aload_0 dX10_isSafe_0 ?_
  refine gf_X10_11 dX10_isSafe_1 hm.1 rfl ?_
  refine ev_bipush_56 dX10_isSafe_4 ?_
  refine ev_ldk (k := 56) hm.2.1 hg rfl (by omega) (by decide) dX10_isSafe_6 ?_
  rw [hW.2.1.1]
  refine ev_istore_2 dX10_isSafe_7 rfl rfl ?_
  refine ev_iload_2 dX10_isSafe_8 ?_
  refine ev_iconst_2 dX10_isSafe_9 ?_
  refine ev_icmp_ne (tgt := 17) dX10_isSafe_10 (by decide) (fun h10 => ?_) (fun h10 => ?_)
  · refine ev_aload_0 dX10_isSafe_17 ?_
    refine ev_iload_1 dX10_isSafe_18 ?_
    refine cl_X10_186 (c_mRoy hm hG hW hs hg) hm.1 dX10_isSafe_19 rfl (Nat.le_of_ble_eq_true rfl) ?_
    refine ev_lstore_3 dX10_isSafe_22 rfl rfl ?_
    refine ev_lload_3 dX10_isSafe_23 ?_
    refine ev_lconst_0 dX10_isSafe_24 ?_
    refine ev_lcmp dX10_isSafe_25 ?_
    refine ev_if_ne (tgt := 31) dX10_isSafe_26 (by decide) (fun h26 => ?_) (fun h26 => ?_)
    · refine ev_lload_3 dX10_isSafe_31 ?_
      refine ev_aload_0 dX10_isSafe_32 ?_
      refine ev_iconst_1 dX10_isSafe_33 ?_
      refine ev_iload_1 dX10_isSafe_34 ?_
      refine ev_isub dX10_isSafe_35 ?_
      rw [show (1 : Int32) - nI s = nI (1 - s) from nI_sub hs]
      refine cg_X10_190 (c_mAtt hm hG hW (s := 1 - s) (by omega) hg) hm.1 dX10_isSafe_36 rfl (Nat.le_of_ble_eq_true rfl) (fun r1 σ1 h136 => ?_)
      obtain ⟨e1, f136⟩ := h136
      subst e1
      have znow_36 := (f136.1 62 (by decide) (by decide) (by decide)).trans hg
      refine ev_land dX10_isSafe_39 ?_
      refine ev_lstore_5 dX10_isSafe_40 rfl rfl ?_
      have n2 : ¬ clN g 56 = 2 := fun z => h10 (by rw [z]; rfl)
      have n1 : ¬ setL (royB g s) = 0 := fun z => h26 ((lg_cmp_0 _ _).mpr z)
      refine ev_iload_2 dX10_isSafe_42 ?_
      refine ev_if_ne (tgt := 61) dX10_isSafe_43 (by decide) (fun h43 => ?_) (fun h43 => ?_)
      · refine ev_lload_5 dX10_isSafe_61 ?_
        refine ev_lload_3 dX10_isSafe_63 ?_
        refine ev_lcmp dX10_isSafe_64 ?_
        refine ev_if_eq (tgt := 72) dX10_isSafe_65 (by decide) (fun h65 => ?_) (fun h65 => ?_)
        · refine ev_iconst_0 dX10_isSafe_72 ?_
          first
          | exact ev_pz (b := true) rfl dX10_isSafe_73 ⟨by rw [safe_2 ((nI_eq (by omega) (b := 2) (by decide)).mp h10)], frE.rf⟩
          | exact ev_pz (b := true) rfl dX10_isSafe_73 ⟨by rw [safe_0 hG ((lg_cmp_0 _ _).mp h26)], frE.rf⟩
          | exact ev_pz (b := safeG g s) (by
              rw [safe_r0 hG n2 n1 ((nI_eq (b := 0) (by omega) (by decide)).mp h43)]
              rw [lg_cmp_0] at h50
              first
              | (rw [decide_eq_true h50]; rfl)
              | (rw [decide_eq_false h50]; rfl)) dX10_isSafe_73 ⟨rfl, f136⟩
          | exact ev_pz (b := safeG g s) (by
              rw [safe_r1 hG n2 n1 (fun z => h43 (by rw [z]; rfl))]
              rw [lg_cmp_0, and_self_iff] at h65
              first
              | (rw [decide_eq_true h65]; rfl)
              | (rw [decide_eq_false (fun z => z h65)]; rfl)) dX10_isSafe_73 ⟨rfl, f136⟩
        · refine ev_iconst_1 dX10_isSafe_68 ?_
          refine ev_goto (tgt := 73) dX10_isSafe_69 (by decide) ?_
          first
          | exact ev_pz (b := true) rfl dX10_isSafe_73 ⟨by rw [safe_2 ((nI_eq (by omega) (b := 2) (by decide)).mp h10)], frE.rf⟩
          | exact ev_pz (b := true) rfl dX10_isSafe_73 ⟨by rw [safe_0 hG ((lg_cmp_0 _ _).mp h26)], frE.rf⟩
          | exact ev_pz (b := safeG g s) (by
              rw [safe_r0 hG n2 n1 ((nI_eq (b := 0) (by omega) (by decide)).mp h43)]
              rw [lg_cmp_0] at h50
              first
              | (rw [decide_eq_true h50]; rfl)
              | (rw [decide_eq_false h50]; rfl)) dX10_isSafe_73 ⟨rfl, f136⟩
          | exact ev_pz (b := safeG g s) (by
              rw [safe_r1 hG n2 n1 (fun z => h43 (by rw [z]; rfl))]
              rw [lg_cmp_0, and_self_iff] at h65
              first
              | (rw [decide_eq_true h65]; rfl)
              | (rw [decide_eq_false (fun z => z h65)]; rfl)) dX10_isSafe_73 ⟨rfl, f136⟩
      · refine ev_lload_5 dX10_isSafe_46 ?_
        refine ev_lconst_0 dX10_isSafe_48 ?_
        refine ev_lcmp dX10_isSafe_49 ?_
        refine ev_if_ne (tgt := 57) dX10_isSafe_50 (by decide) (fun h50 => ?_) (fun h50 => ?_)
        · refine ev_iconst_0 dX10_isSafe_57 ?_
          refine ev_goto (tgt := 73) dX10_isSafe_58 (by decide) ?_
          first
          | exact ev_pz (b := true) rfl dX10_isSafe_73 ⟨by rw [safe_2 ((nI_eq (by omega) (b := 2) (by decide)).mp h10)], frE.rf⟩
          | exact ev_pz (b := true) rfl dX10_isSafe_73 ⟨by rw [safe_0 hG ((lg_cmp_0 _ _).mp h26)], frE.rf⟩
          | exact ev_pz (b := safeG g s) (by
              rw [safe_r0 hG n2 n1 ((nI_eq (b := 0) (by omega) (by decide)).mp h43)]
              rw [lg_cmp_0] at h50
              first
              | (rw [decide_eq_true h50]; rfl)
              | (rw [decide_eq_false h50]; rfl)) dX10_isSafe_73 ⟨rfl, f136⟩
          | exact ev_pz (b := safeG g s) (by
              rw [safe_r1 hG n2 n1 (fun z => h43 (by rw [z]; rfl))]
              rw [lg_cmp_0, and_self_iff] at h65
              first
              | (rw [decide_eq_true h65]; rfl)
              | (rw [decide_eq_false (fun z => z h65)]; rfl)) dX10_isSafe_73 ⟨rfl, f136⟩
        · refine ev_iconst_1 dX10_isSafe_53 ?_
          refine ev_goto (tgt := 73) dX10_isSafe_54 (by decide) ?_
          first
          | exact ev_pz (b := true) rfl dX10_isSafe_73 ⟨by rw [safe_2 ((nI_eq (by omega) (b := 2) (by decide)).mp h10)], frE.rf⟩
          | exact ev_pz (b := true) rfl dX10_isSafe_73 ⟨by rw [safe_0 hG ((lg_cmp_0 _ _).mp h26)], frE.rf⟩
          | exact ev_pz (b := safeG g s) (by
              rw [safe_r0 hG n2 n1 ((nI_eq (b := 0) (by omega) (by decide)).mp h43)]
              rw [lg_cmp_0] at h50
              first
              | (rw [decide_eq_true h50]; rfl)
              | (rw [decide_eq_false h50]; rfl)) dX10_isSafe_73 ⟨rfl, f136⟩
          | exact ev_pz (b := safeG g s) (by
              rw [safe_r1 hG n2 n1 (fun z => h43 (by rw [z]; rfl))]
              rw [lg_cmp_0, and_self_iff] at h65
              first
              | (rw [decide_eq_true h65]; rfl)
              | (rw [decide_eq_false (fun z => z h65)]; rfl)) dX10_isSafe_73 ⟨rfl, f136⟩
    · refine ev_iconst_1 dX10_isSafe_29 ?_
      first
      | exact ev_pz (b := true) rfl dX10_isSafe_30 ⟨by rw [safe_2 ((nI_eq (by omega) (b := 2) (by decide)).mp h10)], frE.rf⟩
      | exact ev_pz (b := true) rfl dX10_isSafe_30 ⟨by rw [safe_0 hG ((lg_cmp_0 _ _).mp h26)], frE.rf⟩
      | exact ev_pz (b := safeG g s) (by
          rw [safe_r0 hG n2 n1 ((nI_eq (b := 0) (by omega) (by decide)).mp h43)]
          rw [lg_cmp_0] at h50
          first
          | (rw [decide_eq_true h50]; rfl)
          | (rw [decide_eq_false h50]; rfl)) dX10_isSafe_30 ⟨rfl, f136⟩
      | exact ev_pz (b := safeG g s) (by
          rw [safe_r1 hG n2 n1 (fun z => h43 (by rw [z]; rfl))]
          rw [lg_cmp_0, and_self_iff] at h65
          first
          | (rw [decide_eq_true h65]; rfl)
          | (rw [decide_eq_false (fun z => z h65)]; rfl)) dX10_isSafe_30 ⟨rfl, f136⟩
  · skip
    refine ev_lconst_0 dX10_isSafe_13 ?_
    refine ev_goto (tgt := 22) dX10_isSafe_14 (by decide) ?_
    refine ev_lstore_3 dX10_isSafe_22 rfl rfl ?_
    refine ev_lload_3 dX10_isSafe_23 ?_
    refine ev_lconst_0 dX10_isSafe_24 ?_
    refine ev_lcmp dX10_isSafe_25 ?_
    refine ev_if_ne (tgt := 31) dX10_isSafe_26 (by decide) (fun h26 => absurd h26 (fun z => z ((lg_cmp_0 _ _).mpr rfl))) (fun h26 => ?_)
    refine ev_iconst_1 dX10_isSafe_29 ?_
    first
    | exact ev_pz (b := true) rfl dX10_isSafe_30 ⟨by rw [safe_2 ((nI_eq (by omega) (b := 2) (by decide)).mp h10)], frE.rf⟩
    | exact ev_pz (b := true) rfl dX10_isSafe_30 ⟨by rw [safe_0 hG ((lg_cmp_0 _ _).mp h26)], frE.rf⟩
    | exact ev_pz (b := safeG g s) (by
        rw [safe_r0 hG n2 n1 ((nI_eq (b := 0) (by omega) (by decide)).mp h43)]
        rw [lg_cmp_0] at h50
        first
        | (rw [decide_eq_true h50]; rfl)
        | (rw [decide_eq_false h50]; rfl)) dX10_isSafe_30 ⟨rfl, f136⟩
    | exact ev_pz (b := safeG g s) (by
        rw [safe_r1 hG n2 n1 (fun z => h43 (by rw [z]; rfl))]
        rw [lg_cmp_0, and_self_iff] at h65
        first
        | (rw [decide_eq_true h65]; rfl)
        | (rw [decide_eq_false (fun z => z h65)]; rfl)) dX10_isSafe_30 ⟨rfl, f136⟩
