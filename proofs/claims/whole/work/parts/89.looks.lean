/-- the reference has listed nothing, or the legal moves -/
def lkR (σ : mSt) (g : Nat → Int32) : Prop := σ.1 61 13 = 0 ∨ (σ.1 61 13 = 1 ∧ mliR σ 0 g (legalG g))
/-- the reference has counted no pairs, or knows their number -/
def sqR (σ : mSt) (g : Nat → Int32) : Prop := σ.1 72 2 = -1 ∨ σ.1 72 2 = nI (pairG g)
/-- what a question leaves alone -/
def frM (σ σ' : mSt) : Prop := (∀ j, j ≤ 64 → j ≠ 61 → σ'.1 j = σ.1 j) ∧ (σ'.1 61 2 = σ.1 61 2 ∧ σ'.1 61 4 = σ.1 61 4) ∧ σ'.2 = σ.2
theorem frM.rf {σ : mSt} : frM σ σ := ⟨fun _ _ _ => rfl, ⟨rfl, rfl⟩, rfl⟩
theorem frM.tr {σ σ1 σ2 : mSt} (h1 : frM σ σ1) (h2 : frM σ1 σ2) : frM σ σ2 := ⟨fun j a b => (h2.1 j a b).trans (h1.1 j a b), ⟨h2.2.1.1.trans h1.2.1.1, h2.2.1.2.trans h1.2.1.2⟩, h2.2.2.trans h1.2.2⟩
theorem frM.now {σ σ' : mSt} {g : Nat → Int32} (h : frM σ σ') (hg : σ.1 62 = g) : σ'.1 62 = g := (h.1 62 (by decide) (by decide)).trans hg
theorem frM.A {d : Nat} {σ σ' : mSt} (h : frA d σ σ') : frM σ σ' := ⟨fun j a b => h.1 j b (by omega) (by omega) (by omega), ⟨h.2.1 2 (by decide), h.2.1 4 (by decide)⟩, h.2.2.2.2.2⟩
theorem frM.E {σ σ' : mSt} (h : frE σ σ') : frM σ σ' := frM.A (d := 0) (frA.E h)
theorem lkR.E {σ σ' : mSt} {g : Nat → Int32} (hl : lkR σ g) (h : frE σ σ') : lkR σ' g := by
  unfold lkR
  rw [h.2.1 13 (by decide)]
  exact hl.imp id (fun z => ⟨z.1, z.2.E h⟩)
theorem sqR.A {d : Nat} {σ σ' : mSt} {g : Nat → Int32} (hs : sqR σ g) (h : frA d σ σ') : sqR σ' g := by
  unfold sqR
  rw [h.1 72 (by decide) (by decide) (by decide) (by decide)]; exact hs
/-- the list at the depth 0 -/
theorem mli0 {σ : mSt} {g : Nat → Int32} {L : List Nat} (h : mliR σ 0 g L) {i m : Nat} (hi : L[i]? = some m) : σ.1 66 i = nI (mK m) ∧ σ.1 67 i = fromN g m ∧ σ.1 68 i = toN g m ∧ σ.1 69 i = nI (whN g m) := by
  have := h.2.2 i m hi
  simpa using this
def mdR (σ : mSt) (g : Nat → Int32) : Prop := σ.1 61 13 = 1 ∧ mliR σ 0 g (legalG g)
theorem mdR.lk {σ : mSt} {g : Nat → Int32} (h : mdR σ g) : lkR σ g := Or.inr h

set_option maxRecDepth 100000 in
set_option maxHeartbeats 4000000 in
theorem c_mLooks {ae ad : Nat → Nat} {sh : mSh} {σ : mSt} (hm : mModel ad sh) {g : Nat → Int32} (hg : σ.1 62 = g) (hG : wfP g) (hW : wfL g) (hk : lkR σ g) : Ct yX10_looks cX10_looks 1 none 9 0 0 [.ref (ad 61)] ae ad sh σ (mPv ad sh (fun σ' => mdR σ' g ∧ frM σ σ' ∧ σ'.1 72 = σ.1 72)) := by
  refine Ct.ofL (own := RX10) (ini := false) (ls := [some (.ref (ad 61))]) (by decide +kernel) rfl (fun h => by cases h) (Nat.le_of_ble_eq_true rfl) rfl ?_
  refine ev_aload_0 dX10_looks_0 ?_
  refine gf_X10_75 dX10_looks_1 hm.1 rfl ?_
  refine ev_if_ne (tgt := 12) dX10_looks_4 (by decide) (fun h4 => ?_) (fun h4 => ?_)
  · refine ev_aload_0 dX10_looks_12 ?_
    refine ev_iconst_1 dX10_looks_13 ?_
    refine pf_X10_75 (by decide) (by decide) dX10_looks_14 hm.1 rfl ?_
    refine ev_abs (fun σ14 hw14 hf14 hl14 => ?_)
    have znow_14 := (hf14 62 (by decide)).trans hg
    first
    | exact ev_pv dX10_looks_17 ⟨⟨by rw [hw14, upd_at], by
        unfold mliR
        rw [hf14 66 (by decide), hf14 67 (by decide), hf14 68 (by decide), hf14 69 (by decide), hf14 70 (by decide)]; exact l1⟩, (frM.A f1).tr ⟨fun j _ b => hf14 j b, ⟨by rw [hw14, upd_ne (by decide)], by rw [hw14, upd_ne (by decide)]⟩, hl14⟩, (hf14 72 (by decide)).trans (f1.1 72 (by decide) (by decide) (by decide) (by decide))⟩
    | (have h1 : σ.1 61 13 = 1 := by
         rcases hk with z | z
         · exact absurd z h4
         · exact z.1
       exact ev_pv dX10_looks_17 ⟨⟨h1, hk.elim (fun z => absurd z h4) (fun z => z.2)⟩, ⟨fun j _ b => hf14 j b, ⟨by rw [hw14, upd_ne (by decide)], by rw [hw14, upd_ne (by decide)]⟩, hl14⟩, hf14 72 (by decide)⟩)
    | (rcases hk with z | z
       · exact absurd z h4
       · exact ev_pv dX10_looks_17 ⟨⟨by rw [hw14, upd_at], by
           unfold mliR
           rw [hf14 66 (by decide), hf14 67 (by decide), hf14 68 (by decide), hf14 69 (by decide), hf14 70 (by decide)]; exact z.2⟩, ⟨fun j _ b => hf14 j b, ⟨by rw [hw14, upd_ne (by decide)], by rw [hw14, upd_ne (by decide)]⟩, hl14⟩, hf14 72 (by decide)⟩)
  · refine ev_aload_0 dX10_looks_7 ?_
    refine ev_iconst_0 dX10_looks_8 ?_
    refine cg_X10_236 (c_mLists hm hG hW (d := 0) (by decide) hg) hm.1 dX10_looks_9 rfl (Nat.le_of_ble_eq_true rfl) (fun σ1 h19 => ?_)
    obtain ⟨l1, f1⟩ := h19
    have g19 := f1.now hg
    refine ev_aload_0 dX10_looks_12 ?_
    refine ev_iconst_1 dX10_looks_13 ?_
    refine pf_X10_75 (by decide) (by decide) dX10_looks_14 hm.1 rfl ?_
    refine ev_abs (fun σ14 hw14 hf14 hl14 => ?_)
    have znow_14 := (hf14 62 (by decide)).trans g19
    first
    | exact ev_pv dX10_looks_17 ⟨⟨by rw [hw14, upd_at], by
        unfold mliR
        rw [hf14 66 (by decide), hf14 67 (by decide), hf14 68 (by decide), hf14 69 (by decide), hf14 70 (by decide)]; exact l1⟩, (frM.A f1).tr ⟨fun j _ b => hf14 j b, ⟨by rw [hw14, upd_ne (by decide)], by rw [hw14, upd_ne (by decide)]⟩, hl14⟩, (hf14 72 (by decide)).trans (f1.1 72 (by decide) (by decide) (by decide) (by decide))⟩
    | (have h1 : σ.1 61 13 = 1 := by
         rcases hk with z | z
         · exact absurd z h4
         · exact z.1
       exact ev_pv dX10_looks_17 ⟨⟨h1, hk.elim (fun z => absurd z h4) (fun z => z.2)⟩, ⟨fun j _ b => hf14 j b, ⟨by rw [hw14, upd_ne (by decide)], by rw [hw14, upd_ne (by decide)]⟩, hl14⟩, hf14 72 (by decide)⟩)
    | (rcases hk with z | z
       · exact absurd z h4
       · exact ev_pv dX10_looks_17 ⟨⟨by rw [hw14, upd_at], by
           unfold mliR
           rw [hf14 66 (by decide), hf14 67 (by decide), hf14 68 (by decide), hf14 69 (by decide), hf14 70 (by decide)]; exact z.2⟩, ⟨fun j _ b => hf14 j b, ⟨by rw [hw14, upd_ne (by decide)], by rw [hw14, upd_ne (by decide)]⟩, hl14⟩, hf14 72 (by decide)⟩)
theorem cap_0 {g : Nat → Int32} {m : Nat} (h : mK m = 0) : capN g m = mN g (mB m) := if_pos h
theorem cap_1 {g : Nat → Int32} {m : Nat} (h : ¬ mK m = 0) : capN g m = 0 := if_neg h
set_option maxRecDepth 100000 in
set_option maxHeartbeats 4000000 in
theorem c_mCap {ae ad : Nat → Nat} {sh : mSh} {σ : mSt} (hm : mModel ad sh) {g : Nat → Int32} (hg : σ.1 62 = g) (hG : wfP g) (hW : wfL g) (hk : mdR σ g) {i m : Nat} (hi : (legalG g)[i]? = some m) : Ct yX10_captures cX10_captures 2 (some .boolean) 1 0 0 [.ref (ad 61), .int (nI i)] ae ad sh σ (mEq (some (.int (b2i (decide (¬ capN g m = 0))))) ad sh σ) := by
  refine Ct.ofL (own := RX10) (ini := false) (ls := [some (.ref (ad 61)), some (.int (nI i))]) (by decide +kernel) rfl (fun h => by cases h) (Nat.le_of_ble_eq_true rfl) rfl ?_
  have hm0 := legal_ok hG hW (List.mem_of_getElem? hi)
  have h445 := legal_len hG
  have hil : i < (legalG g).length := (List.getElem?_eq_some_iff.mp hi).1
  have h36 := sq36 hG
  obtain ⟨r1, r2, r3, r4⟩ := mli0 hk.2 hi
  have hk3 := mK_le hm0
  refine ev_aload_0 dX10_captures_0 ?_
  refine gf_X10_24 dX10_captures_1 hm.1 rfl ?_
  refine ev_iload_1 dX10_captures_4 ?_
  refine ev_ldk (k := i) hm.2.2.2.2.2.1 rfl rfl (by omega) (by decide) dX10_captures_5 ?_
  rw [r1]
  refine ev_if_ne (tgt := 26) dX10_captures_6 (by decide) (fun h6 => ?_) (fun h6 => ?_)
  · refine ev_iconst_0 dX10_captures_26 ?_
    first
    | exact ev_zret (b2i_nar _) dX10_captures_27 (by rw [cap_1 (fun z => h6 (by rw [z]; rfl))]; rfl) rfl
    | exact ev_zret (b2i_nar _) dX10_captures_27 (by
        rw [cap_0 k0]
        first
        | (rw [decide_eq_false (fun z => by
             have := of_decide_eq_false (bn_f h19)
             omega)]; rfl)
        | (rw [decide_eq_true (by
             have := of_decide_eq_true (bn_t h19)
             omega)]; rfl)) rfl
  · have k0 : mK m = 0 := (nI_eq (b := 0) (by omega) (by decide)).mp h6
    obtain ⟨v1, v2, v3, v4, v5⟩ := mv0 hm0 k0
    refine ev_aload_0 dX10_captures_9 ?_
    refine ev_aload_0 dX10_captures_10 ?_
    refine gf_X10_30 dX10_captures_11 hm.1 rfl ?_
    refine ev_iload_1 dX10_captures_14 ?_
    refine ev_ldk (k := i) hm.2.2.2.2.2.2.2.1 rfl rfl (by omega) (by decide) dX10_captures_15 ?_
    rw [r3, show toN g m = nI (mB m) from if_neg (by omega)]
    refine cl_X10_172 (c_mEmpty hm hg hG (q := (mB m)) (by omega)) hm.1 dX10_captures_16 rfl (Nat.le_of_ble_eq_true rfl) ?_
    refine ev_if_ne (tgt := 26) dX10_captures_19 (by decide) (fun h19 => ?_) (fun h19 => ?_)
    · refine ev_iconst_0 dX10_captures_26 ?_
      first
      | exact ev_zret (b2i_nar _) dX10_captures_27 (by rw [cap_1 (fun z => h6 (by rw [z]; rfl))]; rfl) rfl
      | exact ev_zret (b2i_nar _) dX10_captures_27 (by
          rw [cap_0 k0]
          first
          | (rw [decide_eq_false (fun z => by
               have := of_decide_eq_false (bn_f h19)
               omega)]; rfl)
          | (rw [decide_eq_true (by
               have := of_decide_eq_true (bn_t h19)
               omega)]; rfl)) rfl
    · refine ev_iconst_1 dX10_captures_22 ?_
      refine ev_goto (tgt := 27) dX10_captures_23 (by decide) ?_
      first
      | exact ev_zret (b2i_nar _) dX10_captures_27 (by rw [cap_1 (fun z => h6 (by rw [z]; rfl))]; rfl) rfl
      | exact ev_zret (b2i_nar _) dX10_captures_27 (by
          rw [cap_0 k0]
          first
          | (rw [decide_eq_false (fun z => by
               have := of_decide_eq_false (bn_f h19)
               omega)]; rfl)
          | (rw [decide_eq_true (by
               have := of_decide_eq_true (bn_t h19)
               omega)]; rfl)) rfl
set_option maxRecDepth 100000 in
set_option maxHeartbeats 4000000 in
theorem c_mPro {ae ad : Nat → Nat} {sh : mSh} {σ : mSt} (hm : mModel ad sh) {g : Nat → Int32} (hg : σ.1 62 = g) (hG : wfP g) (hW : wfL g) (hk : mdR σ g) {i m : Nat} (hi : (legalG g)[i]? = some m) : Ct yX10_promotes cX10_promotes 2 (some .boolean) 2 0 0 [.ref (ad 61), .int (nI i)] ae ad sh σ (mEq (some (.int (b2i (proB g m)))) ad sh σ) := by
  refine Ct.ofL (own := RX10) (ini := false) (ls := [some (.ref (ad 61)), some (.int (nI i))]) (by decide +kernel) rfl (fun h => by cases h) (Nat.le_of_ble_eq_true rfl) rfl ?_
  have hm0 := legal_ok hG hW (List.mem_of_getElem? hi)
  have h445 := legal_len hG
  have hil : i < (legalG g).length := (List.getElem?_eq_some_iff.mp hi).1
  have h36 := sq36 hG
  obtain ⟨r1, r2, r3, r4⟩ := mli0 hk.2 hi
  have hk3 := mK_le hm0
  refine ev_aload_0 dX10_promotes_0 ?_
  refine gf_X10_24 dX10_promotes_1 hm.1 rfl ?_
  refine ev_iload_1 dX10_promotes_4 ?_
  refine ev_ldk (k := i) hm.2.2.2.2.2.1 rfl rfl (by omega) (by decide) dX10_promotes_5 ?_
  rw [r1]
  refine ev_if_ne (tgt := 45) dX10_promotes_6 (by decide) (fun h6 => ?_) (fun h6 => ?_)
  · refine ev_iconst_0 dX10_promotes_45 ?_
    first
    | exact ev_zret (b2i_nar _) dX10_promotes_46 (by
        unfold proB
        rw [decide_eq_false (fun z => h6 (by rw [z]; rfl))]; rfl) rfl
    | exact ev_zret (b2i_nar _) dX10_promotes_46 (by
        unfold proB
        have hp0 : proN g (tyN (mN g (mA m))) = 0 := (pm1 hp6).mp h19
        simp [hp0, b2i]) rfl
    | exact ev_zret (b2i_nar _) dX10_promotes_46 (by
        have hp1 : 1 ≤ proN g (tyN (mN g (mA m))) := Nat.pos_of_ne_zero (fun z => h19 ((pm1 hp6).mpr z))
        unfold proB
        rw [k0, v4, decide_eq_true hp1]
        first
        | (rw [b2i_t h38]; rfl)
        | (rw [(b2i_0 _).mp h38]; rfl)) rfl
  · have k0 : mK m = 0 := (nI_eq (b := 0) (by omega) (by decide)).mp h6
    obtain ⟨v1, v2, v3, v4, v5⟩ := mv0 hm0 k0
    have m12 := wf_m hG (q := mA m) (by omega)
    have hty := tyN_lt v3 m12
    have hp6 := (hW.2.2.2.1 _ hty).2
    refine ev_aload_0 dX10_promotes_9 ?_
    refine ev_aload_0 dX10_promotes_10 ?_
    refine gf_X10_33 dX10_promotes_11 hm.1 rfl ?_
    refine ev_iload_1 dX10_promotes_14 ?_
    refine ev_ldk (k := i) hm.2.2.2.2.2.2.2.2.1 rfl rfl (by omega) (by decide) dX10_promotes_15 ?_
    rw [r4, show whN g m = tyN (mN g (mA m)) from if_pos k0]
    refine cl_X10_193 (c_mPromo hm hg hG hW hty) hm.1 dX10_promotes_16 rfl (Nat.le_of_ble_eq_true rfl) ?_
    refine ev_if_lt (tgt := 45) dX10_promotes_19 (by decide) (fun h19 => ?_) (fun h19 => ?_)
    · refine ev_iconst_0 dX10_promotes_45 ?_
      first
      | exact ev_zret (b2i_nar _) dX10_promotes_46 (by
          unfold proB
          rw [decide_eq_false (fun z => h6 (by rw [z]; rfl))]; rfl) rfl
      | exact ev_zret (b2i_nar _) dX10_promotes_46 (by
          unfold proB
          have hp0 : proN g (tyN (mN g (mA m))) = 0 := (pm1 hp6).mp h19
          simp [hp0, b2i]) rfl
      | exact ev_zret (b2i_nar _) dX10_promotes_46 (by
          have hp1 : 1 ≤ proN g (tyN (mN g (mA m))) := Nat.pos_of_ne_zero (fun z => h19 ((pm1 hp6).mpr z))
          unfold proB
          rw [k0, v4, decide_eq_true hp1]
          first
          | (rw [b2i_t h38]; rfl)
          | (rw [(b2i_0 _).mp h38]; rfl)) rfl
    · refine ev_aload_0 dX10_promotes_22 ?_
      refine ev_aload_0 dX10_promotes_23 ?_
      refine gf_X10_30 dX10_promotes_24 hm.1 rfl ?_
      refine ev_iload_1 dX10_promotes_27 ?_
      refine ev_ldk (k := i) hm.2.2.2.2.2.2.2.1 rfl rfl (by omega) (by decide) dX10_promotes_28 ?_
      rw [r3, show toN g m = nI (mB m) from if_neg (by omega)]
      refine ev_aload_0 dX10_promotes_29 ?_
      refine gf_X10_11 dX10_promotes_30 hm.1 rfl ?_
      refine ev_iconst_0 dX10_promotes_33 ?_
      refine ev_ldk (k := 0) hm.2.1 hg rfl (by omega) (by decide) dX10_promotes_34 ?_
      rw [hG.2.2.2.2.2.1]
      refine cl_X10_196 (c_mFar hm hg hG (q := (mB m)) (by omega) (tu_le hG)) hm.1 dX10_promotes_35 rfl (Nat.le_of_ble_eq_true rfl) ?_
      refine ev_if_eq (tgt := 45) dX10_promotes_38 (by decide) (fun h38 => ?_) (fun h38 => ?_)
      · refine ev_iconst_0 dX10_promotes_45 ?_
        first
        | exact ev_zret (b2i_nar _) dX10_promotes_46 (by
            unfold proB
            rw [decide_eq_false (fun z => h6 (by rw [z]; rfl))]; rfl) rfl
        | exact ev_zret (b2i_nar _) dX10_promotes_46 (by
            unfold proB
            have hp0 : proN g (tyN (mN g (mA m))) = 0 := (pm1 hp6).mp h19
            simp [hp0, b2i]) rfl
        | exact ev_zret (b2i_nar _) dX10_promotes_46 (by
            have hp1 : 1 ≤ proN g (tyN (mN g (mA m))) := Nat.pos_of_ne_zero (fun z => h19 ((pm1 hp6).mpr z))
            unfold proB
            rw [k0, v4, decide_eq_true hp1]
            first
            | (rw [b2i_t h38]; rfl)
            | (rw [(b2i_0 _).mp h38]; rfl)) rfl
      · refine ev_iconst_1 dX10_promotes_41 ?_
        refine ev_goto (tgt := 46) dX10_promotes_42 (by decide) ?_
        first
        | exact ev_zret (b2i_nar _) dX10_promotes_46 (by
            unfold proB
            rw [decide_eq_false (fun z => h6 (by rw [z]; rfl))]; rfl) rfl
        | exact ev_zret (b2i_nar _) dX10_promotes_46 (by
            unfold proB
            have hp0 : proN g (tyN (mN g (mA m))) = 0 := (pm1 hp6).mp h19
            simp [hp0, b2i]) rfl
        | exact ev_zret (b2i_nar _) dX10_promotes_46 (by
            have hp1 : 1 ≤ proN g (tyN (mN g (mA m))) := Nat.pos_of_ne_zero (fun z => h19 ((pm1 hp6).mpr z))
            unfold proB
            rw [k0, v4, decide_eq_true hp1]
            first
            | (rw [b2i_t h38]; rfl)
            | (rw [(b2i_0 _).mp h38]; rfl)) rfl
theorem ty_man {t s : Nat} (ht : t < 6) (hs : s ≤ 1) : tyN (1 + t + 6 * s) = t := by unfold tyN; split <;> omega
theorem go_wh {g : Nat → Int32} (hG : wfP g) {m : Nat} (hm : mvOk g m) (h : ¬ mK m = 1) : tyN (goerN g m) = whN g m := by
  unfold goerN whN
  by_cases z : mK m = 0
  · rw [if_pos z, if_pos z]
  · rw [if_neg z, if_neg z, if_neg h]
    exact ty_man (mv2 hm (by have := mK_le hm; omega)).1 (tu_le hG)

set_option maxRecDepth 100000 in
set_option maxHeartbeats 4000000 in
theorem c_mTyp {ae ad : Nat → Nat} {sh : mSh} {σ : mSt} (hm : mModel ad sh) {g : Nat → Int32} (hg : σ.1 62 = g) (hG : wfP g) (hW : wfL g) (hk : mdR σ g) {i m : Nat} (hi : (legalG g)[i]? = some m) : Ct yX10_typeOf cX10_typeOf 2 (some .int) 1 0 0 [.ref (ad 61), .int (nI i)] ae ad sh σ (mEq (some (.int (nI (tyN (goerN g m))))) ad sh σ) := by
  refine Ct.ofL (own := RX10) (ini := false) (ls := [some (.ref (ad 61)), some (.int (nI i))]) (by decide +kernel) rfl (fun h => by cases h) (Nat.le_of_ble_eq_true rfl) rfl ?_
  have hm0 := legal_ok hG hW (List.mem_of_getElem? hi)
  have h445 := legal_len hG
  have hil : i < (legalG g).length := (List.getElem?_eq_some_iff.mp hi).1
  have h36 := sq36 hG
  obtain ⟨r1, r2, r3, r4⟩ := mli0 hk.2 hi
  have hk3 := mK_le hm0
  refine ev_aload_0 dX10_typeOf_0 ?_
  refine gf_X10_24 dX10_typeOf_1 hm.1 rfl ?_
  refine ev_iload_1 dX10_typeOf_4 ?_
  refine ev_ldk (k := i) hm.2.2.2.2.2.1 rfl rfl (by omega) (by decide) dX10_typeOf_5 ?_
  rw [r1]
  refine ev_iconst_1 dX10_typeOf_6 ?_
  refine ev_icmp_ne (tgt := 26) dX10_typeOf_7 (by decide) (fun h7 => ?_) (fun h7 => ?_)
  · refine ev_aload_0 dX10_typeOf_26 ?_
    refine gf_X10_33 dX10_typeOf_27 hm.1 rfl ?_
    refine ev_iload_1 dX10_typeOf_30 ?_
    refine ev_ldk (k := i) hm.2.2.2.2.2.2.2.2.1 rfl rfl (by omega) (by decide) dX10_typeOf_31 ?_
    first
    | exact ev_iret dX10_typeOf_32 (by
        rw [m1_rem ca.2.2.1 m12]
        unfold goerN
        rw [if_neg (by omega), if_pos k1]) rfl
    | exact ev_iret dX10_typeOf_32 (by rw [r4, go_wh hG hm0 (fun z => h7 (by rw [z]; rfl))]) rfl
  · have k1 : mK m = 1 := (nI_eq (b := 1) (by omega) (by decide)).mp h7
    have ca := mv1 hm0 k1
    have c36 := ((hW.2.2.2.2.2.2 _ ca.1).2.1 2 (by decide) (by decide)).2
    have m12 := wf_m hG c36
    refine ev_aload_0 dX10_typeOf_10 ?_
    refine ev_aload_0 dX10_typeOf_11 ?_
    refine gf_X10_27 dX10_typeOf_12 hm.1 rfl ?_
    refine ev_iload_1 dX10_typeOf_15 ?_
    refine ev_ldk (k := i) hm.2.2.2.2.2.2.1 rfl rfl (by omega) (by decide) dX10_typeOf_16 ?_
    rw [r2, show fromN g m = nI (caN g (mA m) 2) from by unfold fromN; rw [if_neg (by omega), if_pos k1]]
    refine cl_X10_69 (c_mMan hm hg hG (q := (caN g (mA m) 2)) (by omega)) hm.1 dX10_typeOf_17 rfl (Nat.le_of_ble_eq_true rfl) ?_
    refine ev_bipush_6 dX10_typeOf_20 ?_
    refine ev_irem dX10_typeOf_22 (show ¬ (6 : Int32) = 0 by decide) ?_
    refine ev_goto (tgt := 32) dX10_typeOf_23 (by decide) ?_
    first
    | exact ev_iret dX10_typeOf_32 (by
        rw [m1_rem ca.2.2.1 m12]
        unfold goerN
        rw [if_neg (by omega), if_pos k1]) rfl
    | exact ev_iret dX10_typeOf_32 (by rw [r4, go_wh hG hm0 (fun z => h7 (by rw [z]; rfl))]) rfl
theorem kin3 (g : Nat → Int32) : kindG g 3 = legalG g := by
  unfold kindG
  exact List.filter_eq_self.mpr (fun m _ => by unfold kinB; rw [if_pos rfl])

set_option maxRecDepth 100000 in
set_option maxHeartbeats 4000000 in
theorem c_mMoves_31 {ae ad : Nat → Nat} {sh : mSh} {σ : mSt} (hm : mModel ad sh) {g : Nat → Int32} (hg : σ.1 62 = g) (hG : wfP g) (hW : wfL g) (hk : mdR σ g) {c : Nat} (hc : c ≤ 5) (hc3 : ¬ c = 3) {P : Int32 → mSt → Prop} (hE : P (nI (kindG g (nI c)).length) σ) : ∀ (n i : Nat), (legalG g).length - i = n → i ≤ (legalG g).length → Ev RX10 cX10_moves 4 false (some .int) (mRm 10 0 0) ae (mPi ad sh P) 31 [some (.ref (ad 61)), some (.int (nI c)), some (.int (nI (((legalG g).take i).filter (fun m => kinB g m (nI c))).length)), some (.int (nI i))] [] 0 0 ad sh σ := by
  have h445 := legal_len hG
  intro n
  induction n with
  | zero =>
    intro i hn hi
    have e : i = (legalG g).length := by omega
    subst e
    refine ev_iload_3 dX10_moves_31 ?_
    refine ev_aload_0 dX10_moves_32 ?_
    refine gf_X10_36 dX10_moves_33 hm.1 rfl ?_
    refine ev_iconst_0 dX10_moves_36 ?_
    refine ev_ldk (k := 0) hm.2.2.2.2.2.2.2.2.2.1 rfl rfl (by omega) (by decide) dX10_moves_37 ?_
    rw [hk.2.1]
    refine ev_icmp_ge (tgt := 92) dX10_moves_38 (by decide) (fun h38 => ?_) (fun h38 => absurd (Int32.le_refl _) h38)
    refine ev_iload_2 dX10_moves_92 ?_
    exact ev_pi dX10_moves_93 (by rw [List.take_length]; exact hE)
  | succ n ih =>
    intro i hn hi
    have hlt : i < (legalG g).length := by omega
    obtain ⟨m, hx⟩ : ∃ m, (legalG g)[i]? = some m := ⟨_, List.getElem?_eq_getElem hlt⟩
    obtain ⟨r1, r2, r3, r4⟩ := mli0 hk.2 hx
    have hm0 := legal_ok hG hW (List.mem_of_getElem? hx)
    have hk3 := mK_le hm0
    have hki : kiR (nI m) = nI (mK m) := kiR_nI (by have := mvOk_lt hm0; omega)
    have cne : ∀ z : Nat, z < 10 → ¬ c = z → ¬ nI c = nI z := fun z hz h e => h ((nI_eq (by omega) (by omega)).mp e)
    have kb : c < 3 → kinB g m (nI c) = decide (nI (mK m) = nI c) := fun h => by
      unfold kinB
      rw [if_neg (show ¬ nI c = 3 from cne 3 (by decide) (by omega)), if_neg (show ¬ nI c = 4 from cne 4 (by decide) (by omega)), if_neg (show ¬ nI c = 5 from cne 5 (by decide) (by omega)), hki]
    have kb4 : c = 4 → kinB g m (nI c) = decide (¬ capN g m = 0) := fun h => by
      subst h
      unfold kinB
      rw [if_neg (by decide), if_pos (show nI 4 = 4 from rfl)]
    have kb5 : c = 5 → kinB g m (nI c) = proB g m := fun h => by
      subst h
      unfold kinB
      rw [if_neg (by decide), if_neg (by decide), if_pos (show nI 5 = 5 from rfl)]
    refine ev_iload_3 dX10_moves_31 ?_
    refine ev_aload_0 dX10_moves_32 ?_
    refine gf_X10_36 dX10_moves_33 hm.1 rfl ?_
    refine ev_iconst_0 dX10_moves_36 ?_
    refine ev_ldk (k := 0) hm.2.2.2.2.2.2.2.2.2.1 rfl rfl (by omega) (by decide) dX10_moves_37 ?_
    rw [hk.2.1]
    refine ev_icmp_ge (tgt := 92) dX10_moves_38 (by decide) (fun h38 => absurd h38 (nI_ge hlt (by omega))) (fun h38 => ?_)
    refine ev_iload_1 dX10_moves_41 ?_
    refine ev_iconst_3 dX10_moves_42 ?_
    refine ev_icmp_ge (tgt := 59) dX10_moves_43 (by decide) (fun h43 => ?_) (fun h43 => ?_)
    · refine ev_iload_1 dX10_moves_59 ?_
      refine ev_iconst_4 dX10_moves_60 ?_
      refine ev_icmp_ne (tgt := 75) dX10_moves_61 (by decide) (fun h61 => ?_) (fun h61 => ?_)
      · refine ev_aload_0 dX10_moves_75 ?_
        refine ev_iload_3 dX10_moves_76 ?_
        refine cl_X10_245 (c_mPro hm hg hG hW hk (i := i) hx) hm.1 dX10_moves_77 rfl (Nat.le_of_ble_eq_true rfl) ?_
        refine ev_if_eq (tgt := 86) dX10_moves_80 (by decide) (fun h80 => ?_) (fun h80 => ?_)
        · have hok : kinB g m (nI c) = false := by
            first
            | (rw [kb ((nI_ltI (by omega) (b := 3) (by decide)).mp (Int32.not_le.mp h43)), decide_eq_false h53]; done)
            | (rw [kb4 ((nI_eq (b := 4) (by omega) (by decide)).mp h61)]; exact (b2i_0 _).mp h69)
            | (rw [kb5 (by
                 have a1 : ¬ c < 3 := fun z => absurd h43 (nI_ge (b := 3) z (by decide))
                 have a2 : ¬ c = 4 := fun z => h61 (by rw [z]; rfl)
                 omega)]; exact (b2i_0 _).mp h80)
          refine ev_iinc_3 (v := 1) dX10_moves_86 (by decide) rfl rfl ?_
          rw [show nI i + 1 = nI (i + 1) from nI_add (i) 1]
          refine ev_goto (tgt := 31) dX10_moves_89 (by decide) ?_
          exact Ev.to (by rw [flt_succ hx, hok, if_neg (by decide), List.append_nil]) rfl rfl (ih (i + 1) (by omega) (by omega))
        · have hok : kinB g m (nI c) = true := by
            first
            | (rw [kb ((nI_ltI (by omega) (b := 3) (by decide)).mp (Int32.not_le.mp h43)), decide_eq_true h53]; done)
            | (rw [kb4 ((nI_eq (b := 4) (by omega) (by decide)).mp h61)]; exact b2i_t h69)
            | (rw [kb5 (by
                 have a1 : ¬ c < 3 := fun z => absurd h43 (nI_ge (b := 3) z (by decide))
                 have a2 : ¬ c = 4 := fun z => h61 (by rw [z]; rfl)
                 omega)]; exact b2i_t h80)
          refine ev_iinc_2 (v := 1) dX10_moves_83 (by decide) rfl rfl ?_
          skip
          refine ev_iinc_3 (v := 1) dX10_moves_86 (by decide) rfl rfl ?_
          rw [show nI i + 1 = nI (i + 1) from nI_add (i) 1]
          refine ev_goto (tgt := 31) dX10_moves_89 (by decide) ?_
          exact Ev.to (by rw [nI_1, flt_succ hx, hok, if_pos rfl, List.length_append]; rfl) rfl rfl (ih (i + 1) (by omega) (by omega))
      · refine ev_aload_0 dX10_moves_64 ?_
        refine ev_iload_3 dX10_moves_65 ?_
        refine cl_X10_242 (c_mCap hm hg hG hW hk (i := i) hx) hm.1 dX10_moves_66 rfl (Nat.le_of_ble_eq_true rfl) ?_
        refine ev_if_eq (tgt := 86) dX10_moves_69 (by decide) (fun h69 => ?_) (fun h69 => ?_)
        · have hok : kinB g m (nI c) = false := by
            first
            | (rw [kb ((nI_ltI (by omega) (b := 3) (by decide)).mp (Int32.not_le.mp h43)), decide_eq_false h53]; done)
            | (rw [kb4 ((nI_eq (b := 4) (by omega) (by decide)).mp h61)]; exact (b2i_0 _).mp h69)
            | (rw [kb5 (by
                 have a1 : ¬ c < 3 := fun z => absurd h43 (nI_ge (b := 3) z (by decide))
                 have a2 : ¬ c = 4 := fun z => h61 (by rw [z]; rfl)
                 omega)]; exact (b2i_0 _).mp h80)
          refine ev_iinc_3 (v := 1) dX10_moves_86 (by decide) rfl rfl ?_
          rw [show nI i + 1 = nI (i + 1) from nI_add (i) 1]
          refine ev_goto (tgt := 31) dX10_moves_89 (by decide) ?_
          exact Ev.to (by rw [flt_succ hx, hok, if_neg (by decide), List.append_nil]) rfl rfl (ih (i + 1) (by omega) (by omega))
        · refine ev_goto (tgt := 83) dX10_moves_72 (by decide) ?_
          have hok : kinB g m (nI c) = true := by
            first
            | (rw [kb ((nI_ltI (by omega) (b := 3) (by decide)).mp (Int32.not_le.mp h43)), decide_eq_true h53]; done)
            | (rw [kb4 ((nI_eq (b := 4) (by omega) (by decide)).mp h61)]; exact b2i_t h69)
            | (rw [kb5 (by
                 have a1 : ¬ c < 3 := fun z => absurd h43 (nI_ge (b := 3) z (by decide))
                 have a2 : ¬ c = 4 := fun z => h61 (by rw [z]; rfl)
                 omega)]; exact b2i_t h80)
          refine ev_iinc_2 (v := 1) dX10_moves_83 (by decide) rfl rfl ?_
          skip
          refine ev_iinc_3 (v := 1) dX10_moves_86 (by decide) rfl rfl ?_
          rw [show nI i + 1 = nI (i + 1) from nI_add (i) 1]
          refine ev_goto (tgt := 31) dX10_moves_89 (by decide) ?_
          exact Ev.to (by rw [nI_1, flt_succ hx, hok, if_pos rfl, List.length_append]; rfl) rfl rfl (ih (i + 1) (by omega) (by omega))
    · refine ev_aload_0 dX10_moves_46 ?_
      refine gf_X10_24 dX10_moves_47 hm.1 rfl ?_
      refine ev_iload_3 dX10_moves_50 ?_
      refine ev_ldk (k := i) hm.2.2.2.2.2.1 rfl rfl (by omega) (by decide) dX10_moves_51 ?_
      rw [r1]
      refine ev_iload_1 dX10_moves_52 ?_
      refine ev_icmp_ne (tgt := 86) dX10_moves_53 (by decide) (fun h53 => ?_) (fun h53 => ?_)
      · have hok : kinB g m (nI c) = false := by
          first
          | (rw [kb ((nI_ltI (by omega) (b := 3) (by decide)).mp (Int32.not_le.mp h43)), decide_eq_false h53]; done)
          | (rw [kb4 ((nI_eq (b := 4) (by omega) (by decide)).mp h61)]; exact (b2i_0 _).mp h69)
          | (rw [kb5 (by
               have a1 : ¬ c < 3 := fun z => absurd h43 (nI_ge (b := 3) z (by decide))
               have a2 : ¬ c = 4 := fun z => h61 (by rw [z]; rfl)
               omega)]; exact (b2i_0 _).mp h80)
        refine ev_iinc_3 (v := 1) dX10_moves_86 (by decide) rfl rfl ?_
        rw [show nI i + 1 = nI (i + 1) from nI_add (i) 1]
        refine ev_goto (tgt := 31) dX10_moves_89 (by decide) ?_
        exact Ev.to (by rw [flt_succ hx, hok, if_neg (by decide), List.append_nil]) rfl rfl (ih (i + 1) (by omega) (by omega))
      · refine ev_goto (tgt := 83) dX10_moves_56 (by decide) ?_
        have hok : kinB g m (nI c) = true := by
          first
          | (rw [kb ((nI_ltI (by omega) (b := 3) (by decide)).mp (Int32.not_le.mp h43)), decide_eq_true h53]; done)
          | (rw [kb4 ((nI_eq (b := 4) (by omega) (by decide)).mp h61)]; exact b2i_t h69)
          | (rw [kb5 (by
               have a1 : ¬ c < 3 := fun z => absurd h43 (nI_ge (b := 3) z (by decide))
               have a2 : ¬ c = 4 := fun z => h61 (by rw [z]; rfl)
               omega)]; exact b2i_t h80)
        refine ev_iinc_2 (v := 1) dX10_moves_83 (by decide) rfl rfl ?_
        skip
        refine ev_iinc_3 (v := 1) dX10_moves_86 (by decide) rfl rfl ?_
        rw [show nI i + 1 = nI (i + 1) from nI_add (i) 1]
        refine ev_goto (tgt := 31) dX10_moves_89 (by decide) ?_
        exact Ev.to (by rw [nI_1, flt_succ hx, hok, if_pos rfl, List.length_append]; rfl) rfl rfl (ih (i + 1) (by omega) (by omega))
set_option maxRecDepth 100000 in
set_option maxHeartbeats 4000000 in
theorem c_mMovesNo {ae ad : Nat → Nat} {sh : mSh} {σ : mSt} (hm : mModel ad sh) {c : Int32} (h : c < 0 ∨ 5 < c) : Ct yX10_moves cX10_moves 4 (some .int) 10 0 0 [.ref (ad 61), .int c] ae ad sh σ (mEq (some (.int (-1))) ad sh σ) := by
  refine Ct.ofL (own := RX10) (ini := false) (ls := [some (.ref (ad 61)), some (.int c), none, none]) (by decide +kernel) rfl (fun h => by cases h) (Nat.le_of_ble_eq_true rfl) rfl ?_
  refine ev_iload_1 dX10_moves_0 ?_
  refine ev_iconst_0 dX10_moves_1 ?_
  refine ev_iconst_5 dX10_moves_2 ?_
  refine cl_X10_61 c_mIn dX10_moves_3 rfl (Nat.le_of_ble_eq_true rfl) ?_
  refine ev_if_ne (tgt := 11) dX10_moves_6 (by decide) (fun h6 => absurd h6 (by rw [inB_f h]; decide)) (fun h6 => ?_)
  refine ev_iconst_m1 dX10_moves_9 ?_
  exact ev_ireturn dX10_moves_10
set_option maxRecDepth 100000 in
set_option maxHeartbeats 4000000 in
theorem c_mMoves {ae ad : Nat → Nat} {sh : mSh} {σ : mSt} (hm : mModel ad sh) {g : Nat → Int32} (hg : σ.1 62 = g) (hG : wfP g) (hW : wfL g) (hk0 : lkR σ g) {c : Nat} (hc : c ≤ 5) : Ct yX10_moves cX10_moves 4 (some .int) 10 0 0 [.ref (ad 61), .int (nI c)] ae ad sh σ (mPi ad sh (fun x σ' => x = nI (kindG g (nI c)).length ∧ mdR σ' g ∧ frM σ σ' ∧ σ'.1 72 = σ.1 72)) := by
  refine Ct.ofL (own := RX10) (ini := false) (ls := [some (.ref (ad 61)), some (.int (nI c)), none, none]) (by decide +kernel) rfl (fun h => by cases h) (Nat.le_of_ble_eq_true rfl) rfl ?_
  refine ev_iload_1 dX10_moves_0 ?_
  refine ev_iconst_0 dX10_moves_1 ?_
  refine ev_iconst_5 dX10_moves_2 ?_
  refine cl_X10_61 c_mIn dX10_moves_3 rfl (Nat.le_of_ble_eq_true rfl) ?_
  refine ev_if_ne (tgt := 11) dX10_moves_6 (by decide) (fun h6 => ?_) (fun h6 => ?_)
  · refine ev_aload_0 dX10_moves_11 ?_
    refine cg_X10_239 (c_mLooks hm hg hG hW hk0) hm.1 dX10_moves_12 rfl (Nat.le_of_ble_eq_true rfl) (fun σ1 h112 => ?_)
    obtain ⟨hk, f1, f72⟩ := h112
    have g112 := f1.now hg
    refine ev_iload_1 dX10_moves_15 ?_
    refine ev_iconst_3 dX10_moves_16 ?_
    refine ev_icmp_ne (tgt := 27) dX10_moves_17 (by decide) (fun h17 => ?_) (fun h17 => ?_)
    · refine ev_iconst_0 dX10_moves_27 ?_
      refine ev_istore_2 dX10_moves_28 rfl rfl ?_
      refine ev_iconst_0 dX10_moves_29 ?_
      refine ev_istore_3 dX10_moves_30 rfl rfl ?_
      exact Ev.to (by rfl) rfl rfl (c_mMoves_31 hm g112 hG hW hk hc (fun z => h17 (by rw [z]; rfl)) ⟨rfl, hk, f1, f72⟩ _ 0 rfl (Nat.zero_le _))
    · refine ev_aload_0 dX10_moves_20 ?_
      refine gf_X10_36 dX10_moves_21 hm.1 rfl ?_
      refine ev_iconst_0 dX10_moves_24 ?_
      refine ev_ldk (k := 0) hm.2.2.2.2.2.2.2.2.2.1 rfl rfl (by omega) (by decide) dX10_moves_25 ?_
      rw [hk.2.1]
      exact ev_pi dX10_moves_26 ⟨by rw [show nI c = 3 from h17, kin3], hk, f1, f72⟩
  · exact absurd h6 (by rw [inB_n (lo := 0) (hi := 5) (b := 0) (c := 5) rfl rfl (Nat.zero_le _) hc (by decide)]; decide)
