set_option maxRecDepth 100000 in
set_option maxHeartbeats 4000000 in
theorem c_mClear {ae ad : Nat → Nat} {sh : mSh} {σ : mSt} (hm : mModel ad sh) {g : Nat → Int32} (hG : wfP g) (hW : wfL g) {k : Nat} (hk : k < 4) (hg : σ.1 62 = g) {q : Nat} (hq : q < 36) : Ct yX10_isClear cX10_isClear 3 (some .boolean) 1 0 0 [.ref (ad 61), .int (nI q), .int (nI (184 + 6 * k))] ae ad sh σ (mEq (some (.int (b2i (clrB g k q)))) ad sh σ) := by
  refine Ct.ofL (own := RX10) (ini := false) (ls := [some (.ref (ad 61)), some (.int (nI q)), some (.int (nI (184 + 6 * k)))]) (by decide +kernel) rfl (fun h => by cases h) (Nat.le_of_ble_eq_true rfl) rfl ?_
  have c2 := (hW.2.2.2.2.2.2 k hk).2.1 2 (by decide) (by decide)
  have c4 := (hW.2.2.2.2.2.2 k hk).2.1 4 (by decide) (by decide)
  refine ev_aload_0 dX10_isClear_0 ?_
  refine ev_iload_1 dX10_isClear_1 ?_
  refine cl_X10_172 (c_mEmpty hm hg hG (q := (q)) hq) hm.1 dX10_isClear_2 rfl (Nat.le_of_ble_eq_true rfl) ?_
  refine ev_if_ne (tgt := 32) dX10_isClear_5 (by decide) (fun h5 => ?_) (fun h5 => ?_)
  · refine ev_iconst_1 dX10_isClear_32 ?_
    refine ev_goto (tgt := 37) dX10_isClear_33 (by decide) ?_
    exact ev_zret (b2i_nar _) dX10_isClear_37 (by
      unfold clrB
      first
      | (rw [bn_f h5]; rfl)
      | (rw [bn_t h5, decide_eq_true ((nI_eq (by omega) (by omega)).mp h17)]; simp [b2i])
      | (rw [bn_t h5, decide_eq_true ((nI_eq (by omega) (by omega)).mp h29)]; simp [b2i])
      | (rw [bn_t h5, decide_eq_false (fun z => h17 (congrArg nI z)), decide_eq_false (fun z => h29 (congrArg nI z))]; rfl)) rfl
  · refine ev_iload_1 dX10_isClear_8 ?_
    refine ev_aload_0 dX10_isClear_9 ?_
    refine gf_X10_11 dX10_isClear_10 hm.1 rfl ?_
    refine ev_iload_2 dX10_isClear_13 ?_
    refine ev_iconst_2 dX10_isClear_14 ?_
    refine ev_iadd dX10_isClear_15 ?_
    rw [show nI (184 + 6 * k) + (2 : Int32) = nI (184 + 6 * k + 2) from nI_add (184 + 6 * k) (2)]
    refine ev_ldk (k := 184 + 6 * k + 2) hm.2.1 hg rfl (by omega) (by decide) dX10_isClear_16 ?_
    rw [c2.1]
    refine ev_icmp_eq (tgt := 32) dX10_isClear_17 (by decide) (fun h17 => ?_) (fun h17 => ?_)
    · refine ev_iconst_1 dX10_isClear_32 ?_
      refine ev_goto (tgt := 37) dX10_isClear_33 (by decide) ?_
      exact ev_zret (b2i_nar _) dX10_isClear_37 (by
        unfold clrB
        first
        | (rw [bn_f h5]; rfl)
        | (rw [bn_t h5, decide_eq_true ((nI_eq (by omega) (by omega)).mp h17)]; simp [b2i])
        | (rw [bn_t h5, decide_eq_true ((nI_eq (by omega) (by omega)).mp h29)]; simp [b2i])
        | (rw [bn_t h5, decide_eq_false (fun z => h17 (congrArg nI z)), decide_eq_false (fun z => h29 (congrArg nI z))]; rfl)) rfl
    · refine ev_iload_1 dX10_isClear_20 ?_
      refine ev_aload_0 dX10_isClear_21 ?_
      refine gf_X10_11 dX10_isClear_22 hm.1 rfl ?_
      refine ev_iload_2 dX10_isClear_25 ?_
      refine ev_iconst_4 dX10_isClear_26 ?_
      refine ev_iadd dX10_isClear_27 ?_
      rw [show nI (184 + 6 * k) + (4 : Int32) = nI (184 + 6 * k + 4) from nI_add (184 + 6 * k) (4)]
      refine ev_ldk (k := 184 + 6 * k + 4) hm.2.1 hg rfl (by omega) (by decide) dX10_isClear_28 ?_
      rw [c4.1]
      refine ev_icmp_ne (tgt := 36) dX10_isClear_29 (by decide) (fun h29 => ?_) (fun h29 => ?_)
      · refine ev_iconst_0 dX10_isClear_36 ?_
        exact ev_zret (b2i_nar _) dX10_isClear_37 (by
          unfold clrB
          first
          | (rw [bn_f h5]; rfl)
          | (rw [bn_t h5, decide_eq_true ((nI_eq (by omega) (by omega)).mp h17)]; simp [b2i])
          | (rw [bn_t h5, decide_eq_true ((nI_eq (by omega) (by omega)).mp h29)]; simp [b2i])
          | (rw [bn_t h5, decide_eq_false (fun z => h17 (congrArg nI z)), decide_eq_false (fun z => h29 (congrArg nI z))]; rfl)) rfl
      · refine ev_iconst_1 dX10_isClear_32 ?_
        refine ev_goto (tgt := 37) dX10_isClear_33 (by decide) ?_
        exact ev_zret (b2i_nar _) dX10_isClear_37 (by
          unfold clrB
          first
          | (rw [bn_f h5]; rfl)
          | (rw [bn_t h5, decide_eq_true ((nI_eq (by omega) (by omega)).mp h17)]; simp [b2i])
          | (rw [bn_t h5, decide_eq_true ((nI_eq (by omega) (by omega)).mp h29)]; simp [b2i])
          | (rw [bn_t h5, decide_eq_false (fun z => h17 (congrArg nI z)), decide_eq_false (fun z => h29 (congrArg nI z))]; rfl)) rfl
section CB
variable {g : Nat → Int32} {k : Nat}
theorem cf_A (h : caA g k = false) : castB g k = false := by unfold castB; rw [h, Bool.false_and]
theorem cf_M (h : caM g k = false) : castB g k = false := by unfold castB; rw [h, Bool.false_and, Bool.and_false]
theorem cf_C (h : caC g k = false) : castB g k = false := by unfold castB; rw [h, Bool.false_and, Bool.and_false, Bool.and_false]
theorem cf_T (h : caT g k = false) : castB g k = false := by unfold castB; rw [h, Bool.and_false, Bool.and_false, Bool.and_false]
theorem cf_1 (hW : wfL g) (hk : k < 4) (h : g (184 + 6 * k) = 0) : castB g k = false := cf_A (by
  have e : exN g k = 0 := cl_z h
  unfold caA
  rw [decide_eq_false (fun z => by omega), Bool.false_and])
theorem cf_2 (h : g (49 + k) = 0) : castB g k = false := cf_A (by
  have e : riN g k = 0 := cl_z h
  unfold caA
  rw [decide_eq_false (show ¬ riN g k = 1 by omega), Bool.and_false])
theorem cf_3 (hW : wfL g) (hk : k < 4) (h : ¬ nI (caN g k 1) = nI (tuN g)) : castB g k = false := cf_A (by
  unfold caA
  rw [decide_eq_false (fun z => h (by rw [z.2])), Bool.false_and])
theorem cf_4 (h : isOfG g (caN g k 2) (tuN g) = false) : castB g k = false := cf_M (by unfold caM; rw [h, Bool.false_and])
theorem cf_5 (h : g (58 + 21 * tyN (mN g (caN g k 2))) = 0) : castB g k = false := cf_M (by
  unfold caM royG
  rw [decide_eq_false (fun z => z h), Bool.and_false, Bool.and_false])
theorem cf_6 (h : isOfG g (caN g k 4) (tuN g) = false) : castB g k = false := cf_M (by unfold caM; rw [h, Bool.false_and, Bool.and_false])
theorem cf_7 (h : clrB g k (caN g k 3) = false) : castB g k = false := cf_C (by unfold caC; rw [h, Bool.false_and, Bool.and_false])
theorem cf_8 (h : clrB g k (caN g k 5) = false) : castB g k = false := cf_C (by unfold caC; rw [h, Bool.and_false, Bool.and_false])
theorem cf_9 {x : Nat} (hx : x < 64) (h1 : min (caN g k 2) (caN g k 4) < x) (h2 : x < max (caN g k 2) (caN g k 4)) (h : occG g x = true) : castB g k = false := cf_C (by
  unfold caC
  have : anyF (fun x => !(clrB g k x) && spanB (caN g k 2) (caN g k 4) x) 0 64 = true := anyF_iff.mpr ⟨x, Nat.zero_le _, by omega, by
    have e : clrB g k x = false := by
      unfold clrB
      rw [h, decide_eq_false (show ¬ x = caN g k 2 by omega), decide_eq_false (show ¬ x = caN g k 4 by omega)]; rfl
    have e2 : spanB (caN g k 2) (caN g k 4) x = true := decide_eq_true ⟨by omega, by omega⟩
    rw [e, e2]; rfl⟩
  rw [this]; rfl)
theorem cf_10 {x : Nat} (hx : x < 64) (h1 : min (caN g k 2) (caN g k 3) ≤ x) (h2 : x ≤ max (caN g k 2) (caN g k 3)) (h : attG g (1 - tuN g) x = true) : castB g k = false := cf_T (by
  unfold caT
  have : anyF (fun x => attG g (1 - tuN g) x && spanB (caN g k 2) (caN g k 3) x) 0 64 = true := anyF_iff.mpr ⟨x, Nat.zero_le _, by omega, by
    have e2 : spanB (caN g k 2) (caN g k 3) x = true := decide_eq_true ⟨h1, h2⟩
    rw [h, e2]; rfl⟩
  rw [this]; rfl)
theorem ct_all (h1 : exN g k = 1) (h2 : riN g k = 1) (h3 : caN g k 1 = tuN g) (h4 : isOfG g (caN g k 2) (tuN g) = true) (h5 : ¬ g (58 + 21 * tyN (mN g (caN g k 2))) = 0) (h6 : isOfG g (caN g k 4) (tuN g) = true) (h7 : clrB g k (caN g k 3) = true) (h8 : clrB g k (caN g k 5) = true)
    (h9 : ∀ x, min (caN g k 2) (caN g k 4) + 1 ≤ x → x < max (caN g k 2) (caN g k 4) → occG g x = false) (h10 : ∀ x, min (caN g k 2) (caN g k 3) ≤ x → x < max (caN g k 2) (caN g k 3) + 1 → attG g (1 - tuN g) x = false) : castB g k = true := by
  have eA : caA g k = true := by unfold caA; rw [decide_eq_true ⟨h1, h3⟩, decide_eq_true h2]; rfl
  have eM : caM g k = true := by unfold caM royG; rw [h4, h6, decide_eq_true h5]; rfl
  have eC : caC g k = true := by
    unfold caC
    have : anyF (fun x => !(clrB g k x) && spanB (caN g k 2) (caN g k 4) x) 0 64 = false := anyF_0.mpr (fun x hx => by
      by_cases z : min (caN g k 2) (caN g k 4) ≤ x ∧ x ≤ max (caN g k 2) (caN g k 4)
      · have e : clrB g k x = true := by
          unfold clrB
          by_cases y2 : x = caN g k 2
          · rw [decide_eq_true y2]; simp
          · by_cases y4 : x = caN g k 4
            · rw [decide_eq_true y4]; simp
            · rw [h9 x (by omega) (by omega)]; rfl
        rw [e]; rfl
      · rw [show spanB (caN g k 2) (caN g k 4) x = false from decide_eq_false z, Bool.and_false])
    rw [this, h7, h8]; rfl
  have eT : caT g k = true := by
    unfold caT
    have : anyF (fun x => attG g (1 - tuN g) x && spanB (caN g k 2) (caN g k 3) x) 0 64 = false := anyF_0.mpr (fun x hx => by
      by_cases z : min (caN g k 2) (caN g k 3) ≤ x ∧ x ≤ max (caN g k 2) (caN g k 3)
      · rw [h10 x z.1 (by omega), Bool.false_and]
      · rw [show spanB (caN g k 2) (caN g k 3) x = false from decide_eq_false z, Bool.and_false])
    rw [this]; rfl
  unfold castB
  rw [eA, eM, eC, eT]; rfl
end CB

set_option maxRecDepth 100000 in
set_option maxHeartbeats 4000000 in
theorem c_cc_203 {ae ad : Nat → Nat} {sh : mSh} {σ σ2 : mSt} (hm : mModel ad sh) {g : Nat → Int32} (hG : wfP g) (hW : wfL g) {k : Nat} (hk : k < 4) (hfr : frE σ σ2) (hT : (∀ x, min (caN g k 2) (caN g k 3) ≤ x → x < max (caN g k 2) (caN g k 3) + 1 → attG g (1 - tuN g) x = false) → castB g k = true) : ∀ (n q : Nat), max (caN g k 2) (caN g k 3) + 1 - q = n → min (caN g k 2) (caN g k 3) ≤ q → q ≤ max (caN g k 2) (caN g k 3) + 1 → (∀ x, min (caN g k 2) (caN g k 3) ≤ x → x < q → attG g (1 - tuN g) x = false) → Ev RX10 cX10_canCastle 10 false (some .boolean) (mRm 6 0 0) ae (mPi ad sh (fun x σ' => x = b2i (castB g k) ∧ frE σ σ')) 203 [some (.ref (ad 61)), some (.int (nI k)), some (.int (nI (184 + 6 * k))), some (.int (nI (tuN g))), some (.int (nI (caN g k 2))), some (.int (nI (caN g k 3))), some (.int (nI (caN g k 4))), some (.long (setL (attG g (1 - tuN g)))), none, some (.int (nI q))] [] 0 0 ad sh σ2 := by
  have c2 := ((hW.2.2.2.2.2.2 k hk).2.1 2 (by decide) (by decide)).2
  have c3 := ((hW.2.2.2.2.2.2 k hk).2.1 3 (by decide) (by decide)).2
  have c4 := ((hW.2.2.2.2.2.2 k hk).2.1 4 (by decide) (by decide)).2
  intro n
  induction n with
  | zero =>
    intro q hn h1 h2 hA
    refine ev_iload_9 dX10_canCastle_203 ?_
    refine ev_iload_4 dX10_canCastle_205 ?_
    refine ev_iload_5 dX10_canCastle_207 ?_
    refine ev_max lk_X10_105 (Nat.le_of_ble_eq_true rfl) (Nat.le_of_ble_eq_true rfl) (Nat.le_of_ble_eq_true rfl) (Nat.zero_le _) (Nat.zero_le _) dX10_canCastle_209 ?_
    rw [maxR_nI (by omega) (by omega)]
    refine ev_icmp_gt (tgt := 233) dX10_canCastle_212 (by decide) (fun h212 => ?_) (fun h212 => absurd (nI_lt (by omega) (by omega)) h212)
    refine ev_iconst_1 dX10_canCastle_233 ?_
    exact ev_pz (b := true) rfl dX10_canCastle_234 ⟨by rw [hT (fun x a b => hA x a (by omega))], hfr⟩
  | succ n ih =>
    intro q hn h1 h2 hA
    refine ev_iload_9 dX10_canCastle_203 ?_
    refine ev_iload_4 dX10_canCastle_205 ?_
    refine ev_iload_5 dX10_canCastle_207 ?_
    refine ev_max lk_X10_105 (Nat.le_of_ble_eq_true rfl) (Nat.le_of_ble_eq_true rfl) (Nat.le_of_ble_eq_true rfl) (Nat.zero_le _) (Nat.zero_le _) dX10_canCastle_209 ?_
    rw [maxR_nI (by omega) (by omega)]
    refine ev_icmp_gt (tgt := 233) dX10_canCastle_212 (by decide) (fun h212 => absurd h212 (nI_nlt (by omega) (by omega))) (fun h212 => ?_)
    refine ev_lload_7 dX10_canCastle_215 ?_
    refine ev_iload_9 dX10_canCastle_217 ?_
    refine cl_X10_225 (c_mHas (q := (q)) (by omega)) dX10_canCastle_219 rfl (Nat.le_of_ble_eq_true rfl) ?_
    rw [lb_setL (by omega)]
    refine ev_if_eq (tgt := 227) dX10_canCastle_222 (by decide) (fun h222 => ?_) (fun h222 => ?_)
    · refine ev_iinc_9 (v := 1) dX10_canCastle_227 (by decide) rfl rfl ?_
      rw [show nI q + 1 = nI (q + 1) from nI_add (q) 1]
      refine ev_goto (tgt := 203) dX10_canCastle_230 (by decide) ?_
      exact ih (q + 1) (by omega) (by omega) (by omega) (fun x a b => by
        by_cases z : x = q
        · subst z; exact (b2i_0 _).mp h222
        · exact hA x a (by omega))
    · refine ev_iconst_0 dX10_canCastle_225 ?_
      exact ev_pz (b := false) rfl dX10_canCastle_226 ⟨by rw [cf_10 (x := q) (by omega) h1 (by omega) (b2i_t h222)], hfr⟩
set_option maxRecDepth 100000 in
set_option maxHeartbeats 4000000 in
theorem c_cc_185 {ae ad : Nat → Nat} {sh : mSh} {σ : mSt} (hm : mModel ad sh) {g : Nat → Int32} (hG : wfP g) (hW : wfL g) {k : Nat} (hk : k < 4) (hg : σ.1 62 = g) (hT : (∀ x, min (caN g k 2) (caN g k 3) ≤ x → x < max (caN g k 2) (caN g k 3) + 1 → attG g (1 - tuN g) x = false) → castB g k = true) {q : Nat} : Ev RX10 cX10_canCastle 10 false (some .boolean) (mRm 6 0 0) ae (mPi ad sh (fun x σ' => x = b2i (castB g k) ∧ frE σ σ')) 185 [some (.ref (ad 61)), some (.int (nI k)), some (.int (nI (184 + 6 * k))), some (.int (nI (tuN g))), some (.int (nI (caN g k 2))), some (.int (nI (caN g k 3))), some (.int (nI (caN g k 4))), some (.int (nI q)), none, none] [] 0 0 ad sh σ := by
  have c2 := ((hW.2.2.2.2.2.2 k hk).2.1 2 (by decide) (by decide)).2
  have c3 := ((hW.2.2.2.2.2.2 k hk).2.1 3 (by decide) (by decide)).2
  have c4 := ((hW.2.2.2.2.2.2 k hk).2.1 4 (by decide) (by decide)).2
  have htu := tu_le hG
  refine ev_aload_0 dX10_canCastle_185 ?_
  refine ev_iconst_1 dX10_canCastle_186 ?_
  refine ev_iload_3 dX10_canCastle_187 ?_
  refine ev_isub dX10_canCastle_188 ?_
  rw [show (1 : Int32) - nI (tuN g) = nI (1 - tuN g) from nI_sub htu]
  refine cg_X10_190 (c_mAtt hm hG hW (s := 1 - tuN g) (by omega) hg) hm.1 dX10_canCastle_189 rfl (Nat.le_of_ble_eq_true rfl) (fun r1 σ1 h1189 => ?_)
  obtain ⟨e1, f1189⟩ := h1189
  subst e1
  have znow_189 := (f1189.1 62 (by decide) (by decide) (by decide)).trans hg
  refine ev_lstore_7 dX10_canCastle_192 rfl rfl ?_
  refine ev_iload_4 dX10_canCastle_194 ?_
  refine ev_iload_5 dX10_canCastle_196 ?_
  refine ev_min lk_X10_203 (Nat.le_of_ble_eq_true rfl) (Nat.le_of_ble_eq_true rfl) (Nat.le_of_ble_eq_true rfl) (Nat.zero_le _) (Nat.zero_le _) dX10_canCastle_198 ?_
  rw [minR_nI (by omega) (by omega)]
  refine ev_istore_9 dX10_canCastle_201 rfl rfl ?_
  exact c_cc_203 hm hG hW hk f1189 hT _ _ rfl (Nat.le_refl _) (by omega) (fun x a b => by omega)
set_option maxRecDepth 100000 in
set_option maxHeartbeats 4000000 in
theorem c_cc_156 {ae ad : Nat → Nat} {sh : mSh} {σ : mSt} (hm : mModel ad sh) {g : Nat → Int32} (hG : wfP g) (hW : wfL g) {k : Nat} (hk : k < 4) (hg : σ.1 62 = g) (hT : (∀ x, min (caN g k 2) (caN g k 4) + 1 ≤ x → x < max (caN g k 2) (caN g k 4) → occG g x = false) → (∀ x, min (caN g k 2) (caN g k 3) ≤ x → x < max (caN g k 2) (caN g k 3) + 1 → attG g (1 - tuN g) x = false) → castB g k = true) : ∀ (n q : Nat), max (caN g k 2) (caN g k 4) - q = n → min (caN g k 2) (caN g k 4) + 1 ≤ q → q ≤ 64 → (∀ x, min (caN g k 2) (caN g k 4) + 1 ≤ x → x < q → occG g x = false) → Ev RX10 cX10_canCastle 10 false (some .boolean) (mRm 6 0 0) ae (mPi ad sh (fun x σ' => x = b2i (castB g k) ∧ frE σ σ')) 156 [some (.ref (ad 61)), some (.int (nI k)), some (.int (nI (184 + 6 * k))), some (.int (nI (tuN g))), some (.int (nI (caN g k 2))), some (.int (nI (caN g k 3))), some (.int (nI (caN g k 4))), some (.int (nI q)), none, none] [] 0 0 ad sh σ := by
  have c2 := ((hW.2.2.2.2.2.2 k hk).2.1 2 (by decide) (by decide)).2
  have c3 := ((hW.2.2.2.2.2.2 k hk).2.1 3 (by decide) (by decide)).2
  have c4 := ((hW.2.2.2.2.2.2 k hk).2.1 4 (by decide) (by decide)).2
  intro n
  induction n with
  | zero =>
    intro q hn h1 h2 hA
    refine ev_iload_7 dX10_canCastle_156 ?_
    refine ev_iload_4 dX10_canCastle_158 ?_
    refine ev_iload_6 dX10_canCastle_160 ?_
    refine ev_max lk_X10_105 (Nat.le_of_ble_eq_true rfl) (Nat.le_of_ble_eq_true rfl) (Nat.le_of_ble_eq_true rfl) (Nat.zero_le _) (Nat.zero_le _) dX10_canCastle_162 ?_
    rw [maxR_nI (by omega) (by omega)]
    refine ev_icmp_ge (tgt := 185) dX10_canCastle_165 (by decide) (fun h165 => ?_) (fun h165 => absurd (nI_le (by omega) (by omega)) h165)
    exact c_cc_185 hm hG hW hk hg (hT (fun x a b => hA x a (by omega)))
  | succ n ih =>
    intro q hn h1 h2 hA
    refine ev_iload_7 dX10_canCastle_156 ?_
    refine ev_iload_4 dX10_canCastle_158 ?_
    refine ev_iload_6 dX10_canCastle_160 ?_
    refine ev_max lk_X10_105 (Nat.le_of_ble_eq_true rfl) (Nat.le_of_ble_eq_true rfl) (Nat.le_of_ble_eq_true rfl) (Nat.zero_le _) (Nat.zero_le _) dX10_canCastle_162 ?_
    rw [maxR_nI (by omega) (by omega)]
    refine ev_icmp_ge (tgt := 185) dX10_canCastle_165 (by decide) (fun h165 => absurd h165 (nI_ge (by omega) (by omega))) (fun h165 => ?_)
    refine ev_aload_0 dX10_canCastle_168 ?_
    refine ev_iload_7 dX10_canCastle_169 ?_
    refine cl_X10_172 (c_mEmpty hm hg hG (q := (q)) (by omega)) hm.1 dX10_canCastle_171 rfl (Nat.le_of_ble_eq_true rfl) ?_
    refine ev_if_ne (tgt := 179) dX10_canCastle_174 (by decide) (fun h174 => ?_) (fun h174 => ?_)
    · refine ev_iinc_7 (v := 1) dX10_canCastle_179 (by decide) rfl rfl ?_
      rw [show nI q + 1 = nI (q + 1) from nI_add (q) 1]
      refine ev_goto (tgt := 156) dX10_canCastle_182 (by decide) ?_
      exact ih (q + 1) (by omega) (by omega) (by omega) (fun x a b => by
        by_cases z : x = q
        · subst z; exact bn_f h174
        · exact hA x a (by omega))
    · refine ev_iconst_0 dX10_canCastle_177 ?_
      exact ev_pz (b := false) rfl dX10_canCastle_178 ⟨by rw [cf_9 (x := q) (by omega) (by omega) (by omega) (bn_t h174)], frE.rf⟩
set_option maxRecDepth 100000 in
set_option maxHeartbeats 4000000 in
theorem c_mCan {ae ad : Nat → Nat} {sh : mSh} {σ : mSt} (hm : mModel ad sh) {g : Nat → Int32} (hG : wfP g) (hW : wfL g) {k : Nat} (hk : k < 4) (hg : σ.1 62 = g) : Ct yX10_canCastle cX10_canCastle 10 (some .boolean) 6 0 0 [.ref (ad 61), .int (nI k)] ae ad sh σ (mPi ad sh (fun x σ' => x = b2i (castB g k) ∧ frE σ σ')) := by
  refine Ct.ofL (own := RX10) (ini := false) (ls := [some (.ref (ad 61)), some (.int (nI k)), none, none, none, none, none, none, none, none]) (by decide +kernel) rfl (fun h => by cases h) (Nat.le_of_ble_eq_true rfl) rfl ?_
  have htu := tu_le hG
  have w0 := (hW.2.2.2.2.2.2 k hk).1
  have wr := hG.2.2.2.2.1 k hk
  have c1 := (hW.2.2.2.2.2.2 k hk).2.1 1 (by decide) (by decide)
  have c2 := (hW.2.2.2.2.2.2 k hk).2.1 2 (by decide) (by decide)
  have c3 := (hW.2.2.2.2.2.2 k hk).2.1 3 (by decide) (by decide)
  have c4 := (hW.2.2.2.2.2.2 k hk).2.1 4 (by decide) (by decide)
  have c5 := (hW.2.2.2.2.2.2 k hk).2.1 5 (by decide) (by decide)
  refine ev_iload_1 dX10_canCastle_0 ?_
  refine cl_X10_72 (c_castleAt (t := (k))) dX10_canCastle_1 rfl (Nat.le_of_ble_eq_true rfl) ?_
  refine ev_istore_2 dX10_canCastle_4 rfl rfl ?_
  refine ev_aload_0 dX10_canCastle_5 ?_
  refine gf_X10_11 dX10_canCastle_6 hm.1 rfl ?_
  refine ev_iconst_0 dX10_canCastle_9 ?_
  refine ev_ldk (k := 0) hm.2.1 hg rfl (by omega) (by decide) dX10_canCastle_10 ?_
  rw [hG.2.2.2.2.2.1]
  refine ev_istore_3 dX10_canCastle_11 rfl rfl ?_
  refine ev_aload_0 dX10_canCastle_12 ?_
  refine gf_X10_11 dX10_canCastle_13 hm.1 rfl ?_
  refine ev_iload_2 dX10_canCastle_16 ?_
  refine ev_ldk (k := 184 + 6 * k) hm.2.1 hg rfl (by omega) (by decide) dX10_canCastle_17 ?_
  refine ev_if_eq (tgt := 45) dX10_canCastle_18 (by decide) (fun h18 => ?_) (fun h18 => ?_)
  · refine ev_iconst_0 dX10_canCastle_45 ?_
    first
    | exact ev_pz (b := false) rfl dX10_canCastle_46 ⟨by rw [cf_1 hW hk h18], frE.rf⟩
    | exact ev_pz (b := false) rfl dX10_canCastle_46 ⟨by rw [cf_2 h30], frE.rf⟩
    | exact ev_pz (b := false) rfl dX10_canCastle_46 ⟨by rw [cf_3 hW hk h42], frE.rf⟩
    | exact ev_pz (b := false) rfl dX10_canCastle_46 ⟨by rw [cf_4 ((b2i_0 _).mp h84)], frE.rf⟩
    | exact ev_pz (b := false) rfl dX10_canCastle_46 ⟨by rw [cf_5 h104], frE.rf⟩
    | exact ev_pz (b := false) rfl dX10_canCastle_46 ⟨by rw [cf_6 ((b2i_0 _).mp h114)], frE.rf⟩
    | exact ev_pz (b := false) rfl dX10_canCastle_46 ⟨by rw [cf_7 ((b2i_0 _).mp h124)], frE.rf⟩
    | exact ev_pz (b := false) rfl dX10_canCastle_46 ⟨by rw [cf_8 ((b2i_0 _).mp h140)], frE.rf⟩
  · refine ev_aload_0 dX10_canCastle_21 ?_
    refine gf_X10_11 dX10_canCastle_22 hm.1 rfl ?_
    refine ev_bipush_49 dX10_canCastle_25 ?_
    refine ev_iload_1 dX10_canCastle_27 ?_
    refine ev_iadd dX10_canCastle_28 ?_
    rw [show (49 : Int32) + nI k = nI (49 + k) from nI_add (49) (k)]
    refine ev_ldk (k := 49 + k) hm.2.1 hg rfl (by omega) (by decide) dX10_canCastle_29 ?_
    refine ev_if_eq (tgt := 45) dX10_canCastle_30 (by decide) (fun h30 => ?_) (fun h30 => ?_)
    · refine ev_iconst_0 dX10_canCastle_45 ?_
      first
      | exact ev_pz (b := false) rfl dX10_canCastle_46 ⟨by rw [cf_1 hW hk h18], frE.rf⟩
      | exact ev_pz (b := false) rfl dX10_canCastle_46 ⟨by rw [cf_2 h30], frE.rf⟩
      | exact ev_pz (b := false) rfl dX10_canCastle_46 ⟨by rw [cf_3 hW hk h42], frE.rf⟩
      | exact ev_pz (b := false) rfl dX10_canCastle_46 ⟨by rw [cf_4 ((b2i_0 _).mp h84)], frE.rf⟩
      | exact ev_pz (b := false) rfl dX10_canCastle_46 ⟨by rw [cf_5 h104], frE.rf⟩
      | exact ev_pz (b := false) rfl dX10_canCastle_46 ⟨by rw [cf_6 ((b2i_0 _).mp h114)], frE.rf⟩
      | exact ev_pz (b := false) rfl dX10_canCastle_46 ⟨by rw [cf_7 ((b2i_0 _).mp h124)], frE.rf⟩
      | exact ev_pz (b := false) rfl dX10_canCastle_46 ⟨by rw [cf_8 ((b2i_0 _).mp h140)], frE.rf⟩
    · refine ev_aload_0 dX10_canCastle_33 ?_
      refine gf_X10_11 dX10_canCastle_34 hm.1 rfl ?_
      refine ev_iload_2 dX10_canCastle_37 ?_
      refine ev_iconst_1 dX10_canCastle_38 ?_
      refine ev_iadd dX10_canCastle_39 ?_
      rw [show nI (184 + 6 * k) + (1 : Int32) = nI (184 + 6 * k + 1) from nI_add (184 + 6 * k) (1)]
      refine ev_ldk (k := 184 + 6 * k + 1) hm.2.1 hg rfl (by omega) (by decide) dX10_canCastle_40 ?_
      rw [c1.1]
      refine ev_iload_3 dX10_canCastle_41 ?_
      refine ev_icmp_eq (tgt := 47) dX10_canCastle_42 (by decide) (fun h42 => ?_) (fun h42 => ?_)
      · refine ev_aload_0 dX10_canCastle_47 ?_
        refine gf_X10_11 dX10_canCastle_48 hm.1 rfl ?_
        refine ev_iload_2 dX10_canCastle_51 ?_
        refine ev_iconst_2 dX10_canCastle_52 ?_
        refine ev_iadd dX10_canCastle_53 ?_
        rw [show nI (184 + 6 * k) + (2 : Int32) = nI (184 + 6 * k + 2) from nI_add (184 + 6 * k) (2)]
        refine ev_ldk (k := 184 + 6 * k + 2) hm.2.1 hg rfl (by omega) (by decide) dX10_canCastle_54 ?_
        rw [c2.1]
        refine ev_istore_4 dX10_canCastle_55 rfl rfl ?_
        refine ev_aload_0 dX10_canCastle_57 ?_
        refine gf_X10_11 dX10_canCastle_58 hm.1 rfl ?_
        refine ev_iload_2 dX10_canCastle_61 ?_
        refine ev_iconst_3 dX10_canCastle_62 ?_
        refine ev_iadd dX10_canCastle_63 ?_
        rw [show nI (184 + 6 * k) + (3 : Int32) = nI (184 + 6 * k + 3) from nI_add (184 + 6 * k) (3)]
        refine ev_ldk (k := 184 + 6 * k + 3) hm.2.1 hg rfl (by omega) (by decide) dX10_canCastle_64 ?_
        rw [c3.1]
        refine ev_istore_5 dX10_canCastle_65 rfl rfl ?_
        refine ev_aload_0 dX10_canCastle_67 ?_
        refine gf_X10_11 dX10_canCastle_68 hm.1 rfl ?_
        refine ev_iload_2 dX10_canCastle_71 ?_
        refine ev_iconst_4 dX10_canCastle_72 ?_
        refine ev_iadd dX10_canCastle_73 ?_
        rw [show nI (184 + 6 * k) + (4 : Int32) = nI (184 + 6 * k + 4) from nI_add (184 + 6 * k) (4)]
        refine ev_ldk (k := 184 + 6 * k + 4) hm.2.1 hg rfl (by omega) (by decide) dX10_canCastle_74 ?_
        rw [c4.1]
        refine ev_istore_6 dX10_canCastle_75 rfl rfl ?_
        refine ev_aload_0 dX10_canCastle_77 ?_
        refine ev_iload_4 dX10_canCastle_78 ?_
        refine ev_iload_3 dX10_canCastle_80 ?_
        refine cl_X10_175 (c_mIsOf hm hg hG (q := (caN g k 2)) (by omega) htu) hm.1 dX10_canCastle_81 rfl (Nat.le_of_ble_eq_true rfl) ?_
        refine ev_if_eq (tgt := 143) dX10_canCastle_84 (by decide) (fun h84 => ?_) (fun h84 => ?_)
        · refine ev_iconst_0 dX10_canCastle_143 ?_
          first
          | exact ev_pz (b := false) rfl dX10_canCastle_144 ⟨by rw [cf_1 hW hk h18], frE.rf⟩
          | exact ev_pz (b := false) rfl dX10_canCastle_144 ⟨by rw [cf_2 h30], frE.rf⟩
          | exact ev_pz (b := false) rfl dX10_canCastle_144 ⟨by rw [cf_3 hW hk h42], frE.rf⟩
          | exact ev_pz (b := false) rfl dX10_canCastle_144 ⟨by rw [cf_4 ((b2i_0 _).mp h84)], frE.rf⟩
          | exact ev_pz (b := false) rfl dX10_canCastle_144 ⟨by rw [cf_5 h104], frE.rf⟩
          | exact ev_pz (b := false) rfl dX10_canCastle_144 ⟨by rw [cf_6 ((b2i_0 _).mp h114)], frE.rf⟩
          | exact ev_pz (b := false) rfl dX10_canCastle_144 ⟨by rw [cf_7 ((b2i_0 _).mp h124)], frE.rf⟩
          | exact ev_pz (b := false) rfl dX10_canCastle_144 ⟨by rw [cf_8 ((b2i_0 _).mp h140)], frE.rf⟩
        · obtain ⟨m0, m1, m2⟩ := isOf_1 (b2i_t h84)
          have m12 := wf_m hG (q := caN g k 2) (by omega)
          have hty := tyN_lt m1 m12
          refine ev_aload_0 dX10_canCastle_87 ?_
          refine gf_X10_11 dX10_canCastle_88 hm.1 rfl ?_
          refine ev_aload_0 dX10_canCastle_91 ?_
          refine ev_iload_4 dX10_canCastle_92 ?_
          refine cl_X10_69 (c_mMan hm hg hG (q := (caN g k 2)) (by omega)) hm.1 dX10_canCastle_94 rfl (Nat.le_of_ble_eq_true rfl) ?_
          refine ev_bipush_6 dX10_canCastle_97 ?_
          refine ev_irem dX10_canCastle_99 (show ¬ (6 : Int32) = 0 by decide) ?_
          rw [m1_rem m1 m12]
          refine cl_X10_54 (c_typeAt (t := (tyN (mN g (caN g k 2))))) dX10_canCastle_100 rfl (Nat.le_of_ble_eq_true rfl) ?_
          refine ev_ldk (k := 58 + 21 * (tyN (mN g (caN g k 2)))) hm.2.1 hg rfl (by omega) (by decide) dX10_canCastle_103 ?_
          refine ev_if_eq (tgt := 143) dX10_canCastle_104 (by decide) (fun h104 => ?_) (fun h104 => ?_)
          · refine ev_iconst_0 dX10_canCastle_143 ?_
            first
            | exact ev_pz (b := false) rfl dX10_canCastle_144 ⟨by rw [cf_1 hW hk h18], frE.rf⟩
            | exact ev_pz (b := false) rfl dX10_canCastle_144 ⟨by rw [cf_2 h30], frE.rf⟩
            | exact ev_pz (b := false) rfl dX10_canCastle_144 ⟨by rw [cf_3 hW hk h42], frE.rf⟩
            | exact ev_pz (b := false) rfl dX10_canCastle_144 ⟨by rw [cf_4 ((b2i_0 _).mp h84)], frE.rf⟩
            | exact ev_pz (b := false) rfl dX10_canCastle_144 ⟨by rw [cf_5 h104], frE.rf⟩
            | exact ev_pz (b := false) rfl dX10_canCastle_144 ⟨by rw [cf_6 ((b2i_0 _).mp h114)], frE.rf⟩
            | exact ev_pz (b := false) rfl dX10_canCastle_144 ⟨by rw [cf_7 ((b2i_0 _).mp h124)], frE.rf⟩
            | exact ev_pz (b := false) rfl dX10_canCastle_144 ⟨by rw [cf_8 ((b2i_0 _).mp h140)], frE.rf⟩
          · refine ev_aload_0 dX10_canCastle_107 ?_
            refine ev_iload_6 dX10_canCastle_108 ?_
            refine ev_iload_3 dX10_canCastle_110 ?_
            refine cl_X10_175 (c_mIsOf hm hg hG (q := (caN g k 4)) (by omega) htu) hm.1 dX10_canCastle_111 rfl (Nat.le_of_ble_eq_true rfl) ?_
            refine ev_if_eq (tgt := 143) dX10_canCastle_114 (by decide) (fun h114 => ?_) (fun h114 => ?_)
            · refine ev_iconst_0 dX10_canCastle_143 ?_
              first
              | exact ev_pz (b := false) rfl dX10_canCastle_144 ⟨by rw [cf_1 hW hk h18], frE.rf⟩
              | exact ev_pz (b := false) rfl dX10_canCastle_144 ⟨by rw [cf_2 h30], frE.rf⟩
              | exact ev_pz (b := false) rfl dX10_canCastle_144 ⟨by rw [cf_3 hW hk h42], frE.rf⟩
              | exact ev_pz (b := false) rfl dX10_canCastle_144 ⟨by rw [cf_4 ((b2i_0 _).mp h84)], frE.rf⟩
              | exact ev_pz (b := false) rfl dX10_canCastle_144 ⟨by rw [cf_5 h104], frE.rf⟩
              | exact ev_pz (b := false) rfl dX10_canCastle_144 ⟨by rw [cf_6 ((b2i_0 _).mp h114)], frE.rf⟩
              | exact ev_pz (b := false) rfl dX10_canCastle_144 ⟨by rw [cf_7 ((b2i_0 _).mp h124)], frE.rf⟩
              | exact ev_pz (b := false) rfl dX10_canCastle_144 ⟨by rw [cf_8 ((b2i_0 _).mp h140)], frE.rf⟩
            · refine ev_aload_0 dX10_canCastle_117 ?_
              refine ev_iload_5 dX10_canCastle_118 ?_
              refine ev_iload_2 dX10_canCastle_120 ?_
              refine cl_X10_222 (c_mClear hm hG hW hk hg (q := (caN g k 3)) (by omega)) hm.1 dX10_canCastle_121 rfl (Nat.le_of_ble_eq_true rfl) ?_
              refine ev_if_eq (tgt := 143) dX10_canCastle_124 (by decide) (fun h124 => ?_) (fun h124 => ?_)
              · refine ev_iconst_0 dX10_canCastle_143 ?_
                first
                | exact ev_pz (b := false) rfl dX10_canCastle_144 ⟨by rw [cf_1 hW hk h18], frE.rf⟩
                | exact ev_pz (b := false) rfl dX10_canCastle_144 ⟨by rw [cf_2 h30], frE.rf⟩
                | exact ev_pz (b := false) rfl dX10_canCastle_144 ⟨by rw [cf_3 hW hk h42], frE.rf⟩
                | exact ev_pz (b := false) rfl dX10_canCastle_144 ⟨by rw [cf_4 ((b2i_0 _).mp h84)], frE.rf⟩
                | exact ev_pz (b := false) rfl dX10_canCastle_144 ⟨by rw [cf_5 h104], frE.rf⟩
                | exact ev_pz (b := false) rfl dX10_canCastle_144 ⟨by rw [cf_6 ((b2i_0 _).mp h114)], frE.rf⟩
                | exact ev_pz (b := false) rfl dX10_canCastle_144 ⟨by rw [cf_7 ((b2i_0 _).mp h124)], frE.rf⟩
                | exact ev_pz (b := false) rfl dX10_canCastle_144 ⟨by rw [cf_8 ((b2i_0 _).mp h140)], frE.rf⟩
              · refine ev_aload_0 dX10_canCastle_127 ?_
                refine ev_aload_0 dX10_canCastle_128 ?_
                refine gf_X10_11 dX10_canCastle_129 hm.1 rfl ?_
                refine ev_iload_2 dX10_canCastle_132 ?_
                refine ev_iconst_5 dX10_canCastle_133 ?_
                refine ev_iadd dX10_canCastle_134 ?_
                rw [show nI (184 + 6 * k) + (5 : Int32) = nI (184 + 6 * k + 5) from nI_add (184 + 6 * k) (5)]
                refine ev_ldk (k := 184 + 6 * k + 5) hm.2.1 hg rfl (by omega) (by decide) dX10_canCastle_135 ?_
                rw [c5.1]
                refine ev_iload_2 dX10_canCastle_136 ?_
                refine cl_X10_222 (c_mClear hm hG hW hk hg (q := (caN g k 5)) (by omega)) hm.1 dX10_canCastle_137 rfl (Nat.le_of_ble_eq_true rfl) ?_
                refine ev_if_ne (tgt := 145) dX10_canCastle_140 (by decide) (fun h140 => ?_) (fun h140 => ?_)
                · refine ev_iload_4 dX10_canCastle_145 ?_
                  refine ev_iload_6 dX10_canCastle_147 ?_
                  refine ev_min lk_X10_203 (Nat.le_of_ble_eq_true rfl) (Nat.le_of_ble_eq_true rfl) (Nat.le_of_ble_eq_true rfl) (Nat.zero_le _) (Nat.zero_le _) dX10_canCastle_149 ?_
                  rw [minR_nI (by omega) (by omega)]
                  refine ev_iconst_1 dX10_canCastle_152 ?_
                  refine ev_iadd dX10_canCastle_153 ?_
                  rw [show nI (min (caN g k 2) (caN g k 4)) + (1 : Int32) = nI (min (caN g k 2) (caN g k 4) + 1) from nI_add (min (caN g k 2) (caN g k 4)) (1)]
                  refine ev_istore_7 dX10_canCastle_154 rfl rfl ?_
                  exact c_cc_156 hm hG hW hk hg (ct_all (by
                      rcases (show exN g k = 0 ∨ exN g k = 1 by omega) with z | z
                      · exact absurd (by rw [w0.1, z]; rfl) h18
                      · exact z) (by
                      rcases (show riN g k = 0 ∨ riN g k = 1 by omega) with z | z
                      · exact absurd (by rw [wr.1, z]; rfl) h30
                      · exact z) ((nI_eq (by omega) (by omega)).mp h42) (b2i_t h84) h104 (b2i_t h114) (b2i_t h124) (b2i_t h140)) _ _ rfl (Nat.le_refl _) (by omega) (fun x a b => by omega)
                · refine ev_iconst_0 dX10_canCastle_143 ?_
                  first
                  | exact ev_pz (b := false) rfl dX10_canCastle_144 ⟨by rw [cf_1 hW hk h18], frE.rf⟩
                  | exact ev_pz (b := false) rfl dX10_canCastle_144 ⟨by rw [cf_2 h30], frE.rf⟩
                  | exact ev_pz (b := false) rfl dX10_canCastle_144 ⟨by rw [cf_3 hW hk h42], frE.rf⟩
                  | exact ev_pz (b := false) rfl dX10_canCastle_144 ⟨by rw [cf_4 ((b2i_0 _).mp h84)], frE.rf⟩
                  | exact ev_pz (b := false) rfl dX10_canCastle_144 ⟨by rw [cf_5 h104], frE.rf⟩
                  | exact ev_pz (b := false) rfl dX10_canCastle_144 ⟨by rw [cf_6 ((b2i_0 _).mp h114)], frE.rf⟩
                  | exact ev_pz (b := false) rfl dX10_canCastle_144 ⟨by rw [cf_7 ((b2i_0 _).mp h124)], frE.rf⟩
                  | exact ev_pz (b := false) rfl dX10_canCastle_144 ⟨by rw [cf_8 ((b2i_0 _).mp h140)], frE.rf⟩
      · refine ev_iconst_0 dX10_canCastle_45 ?_
        first
        | exact ev_pz (b := false) rfl dX10_canCastle_46 ⟨by rw [cf_1 hW hk h18], frE.rf⟩
        | exact ev_pz (b := false) rfl dX10_canCastle_46 ⟨by rw [cf_2 h30], frE.rf⟩
        | exact ev_pz (b := false) rfl dX10_canCastle_46 ⟨by rw [cf_3 hW hk h42], frE.rf⟩
        | exact ev_pz (b := false) rfl dX10_canCastle_46 ⟨by rw [cf_4 ((b2i_0 _).mp h84)], frE.rf⟩
        | exact ev_pz (b := false) rfl dX10_canCastle_46 ⟨by rw [cf_5 h104], frE.rf⟩
        | exact ev_pz (b := false) rfl dX10_canCastle_46 ⟨by rw [cf_6 ((b2i_0 _).mp h114)], frE.rf⟩
        | exact ev_pz (b := false) rfl dX10_canCastle_46 ⟨by rw [cf_7 ((b2i_0 _).mp h124)], frE.rf⟩
        | exact ev_pz (b := false) rfl dX10_canCastle_46 ⟨by rw [cf_8 ((b2i_0 _).mp h140)], frE.rf⟩
