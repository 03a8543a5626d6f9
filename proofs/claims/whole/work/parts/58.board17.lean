theorem dcF_cong {f f' : Nat → Int32} {b b' : Nat} : ∀ n, (∀ k, k < n → f (b + k) = f' (b' + k)) → dcF f b n = dcF f' b' n
  | 0, _ => rfl
  | n + 1, h => by rw [dcF, dcF, dcF_cong n (fun k hk => h k (by omega)), h n (by omega)]
theorem cntF_cong {c c' : Nat → Bool} : ∀ n, (∀ k, k < n → c k = c' k) → cntF c n = cntF c' n
  | 0, _ => rfl
  | n + 1, h => by rw [cntF, cntF, cntF_cong n (fun k hk => h k (by omega)), h n (by omega)]
theorem isTy_nI {x : Int32} (h : isTy x = true) : ∃ t, t < 6 ∧ x = nI t := by
  obtain ⟨h1, h2⟩ := of_decide_eq_true h
  obtain ⟨j, hj, e⟩ := nI_of h1
  subst e
  refine ⟨j, ?_, rfl⟩
  have : nI j < nI 6 := Int32.not_le.mp h2
  exact (nI_ltI hj (by decide)).mp this
theorem isTy_of {t : Nat} (ht : t < 6) : isTy (nI t) = true := by
  have h : ∀ t, t < 6 → isTy (nI t) = true := by decide
  exact h t ht
def dcG (g : Nat → Int32) (t : Nat) : Int32 := dcF (dmG g t) 0 (pcG g t)
def motG (g : Nat → Int32) (t : Nat) : Nat := cntF (fun k => decide (1 ≤ mN g k ∧ tyN (mN g k) = t)) 36
def proA (g : Nat → Int32) (t : Nat) (c : Int32) : Int32 := if c = 0 then (if pcG g t = 0 then -5 else nI (pcG g t)) else if c = 1 then dcG g t else if c = 2 then g (58 + 21 * t) else if c = 3 then g (59 + 21 * t) - 1 else if c = 4 then nI (motG g t) else if c = 5 then mxF (frdF g t) (cN g * rN g) else -1
theorem mot_eq {σ : mSt} {p : Nat} {g : Nat → Int32} (hG : wfP g) (hP : posR σ p g) {t : Nat} (ht : t < 6) : cntF (fun k => decide (¬ σ.1 (p + 1) k = 0 ∧ tyR (σ.1 (p + 1) k) = nI t)) 36 = motG g t := by
  refine cntF_cong _ (fun k hk => ?_)
  have hm := wf_m hG hk
  rw [hP.man hG hk]
  by_cases h0 : mN g k = 0
  · refine decide_eq_decide.mpr ⟨fun z => absurd (by rw [h0]; rfl) z.1, fun z => by omega⟩
  · have h1 : ¬ nI (mN g k) = 0 := nI_ne0 (by omega) (by omega)
    have hty := tyN_lt (show 1 ≤ mN g k by omega) hm
    have ht2 := tyR_nI (m := mN g k) (by omega) (by omega)
    refine decide_eq_decide.mpr ⟨fun z => ⟨by omega, ?_⟩, fun z => ⟨h1, by rw [ht2, z.2]⟩⟩
    have := z.2
    rw [ht2] at this
    exact (nI_eq (by omega) (by omega)).mp this

set_option maxRecDepth 100000 in
set_option maxHeartbeats 4000000 in
theorem c_propNo {ae ad : Nat → Nat} {sh : mSh} {σ : mSt} {x c : Int32} (hb : mBoard ad sh) (hx : isTy x = false) : Ct yX9_property cX9_property 3 (some .int) 4 0 0 [.ref (ad 0), .int x, .int c] ae ad sh σ (mPi ad sh (fun z σ' => z = -1 ∧ frP σ σ' 23)) := by
  refine Ct.ofL (own := RX9) (ini := false) (ls := [some (.ref (ad 0)), some (.int x), some (.int c)]) (by decide +kernel) rfl (fun h => by cases h) (Nat.le_of_ble_eq_true rfl) rfl ?_
  refine ev_iload_1 dX9_property_0 ?_
  refine cl_X9_109 c_isType dX9_property_1 rfl (Nat.le_of_ble_eq_true rfl) ?_
  refine ev_if_ne (tgt := 9) dX9_property_4 (by decide) (fun h4 => absurd h4 (by rw [hx]; decide)) (fun h4 => ?_)
  refine ev_iconst_m1 dX9_property_7 ?_
  exact ev_pi dX9_property_8 ⟨rfl, frP.rf⟩
set_option maxRecDepth 100000 in
set_option maxHeartbeats 4000000 in
theorem c_prop0 {ae ad : Nat → Nat} {sh : mSh} {σ : mSt} {g : Nat → Int32} (hb : mBoard ad sh) (hG : wfP g) (hP : posR σ 20 g) (hL : lawR σ 5 g) {t : Nat} (ht : t < 6) : Ct yX9_property cX9_property 3 (some .int) 4 0 0 [.ref (ad 0), .int (nI t), .int 0] ae ad sh σ (mPi ad sh (fun z σ' => z = proA g t 0 ∧ frP σ σ' 23)) := by
  refine Ct.ofL (own := RX9) (ini := false) (ls := [some (.ref (ad 0)), some (.int (nI t)), some (.int 0)]) (by decide +kernel) rfl (fun h => by cases h) (Nat.le_of_ble_eq_true rfl) rfl ?_
  refine ev_iload_1 dX9_property_0 ?_
  refine cl_X9_109 c_isType dX9_property_1 rfl (Nat.le_of_ble_eq_true rfl) ?_
  refine ev_if_ne (tgt := 9) dX9_property_4 (by decide) (fun h4 => ?_) (fun h4 => ?_)
  · refine ev_iload_2 dX9_property_9 ?_
    refine ev_tableIn (off := 38) (tgt := 48) dX9_property_10 (by decide) (by decide) (by decide) (by decide) ?_
    refine ev_aload_0 dX9_property_48 ?_
    refine gf_X9_24 dX9_property_49 hb.1 rfl ?_
    refine ev_iload_1 dX9_property_52 ?_
    refine cl_X9_120 (c_partsOf hb.2.2.2.1) hb.2.2.2.1.1 dX9_property_53 rfl (Nat.le_of_ble_eq_true rfl) ?_
    rw [cellV_nI (by omega) ht, (hL.1 t ht).1]
    refine ev_if_ne (tgt := 64) dX9_property_56 (by decide) (fun h56 => ?_) (fun h56 => ?_)
    · refine ev_aload_0 dX9_property_64 ?_
      refine gf_X9_24 dX9_property_65 hb.1 rfl ?_
      refine ev_iload_1 dX9_property_68 ?_
      refine cl_X9_120 (c_partsOf hb.2.2.2.1) hb.2.2.2.1.1 dX9_property_69 rfl (Nat.le_of_ble_eq_true rfl) ?_
      rw [cellV_nI (by omega) ht, (hL.1 t ht).1]
      first
      | exact ev_pi dX9_property_72 ⟨by unfold proA; rw [if_pos rfl, if_neg (fun z => h56 (by rw [z]; rfl))], frP.rf⟩
      | exact ev_pi dX9_property_72 ⟨by unfold proA; rw [if_pos rfl, if_pos ((nI_eq (b := 0) (by have := (hL.1 t ht).2; omega) (by decide)).mp h56)], frP.rf⟩
    · refine ev_bipush_m5 dX9_property_59 ?_
      refine ev_goto (tgt := 72) dX9_property_61 (by decide) ?_
      first
      | exact ev_pi dX9_property_72 ⟨by unfold proA; rw [if_pos rfl, if_neg (fun z => h56 (by rw [z]; rfl))], frP.rf⟩
      | exact ev_pi dX9_property_72 ⟨by unfold proA; rw [if_pos rfl, if_pos ((nI_eq (b := 0) (by have := (hL.1 t ht).2; omega) (by decide)).mp h56)], frP.rf⟩
  · exact absurd h4 (by rw [isTy_of ht]; decide)
set_option maxRecDepth 100000 in
set_option maxHeartbeats 4000000 in
theorem c_prop1 {ae ad : Nat → Nat} {sh : mSh} {σ : mSt} {g : Nat → Int32} (hb : mBoard ad sh) (hG : wfP g) (hP : posR σ 20 g) (hL : lawR σ 5 g) {t : Nat} (ht : t < 6) : Ct yX9_property cX9_property 3 (some .int) 4 0 0 [.ref (ad 0), .int (nI t), .int 1] ae ad sh σ (mPi ad sh (fun z σ' => z = proA g t 1 ∧ frP σ σ' 23)) := by
  refine Ct.ofL (own := RX9) (ini := false) (ls := [some (.ref (ad 0)), some (.int (nI t)), some (.int 1)]) (by decide +kernel) rfl (fun h => by cases h) (Nat.le_of_ble_eq_true rfl) rfl ?_
  refine ev_iload_1 dX9_property_0 ?_
  refine cl_X9_109 c_isType dX9_property_1 rfl (Nat.le_of_ble_eq_true rfl) ?_
  refine ev_if_ne (tgt := 9) dX9_property_4 (by decide) (fun h4 => ?_) (fun h4 => ?_)
  · refine ev_iload_2 dX9_property_9 ?_
    refine ev_tableIn (off := 63) (tgt := 73) dX9_property_10 (by decide) (by decide) (by decide) (by decide) ?_
    refine ev_aload_0 dX9_property_73 ?_
    refine gf_X9_24 dX9_property_74 hb.1 rfl ?_
    refine ev_iload_1 dX9_property_77 ?_
    refine cl_X9_323 (c_directionCount hb.2.2.2.1 hL ht) hb.2.2.2.1.1 dX9_property_78 rfl (Nat.le_of_ble_eq_true rfl) ?_
    exact ev_pi dX9_property_81 ⟨by unfold proA; rw [if_neg (by decide), if_pos rfl]; exact dcF_cong _ (fun k hk => by rw [Nat.zero_add]; exact (hL.2.1 t ht k hk).2.2.2), frP.rf⟩
  · exact absurd h4 (by rw [isTy_of ht]; decide)
set_option maxRecDepth 100000 in
set_option maxHeartbeats 4000000 in
theorem c_prop2 {ae ad : Nat → Nat} {sh : mSh} {σ : mSt} {g : Nat → Int32} (hb : mBoard ad sh) (hG : wfP g) (hP : posR σ 20 g) (hL : lawR σ 5 g) {t : Nat} (ht : t < 6) : Ct yX9_property cX9_property 3 (some .int) 4 0 0 [.ref (ad 0), .int (nI t), .int 2] ae ad sh σ (mPi ad sh (fun z σ' => z = proA g t 2 ∧ frP σ σ' 23)) := by
  refine Ct.ofL (own := RX9) (ini := false) (ls := [some (.ref (ad 0)), some (.int (nI t)), some (.int 2)]) (by decide +kernel) rfl (fun h => by cases h) (Nat.le_of_ble_eq_true rfl) rfl ?_
  refine ev_iload_1 dX9_property_0 ?_
  refine cl_X9_109 c_isType dX9_property_1 rfl (Nat.le_of_ble_eq_true rfl) ?_
  refine ev_if_ne (tgt := 9) dX9_property_4 (by decide) (fun h4 => ?_) (fun h4 => ?_)
  · refine ev_iload_2 dX9_property_9 ?_
    refine ev_tableIn (off := 72) (tgt := 82) dX9_property_10 (by decide) (by decide) (by decide) (by decide) ?_
    refine ev_aload_0 dX9_property_82 ?_
    refine gf_X9_24 dX9_property_83 hb.1 rfl ?_
    refine gf_X9_127 dX9_property_86 hb.2.2.2.1.1 rfl ?_
    refine ev_iload_1 dX9_property_89 ?_
    refine cl_X9_134 (c_cell hb.2.2.2.1.2.2.2.2.2.2.1 (by decide)) dX9_property_90 rfl (Nat.le_of_ble_eq_true rfl) ?_
    exact ev_pi dX9_property_93 ⟨by unfold proA; rw [if_neg (by decide), if_neg (by decide), if_pos rfl, cellV_nI (by omega) ht]; exact hL.2.2.2.2.1 t ht, frP.rf⟩
  · exact absurd h4 (by rw [isTy_of ht]; decide)
set_option maxRecDepth 100000 in
set_option maxHeartbeats 4000000 in
theorem c_prop3 {ae ad : Nat → Nat} {sh : mSh} {σ : mSt} {g : Nat → Int32} (hb : mBoard ad sh) (hG : wfP g) (hP : posR σ 20 g) (hL : lawR σ 5 g) {t : Nat} (ht : t < 6) : Ct yX9_property cX9_property 3 (some .int) 4 0 0 [.ref (ad 0), .int (nI t), .int 3] ae ad sh σ (mPi ad sh (fun z σ' => z = proA g t 3 ∧ frP σ σ' 23)) := by
  refine Ct.ofL (own := RX9) (ini := false) (ls := [some (.ref (ad 0)), some (.int (nI t)), some (.int 3)]) (by decide +kernel) rfl (fun h => by cases h) (Nat.le_of_ble_eq_true rfl) rfl ?_
  refine ev_iload_1 dX9_property_0 ?_
  refine cl_X9_109 c_isType dX9_property_1 rfl (Nat.le_of_ble_eq_true rfl) ?_
  refine ev_if_ne (tgt := 9) dX9_property_4 (by decide) (fun h4 => ?_) (fun h4 => ?_)
  · refine ev_iload_2 dX9_property_9 ?_
    refine ev_tableIn (off := 84) (tgt := 94) dX9_property_10 (by decide) (by decide) (by decide) (by decide) ?_
    refine ev_aload_0 dX9_property_94 ?_
    refine gf_X9_24 dX9_property_95 hb.1 rfl ?_
    refine gf_X9_131 dX9_property_98 hb.2.2.2.1.1 rfl ?_
    refine ev_iload_1 dX9_property_101 ?_
    refine cl_X9_134 (c_cell hb.2.2.2.1.2.2.2.2.2.2.2.1 (by decide)) dX9_property_102 rfl (Nat.le_of_ble_eq_true rfl) ?_
    exact ev_pi dX9_property_105 ⟨by unfold proA; rw [if_neg (by decide), if_neg (by decide), if_neg (by decide), if_pos rfl, cellV_nI (by omega) ht]; exact hL.2.2.2.2.2.1 t ht, frP.rf⟩
  · exact absurd h4 (by rw [isTy_of ht]; decide)
set_option maxRecDepth 100000 in
set_option maxHeartbeats 4000000 in
theorem c_prop4 {ae ad : Nat → Nat} {sh : mSh} {σ : mSt} {g : Nat → Int32} (hb : mBoard ad sh) (hG : wfP g) (hP : posR σ 20 g) (hL : lawR σ 5 g) {t : Nat} (ht : t < 6) : Ct yX9_property cX9_property 3 (some .int) 4 0 0 [.ref (ad 0), .int (nI t), .int 4] ae ad sh σ (mPi ad sh (fun z σ' => z = proA g t 4 ∧ frP σ σ' 23)) := by
  refine Ct.ofL (own := RX9) (ini := false) (ls := [some (.ref (ad 0)), some (.int (nI t)), some (.int 4)]) (by decide +kernel) rfl (fun h => by cases h) (Nat.le_of_ble_eq_true rfl) rfl ?_
  refine ev_iload_1 dX9_property_0 ?_
  refine cl_X9_109 c_isType dX9_property_1 rfl (Nat.le_of_ble_eq_true rfl) ?_
  refine ev_if_ne (tgt := 9) dX9_property_4 (by decide) (fun h4 => ?_) (fun h4 => ?_)
  · refine ev_iload_2 dX9_property_9 ?_
    refine ev_tableIn (off := 96) (tgt := 106) dX9_property_10 (by decide) (by decide) (by decide) (by decide) ?_
    refine ev_aload_0 dX9_property_106 ?_
    refine gf_X9_47 dX9_property_107 hb.1 rfl ?_
    refine ev_iload_1 dX9_property_110 ?_
    refine cl_X9_326 (c_menOfType hb.2.2.2.2.2.2.1) hb.2.2.2.2.2.2.1.1 dX9_property_111 rfl (Nat.le_of_ble_eq_true rfl) ?_
    exact ev_pi dX9_property_114 ⟨by unfold proA; rw [if_neg (by decide), if_neg (by decide), if_neg (by decide), if_neg (by decide), if_pos rfl, mot_eq hG hP ht], frP.rf⟩
  · exact absurd h4 (by rw [isTy_of ht]; decide)
set_option maxRecDepth 100000 in
set_option maxHeartbeats 4000000 in
theorem c_prop5 {ae ad : Nat → Nat} {sh : mSh} {σ : mSt} {g : Nat → Int32} (hb : mBoard ad sh) (hG : wfP g) (hP : posR σ 20 g) (hL : lawR σ 5 g) {t : Nat} (ht : t < 6) : Ct yX9_property cX9_property 3 (some .int) 4 0 0 [.ref (ad 0), .int (nI t), .int 5] ae ad sh σ (mPi ad sh (fun z σ' => z = proA g t 5 ∧ frP σ σ' 23)) := by
  refine Ct.ofL (own := RX9) (ini := false) (ls := [some (.ref (ad 0)), some (.int (nI t)), some (.int 5)]) (by decide +kernel) rfl (fun h => by cases h) (Nat.le_of_ble_eq_true rfl) rfl ?_
  refine ev_iload_1 dX9_property_0 ?_
  refine cl_X9_109 c_isType dX9_property_1 rfl (Nat.le_of_ble_eq_true rfl) ?_
  refine ev_if_ne (tgt := 9) dX9_property_4 (by decide) (fun h4 => ?_) (fun h4 => ?_)
  · refine ev_iload_2 dX9_property_9 ?_
    refine ev_tableIn (off := 105) (tgt := 115) dX9_property_10 (by decide) (by decide) (by decide) (by decide) ?_
    refine ev_aload_0 dX9_property_115 ?_
    refine ev_iload_1 dX9_property_116 ?_
    refine cg_X9_329 (c_most hb hG hL ht hP) hb.1 dX9_property_117 rfl (Nat.le_of_ble_eq_true rfl) (fun r1 σ1 h1 => ?_)
    obtain ⟨e1, f1⟩ := h1
    exact ev_pi dX9_property_120 ⟨by unfold proA; rw [if_neg (by decide), if_neg (by decide), if_neg (by decide), if_neg (by decide), if_neg (by decide), if_pos rfl]; exact e1, f1⟩
  · exact absurd h4 (by rw [isTy_of ht]; decide)
set_option maxRecDepth 100000 in
set_option maxHeartbeats 4000000 in
theorem c_propN {ae ad : Nat → Nat} {sh : mSh} {σ : mSt} {g : Nat → Int32} (hb : mBoard ad sh) (hG : wfP g) (hP : posR σ 20 g) (hL : lawR σ 5 g) {t : Nat} (ht : t < 6) {c : Int32} (hc : c.toInt < 0 ∨ 5 < c.toInt) : Ct yX9_property cX9_property 3 (some .int) 4 0 0 [.ref (ad 0), .int (nI t), .int c] ae ad sh σ (mPi ad sh (fun z σ' => z = proA g t c ∧ frP σ σ' 23)) := by
  refine Ct.ofL (own := RX9) (ini := false) (ls := [some (.ref (ad 0)), some (.int (nI t)), some (.int c)]) (by decide +kernel) rfl (fun h => by cases h) (Nat.le_of_ble_eq_true rfl) rfl ?_
  refine ev_iload_1 dX9_property_0 ?_
  refine cl_X9_109 c_isType dX9_property_1 rfl (Nat.le_of_ble_eq_true rfl) ?_
  refine ev_if_ne (tgt := 9) dX9_property_4 (by decide) (fun h4 => ?_) (fun h4 => ?_)
  · refine ev_iload_2 dX9_property_9 ?_
    refine ev_tableOut (tgt := 121) dX9_property_10 hc (by decide) ?_
    refine ev_iconst_m1 dX9_property_121 ?_
    refine ev_pi dX9_property_122 ⟨?_, frP.rf⟩
    have n : ∀ z : Int32, 0 ≤ z.toInt → z.toInt ≤ 5 → ¬ c = z := fun z a b e => by rw [e] at hc; omega
    unfold proA
    rw [if_neg (n 0 (by decide) (by decide)), if_neg (n 1 (by decide) (by decide)), if_neg (n 2 (by decide) (by decide)), if_neg (n 3 (by decide) (by decide)), if_neg (n 4 (by decide) (by decide)), if_neg (n 5 (by decide) (by decide))]
  · exact absurd h4 (by rw [isTy_of ht]; decide)
def proG (g : Nat → Int32) (x c : Int32) : Int32 := if isTy x then proA g x.toNatClampNeg c else -1
theorem c_prop {ae ad : Nat → Nat} {sh : mSh} {σ : mSt} {g : Nat → Int32} (hb : mBoard ad sh) (hG : wfP g) (hP : posR σ 20 g) (hL : lawR σ 5 g) {x c : Int32} : Ct yX9_property cX9_property 3 (some .int) 4 0 0 [.ref (ad 0), .int x, .int c] ae ad sh σ (mPi ad sh (fun z σ' => z = proG g x c ∧ frP σ σ' 23)) := by
  by_cases hx : isTy x = true
  · obtain ⟨t, ht, e⟩ := isTy_nI hx
    subst e
    have e2 : proG g (nI t) c = proA g t c := by unfold proG; rw [if_pos hx, nI_clamp (by omega)]
    rw [e2]
    by_cases hc : c.toInt < 0 ∨ 5 < c.toInt
    · exact c_propN hb hG hP hL ht hc
    · obtain ⟨k, hk, e⟩ := tab_in (n := 5) (by decide) hc
      subst e
      rcases (show k = 0 ∨ k = 1 ∨ k = 2 ∨ k = 3 ∨ k = 4 ∨ k = 5 by omega) with e | e | e | e | e | e <;> subst e
      · exact c_prop0 hb hG hP hL ht
      · exact c_prop1 hb hG hP hL ht
      · exact c_prop2 hb hG hP hL ht
      · exact c_prop3 hb hG hP hL ht
      · exact c_prop4 hb hG hP hL ht
      · exact c_prop5 hb hG hP hL ht
  · have e2 : proG g x c = -1 := if_neg hx
    rw [e2]
    exact c_propNo hb (by cases h : isTy x; rfl; exact absurd h hx)
