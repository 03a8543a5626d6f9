theorem mlR_N (s : Int32) : ∃ m, m ≤ 12 ∧ mlR s = nI m := by
  unfold mlR
  by_cases h : isTy (s - 65) = true
  · rw [if_pos h]
    obtain ⟨t, ht, e⟩ := isTy_nI h
    rw [e, show manR 0 (nI t) = nI (1 + t + 6 * 0) from manR_nI (s := 0)]
    exact ⟨_, by omega, rfl⟩
  · rw [if_neg h]
    by_cases h2 : isTy (s - 97) = true
    · rw [if_pos h2]
      obtain ⟨t, ht, e⟩ := isTy_nI h2
      rw [e, show manR 1 (nI t) = nI (1 + t + 6 * 1) from manR_nI (s := 1)]
      exact ⟨_, by omega, rfl⟩
    · rw [if_neg h2]; exact ⟨0, by decide, rfl⟩
def mlN (s : Int32) : Nat := (mlR s).toNatClampNeg
theorem mlN_le (s : Int32) : mlN s ≤ 12 := by
  obtain ⟨m, hm, e⟩ := mlR_N s
  unfold mlN
  rw [e, nI_clamp (by omega)]; exact hm
theorem mlR_eq (s : Int32) : mlR s = nI (mlN s) := by
  obtain ⟨m, hm, e⟩ := mlR_N s
  unfold mlN
  rw [e, nI_clamp (by omega)]
abbrev isDg (s : Int32) : Prop := ¬ s < 49 ∧ s ≤ 54
/-- reads a position from the sign i on: n signs are left; x, y: where the next man comes; M: the men so far -/
def psF (g : Nat → Int32) (T : Nat → Int32) (tl : Nat) : Nat → Nat → Nat → Nat → (Nat → Nat) → Int32 × (Nat → Nat)
  | _, 0, x, y, M => (if x = cN g ∧ y = 0 then -1 else nI tl, M)
  | i, n + 1, x, y, M => if T i = 47 then (if x ≠ cN g ∨ y = 0 then (nI i, M) else psF g T tl (i + 1) n 0 (y - 1) M)
    else if isDg (T i) then (if cN g < x + ((T i).toNatClampNeg - 48) then (nI i, M) else psF g T tl (i + 1) n (x + ((T i).toNatClampNeg - 48)) y M)
    else if mlN (T i) = 0 ∨ pcG g (tyN (mlN (T i))) = 0 ∨ cN g ≤ x then (nI i, M) else psF g T tl (i + 1) n (x + 1) y (updN M (y * cN g + x) (mlN (T i)))
theorem dg_N {s : Int32} (h : isDg s) : ∃ k, 1 ≤ k ∧ k ≤ 6 ∧ s = nI (48 + k) ∧ s.toNatClampNeg - 48 = k ∧ s - 48 = nI k := by
  have h0 : ¬ s < 0 := fun z => h.1 (Int32.lt_trans z (by decide))
  obtain ⟨j, hj, e⟩ := nI_of h0
  subst e
  have a1 : 49 ≤ j := Nat.le_of_not_lt fun z => h.1 ((nI_ltI hj (by decide)).mpr z)
  have a2 : j ≤ 54 := Nat.le_of_not_lt fun z => Int32.not_le.mpr ((nI_ltI (b := j) (by decide) hj).mpr z) h.2
  exact ⟨j - 48, by omega, by omega, by congr 1; omega, by rw [nI_clamp hj], by rw [show (48 : Int32) = nI 48 from rfl, nI_sub (by omega)]⟩
theorem psF_ok {g T : Nat → Int32} {tl : Nat} (hG : wfP g) : ∀ (n i x y : Nat) (M : Nat → Nat), y < rN g → (∀ q, q < 36 → M q ≤ 12 ∧ (cN g * rN g ≤ q → M q = 0)) → ∀ q, q < 36 → (psF g T tl i n x y M).2 q ≤ 12 ∧ (cN g * rN g ≤ q → (psF g T tl i n x y M).2 q = 0)
  | 0, i, x, y, M, _, h => h
  | n + 1, i, x, y, M, hy, h => by
    intro q hq
    rw [psF]
    split
    · split
      · exact h q hq
      · exact psF_ok hG n _ _ _ _ (by omega) h q hq
    · split
      · split
        · exact h q hq
        · exact psF_ok hG n _ _ _ _ hy h q hq
      · split
        · exact h q hq
        · rename_i z
          refine psF_ok hG n _ _ _ _ hy (fun k hk => ?_) q hq
          have hx : x < cN g := Nat.lt_of_not_le fun y => z (Or.inr (Or.inr y))
          have h1 : (y + 1) * cN g ≤ rN g * cN g := Nat.mul_le_mul_right _ hy
          rw [Nat.succ_mul, Nat.mul_comm (rN g)] at h1
          show (if k = y * cN g + x then mlN (T i) else M k) ≤ 12 ∧ (cN g * rN g ≤ k → (if k = y * cN g + x then mlN (T i) else M k) = 0)
          by_cases e : k = y * cN g + x
          · rw [if_pos e]; exact ⟨mlN_le _, fun h => by omega⟩
          · rw [if_neg e]; exact h k hk

set_option maxRecDepth 100000 in
set_option maxHeartbeats 4000000 in
theorem c_readPos_12 {ae ad : Nat → Nat} {sh : mSh} {σ : mSt} {g T : Nat → Int32} {tl : Nat} (hb : mBoard ad sh) (hG : wfP g) (hL : lawR σ 5 g) (hT : tpR σ T tl) {Q : Int32 × (Nat → Nat)} : ∀ (n i : Nat), tl - i = n → i ≤ tl → ∀ (x y : Nat) (M : Nat → Nat) (σ2 : mSt), x ≤ cN g → y < rN g → frP σ σ2 23 → posQ σ2 23 M (fun _ => 0) (g 53) (g 54) 0 0 → psF g T tl i n x y M = Q → Ev RX9 cX9_readPosition 7 false (some .int) (mRm 2 0 0) ae (mPi ad sh (fun z σ' => z = Q.1 ∧ posQ σ' 23 Q.2 (fun _ => 0) (g 53) (g 54) 0 0 ∧ frP σ σ' 23)) 12 [some (.ref (ad 0)), some (.ref (ad 23)), some (.int (nI x)), some (.int (nI y)), some (.int (nI i)), none, none] [] 0 0 ad sh σ2 := by
  have h36 := sq36 hG
  have hc6 := hG.1.2.2
  have hr6 := hG.2.1.2.2
  have htl := hT.2.1
  intro n
  induction n with
  | zero =>
    intro i hn hi x y M σ2 hx hy hF hQ e
    have e0 : i = tl := by omega
    subst e0
    have t1 : σ2.1 1 1 = nI i := (congrFun (hF 1 (by decide) (by decide) (by decide)).1 1).trans hT.1
    refine ev_iload_4 dX9_readPosition_12 ?_
    refine ev_aload_0 dX9_readPosition_14 ?_
    refine gf_X9_14 dX9_readPosition_15 hb.1 rfl ?_
    refine gf_X9_91 dX9_readPosition_18 hb.2.1.1 rfl ?_
    rw [t1]
    refine ev_icmp_ge (tgt := 162) dX9_readPosition_21 (by decide) (fun h21 => ?_) (fun h21 => absurd (Int32.le_refl _) h21)
    refine ev_iload_2 dX9_readPosition_162 ?_
    refine ev_aload_1 dX9_readPosition_163 ?_
    refine gf_X9_148 dX9_readPosition_164 hb.2.2.2.2.2.2.2.1.1 rfl ?_
    rw [hQ.2.2.1.trans hG.1.1]
    refine ev_icmp_ne (tgt := 178) dX9_readPosition_167 (by decide) (fun h167 => ?_) (fun h167 => ?_)
    · refine ev_aload_0 dX9_readPosition_178 ?_
      refine gf_X9_14 dX9_readPosition_179 hb.1 rfl ?_
      refine gf_X9_91 dX9_readPosition_182 hb.2.1.1 rfl ?_
      rw [t1]
      refine ev_pi dX9_readPosition_185 ⟨?_, by rw [← e]; exact hQ, hF⟩
      rw [← e, psF]
      by_cases za : x = cN g ∧ y = 0
      · first
        | (rw [if_pos za]; done)
        | exact absurd (congrArg nI za.1) h167
        | exact absurd (congrArg nI za.2) h171
      · first
        | (rw [if_neg za]; done)
        | exact absurd ⟨(nI_eq (by omega) (by omega)).mp h167, (nI_eq (b := 0) (by omega) (by decide)).mp h171⟩ za
    · refine ev_iload_3 dX9_readPosition_170 ?_
      refine ev_if_ne (tgt := 178) dX9_readPosition_171 (by decide) (fun h171 => ?_) (fun h171 => ?_)
      · refine ev_aload_0 dX9_readPosition_178 ?_
        refine gf_X9_14 dX9_readPosition_179 hb.1 rfl ?_
        refine gf_X9_91 dX9_readPosition_182 hb.2.1.1 rfl ?_
        rw [t1]
        refine ev_pi dX9_readPosition_185 ⟨?_, by rw [← e]; exact hQ, hF⟩
        rw [← e, psF]
        by_cases za : x = cN g ∧ y = 0
        · first
          | (rw [if_pos za]; done)
          | exact absurd (congrArg nI za.1) h167
          | exact absurd (congrArg nI za.2) h171
        · first
          | (rw [if_neg za]; done)
          | exact absurd ⟨(nI_eq (by omega) (by omega)).mp h167, (nI_eq (b := 0) (by omega) (by decide)).mp h171⟩ za
      · refine ev_iconst_m1 dX9_readPosition_174 ?_
        refine ev_goto (tgt := 185) dX9_readPosition_175 (by decide) ?_
        refine ev_pi dX9_readPosition_185 ⟨?_, by rw [← e]; exact hQ, hF⟩
        rw [← e, psF]
        by_cases za : x = cN g ∧ y = 0
        · first
          | (rw [if_pos za]; done)
          | exact absurd (congrArg nI za.1) h167
          | exact absurd (congrArg nI za.2) h171
        · first
          | (rw [if_neg za]; done)
          | exact absurd ⟨(nI_eq (by omega) (by omega)).mp h167, (nI_eq (b := 0) (by omega) (by decide)).mp h171⟩ za
  | succ n ih =>
    intro i hn hi x y M σ2 hx hy hF hQ e
    have hlt : i < tl := by omega
    have t1 : σ2.1 1 1 = nI tl := (congrFun (hF 1 (by decide) (by decide) (by decide)).1 1).trans hT.1
    have t2 : σ2.1 (1 + 1) i = T i := (congrFun (hF 2 (by decide) (by decide) (by decide)).1 i).trans (hT.2.2 i hlt)
    have hL2 := hL.fr hF sep523
    have hm12 := mlN_le (T i)
    rw [psF] at e
    refine ev_iload_4 dX9_readPosition_12 ?_
    refine ev_aload_0 dX9_readPosition_14 ?_
    refine gf_X9_14 dX9_readPosition_15 hb.1 rfl ?_
    refine gf_X9_91 dX9_readPosition_18 hb.2.1.1 rfl ?_
    rw [t1]
    refine ev_icmp_ge (tgt := 162) dX9_readPosition_21 (by decide) (fun h21 => absurd h21 (nI_ge hlt (by omega))) (fun h21 => ?_)
    refine ev_aload_0 dX9_readPosition_24 ?_
    refine gf_X9_14 dX9_readPosition_25 hb.1 rfl ?_
    refine ev_iload_4 dX9_readPosition_28 ?_
    refine cl_X9_380 (c_signAt hb.2.1 t1 htl) hb.2.1.1 dX9_readPosition_30 rfl (Nat.le_of_ble_eq_true rfl) ?_
    rw [cellD_nI (by omega) hlt, t2]
    refine ev_istore_5 dX9_readPosition_33 rfl rfl ?_
    refine ev_iload_5 dX9_readPosition_35 ?_
    refine ev_bipush_47 dX9_readPosition_37 ?_
    refine ev_icmp_ne (tgt := 65) dX9_readPosition_39 (by decide) (fun h39 => ?_) (fun h39 => ?_)
    · refine ev_iload_5 dX9_readPosition_65 ?_
      refine ev_bipush_49 dX9_readPosition_67 ?_
      refine ev_icmp_lt (tgt := 90) dX9_readPosition_69 (by decide) (fun h69 => ?_) (fun h69 => ?_)
      · have hdg : ¬ isDg (T i) := fun z => by first | exact Int32.not_le.mpr h76 z.2 | exact z.1 h69
        rw [if_neg h39, if_neg hdg] at e
        refine ev_iload_5 dX9_readPosition_90 ?_
        refine cl_X9_383 c_manOfLetter dX9_readPosition_92 rfl (Nat.le_of_ble_eq_true rfl) ?_
        rw [mlR_eq]
        refine ev_istore_6 dX9_readPosition_95 rfl rfl ?_
        refine ev_iload_6 dX9_readPosition_97 ?_
        refine ev_if_eq (tgt := 125) dX9_readPosition_99 (by decide) (fun h99 => ?_) (fun h99 => ?_)
        · refine ev_iload_4 dX9_readPosition_125 ?_
          first
          | exact absurd (Int32.not_lt.mp (nI_pos (by omega)) : (0 : Int32) ≤ nI (cN g)) h150
          | (exfalso; exact h150 (by rw [nI_1]; exact nI_le (by omega) (by omega)))
          | exact ev_pi dX9_readPosition_127 (by rw [if_pos (Or.inl (fun z => h47 (by rw [z])))] at e; rw [← e]; exact ⟨rfl, hQ, hF⟩)
          | exact ev_pi dX9_readPosition_127 (by rw [if_pos (Or.inr ((nI_eq (b := 0) (by omega) (by decide)).mp h51))] at e; rw [← e]; exact ⟨rfl, hQ, hF⟩)
          | exact ev_pi dX9_readPosition_127 (by rw [if_pos (Or.inl ((nI_eq (b := 0) (by omega) (by decide)).mp h99))] at e; rw [← e]; exact ⟨rfl, hQ, hF⟩)
          | exact ev_pi dX9_readPosition_127 (by rw [if_pos (Or.inr (Or.inl ((nI_eq (b := 0) (by have := (hL2.1 _ (tyN_lt zq1 hm12)).2; omega) (by decide)).mp h114)))] at e; rw [← e]; exact ⟨rfl, hQ, hF⟩)
          | exact ev_pi dX9_readPosition_127 (by rw [if_pos (Or.inr (Or.inr (Nat.le_of_not_lt fun z => h122 (nI_lt z (by omega)))))] at e; rw [← e]; exact ⟨rfl, hQ, hF⟩)
          | exact ev_pi dX9_readPosition_127 (by
              have zq1 : cN g < x + k := Nat.lt_of_not_le fun z => h150 (by rw [ek3, nI_add]; exact nI_le z (by omega))
              rw [if_pos zq1] at e; rw [← e]; exact ⟨rfl, hQ, hF⟩)
        · have zq1 : 1 ≤ mlN (T i) := Nat.pos_of_ne_zero fun z => h99 (by rw [z]; rfl)
          refine ev_aload_0 dX9_readPosition_102 ?_
          refine gf_X9_24 dX9_readPosition_103 hb.1 rfl ?_
          refine ev_iload_6 dX9_readPosition_106 ?_
          refine cl_X9_226 c_typeOf dX9_readPosition_108 rfl (Nat.le_of_ble_eq_true rfl) ?_
          rw [tyR_nI zq1 (by omega)]
          refine cl_X9_120 (c_partsOf hb.2.2.2.1) hb.2.2.2.1.1 dX9_readPosition_111 rfl (Nat.le_of_ble_eq_true rfl) ?_
          rw [cellV_nI (by have := tyN_lt zq1 hm12; omega) (tyN_lt zq1 hm12), (hL2.1 _ (tyN_lt zq1 hm12)).1]
          refine ev_if_eq (tgt := 125) dX9_readPosition_114 (by decide) (fun h114 => ?_) (fun h114 => ?_)
          · refine ev_iload_4 dX9_readPosition_125 ?_
            first
            | exact absurd (Int32.not_lt.mp (nI_pos (by omega)) : (0 : Int32) ≤ nI (cN g)) h150
            | (exfalso; exact h150 (by rw [nI_1]; exact nI_le (by omega) (by omega)))
            | exact ev_pi dX9_readPosition_127 (by rw [if_pos (Or.inl (fun z => h47 (by rw [z])))] at e; rw [← e]; exact ⟨rfl, hQ, hF⟩)
            | exact ev_pi dX9_readPosition_127 (by rw [if_pos (Or.inr ((nI_eq (b := 0) (by omega) (by decide)).mp h51))] at e; rw [← e]; exact ⟨rfl, hQ, hF⟩)
            | exact ev_pi dX9_readPosition_127 (by rw [if_pos (Or.inl ((nI_eq (b := 0) (by omega) (by decide)).mp h99))] at e; rw [← e]; exact ⟨rfl, hQ, hF⟩)
            | exact ev_pi dX9_readPosition_127 (by rw [if_pos (Or.inr (Or.inl ((nI_eq (b := 0) (by have := (hL2.1 _ (tyN_lt zq1 hm12)).2; omega) (by decide)).mp h114)))] at e; rw [← e]; exact ⟨rfl, hQ, hF⟩)
            | exact ev_pi dX9_readPosition_127 (by rw [if_pos (Or.inr (Or.inr (Nat.le_of_not_lt fun z => h122 (nI_lt z (by omega)))))] at e; rw [← e]; exact ⟨rfl, hQ, hF⟩)
            | exact ev_pi dX9_readPosition_127 (by
                have zq1 : cN g < x + k := Nat.lt_of_not_le fun z => h150 (by rw [ek3, nI_add]; exact nI_le z (by omega))
                rw [if_pos zq1] at e; rw [← e]; exact ⟨rfl, hQ, hF⟩)
          · refine ev_iload_2 dX9_readPosition_117 ?_
            refine ev_aload_1 dX9_readPosition_118 ?_
            refine gf_X9_148 dX9_readPosition_119 hb.2.2.2.2.2.2.2.1.1 rfl ?_
            rw [hQ.2.2.1.trans hG.1.1]
            refine ev_icmp_lt (tgt := 128) dX9_readPosition_122 (by decide) (fun h122 => ?_) (fun h122 => ?_)
            · have zq2 : ¬ pcG g (tyN (mlN (T i))) = 0 := fun z => h114 (by rw [z]; rfl)
              have zq3 : x < cN g := (nI_ltI (by omega) (by omega)).mp h122
              refine ev_aload_1 dX9_readPosition_128 ?_
              refine ev_iload_3 dX9_readPosition_129 ?_
              refine ev_aload_1 dX9_readPosition_130 ?_
              refine gf_X9_148 dX9_readPosition_131 hb.2.2.2.2.2.2.2.1.1 rfl ?_
              rw [hQ.2.2.1.trans hG.1.1]
              refine ev_imul dX9_readPosition_134 ?_
              rw [nI_mul]
              refine ev_iload_2 dX9_readPosition_135 ?_
              refine ev_iadd dX9_readPosition_136 ?_
              rw [nI_add]
              refine ev_iload_6 dX9_readPosition_137 ?_
              refine cl_X9_369 (c_put hb.2.2.2.2.2.2.2.1) hb.2.2.2.2.2.2.2.1.1 dX9_readPosition_139 rfl (Nat.le_of_ble_eq_true rfl) ?_
              have hQ3 := hQ.put (row36 hG hy zq3) hm12
              refine ev_iinc_2 (v := 1) dX9_readPosition_142 (by decide) rfl rfl ?_
              refine ev_iload_2 dX9_readPosition_145 ?_
              refine ev_aload_1 dX9_readPosition_146 ?_
              refine gf_X9_148 dX9_readPosition_147 hb.2.2.2.2.2.2.2.1.1 rfl ?_
              rw [hQ3.2.2.1.trans hG.1.1]
              refine ev_icmp_le (tgt := 156) dX9_readPosition_150 (by decide) (fun h150 => ?_) (fun h150 => ?_)
              · refine ev_iinc_4 (v := 1) dX9_readPosition_156 (by decide) rfl rfl ?_
                refine ev_goto (tgt := 12) dX9_readPosition_159 (by decide) ?_
                refine ev_drop_5 ?_
                refine ev_drop_6 ?_
                rw [if_neg (fun z => z.elim (by omega) (fun q => q.elim zq2 (by omega)))] at e
                exact Ev.to (by rw [nI_1, nI_1]) rfl rfl (ih (i + 1) (by omega) (by omega) (x + 1) y _ _ (by omega) hy (hF.tr frP.put) (hQ.put (row36 hG hy zq3) hm12) e)
              · refine ev_iload_4 dX9_readPosition_153 ?_
                first
                | exact absurd (Int32.not_lt.mp (nI_pos (by omega)) : (0 : Int32) ≤ nI (cN g)) h150
                | (exfalso; exact h150 (by rw [nI_1]; exact nI_le (by omega) (by omega)))
                | exact ev_pi dX9_readPosition_155 (by rw [if_pos (Or.inl (fun z => h47 (by rw [z])))] at e; rw [← e]; exact ⟨rfl, hQ, hF⟩)
                | exact ev_pi dX9_readPosition_155 (by rw [if_pos (Or.inr ((nI_eq (b := 0) (by omega) (by decide)).mp h51))] at e; rw [← e]; exact ⟨rfl, hQ, hF⟩)
                | exact ev_pi dX9_readPosition_155 (by rw [if_pos (Or.inl ((nI_eq (b := 0) (by omega) (by decide)).mp h99))] at e; rw [← e]; exact ⟨rfl, hQ, hF⟩)
                | exact ev_pi dX9_readPosition_155 (by rw [if_pos (Or.inr (Or.inl ((nI_eq (b := 0) (by have := (hL2.1 _ (tyN_lt zq1 hm12)).2; omega) (by decide)).mp h114)))] at e; rw [← e]; exact ⟨rfl, hQ, hF⟩)
                | exact ev_pi dX9_readPosition_155 (by rw [if_pos (Or.inr (Or.inr (Nat.le_of_not_lt fun z => h122 (nI_lt z (by omega)))))] at e; rw [← e]; exact ⟨rfl, hQ, hF⟩)
                | exact ev_pi dX9_readPosition_155 (by
                    have zq1 : cN g < x + k := Nat.lt_of_not_le fun z => h150 (by rw [ek3, nI_add]; exact nI_le z (by omega))
                    rw [if_pos zq1] at e; rw [← e]; exact ⟨rfl, hQ, hF⟩)
            · refine ev_iload_4 dX9_readPosition_125 ?_
              first
              | exact absurd (Int32.not_lt.mp (nI_pos (by omega)) : (0 : Int32) ≤ nI (cN g)) h150
              | (exfalso; exact h150 (by rw [nI_1]; exact nI_le (by omega) (by omega)))
              | exact ev_pi dX9_readPosition_127 (by rw [if_pos (Or.inl (fun z => h47 (by rw [z])))] at e; rw [← e]; exact ⟨rfl, hQ, hF⟩)
              | exact ev_pi dX9_readPosition_127 (by rw [if_pos (Or.inr ((nI_eq (b := 0) (by omega) (by decide)).mp h51))] at e; rw [← e]; exact ⟨rfl, hQ, hF⟩)
              | exact ev_pi dX9_readPosition_127 (by rw [if_pos (Or.inl ((nI_eq (b := 0) (by omega) (by decide)).mp h99))] at e; rw [← e]; exact ⟨rfl, hQ, hF⟩)
              | exact ev_pi dX9_readPosition_127 (by rw [if_pos (Or.inr (Or.inl ((nI_eq (b := 0) (by have := (hL2.1 _ (tyN_lt zq1 hm12)).2; omega) (by decide)).mp h114)))] at e; rw [← e]; exact ⟨rfl, hQ, hF⟩)
              | exact ev_pi dX9_readPosition_127 (by rw [if_pos (Or.inr (Or.inr (Nat.le_of_not_lt fun z => h122 (nI_lt z (by omega)))))] at e; rw [← e]; exact ⟨rfl, hQ, hF⟩)
              | exact ev_pi dX9_readPosition_127 (by
                  have zq1 : cN g < x + k := Nat.lt_of_not_le fun z => h150 (by rw [ek3, nI_add]; exact nI_le z (by omega))
                  rw [if_pos zq1] at e; rw [← e]; exact ⟨rfl, hQ, hF⟩)
      · refine ev_iload_5 dX9_readPosition_72 ?_
        refine ev_bipush_54 dX9_readPosition_74 ?_
        refine ev_icmp_gt (tgt := 90) dX9_readPosition_76 (by decide) (fun h76 => ?_) (fun h76 => ?_)
        · have hdg : ¬ isDg (T i) := fun z => by first | exact Int32.not_le.mpr h76 z.2 | exact z.1 h69
          rw [if_neg h39, if_neg hdg] at e
          refine ev_iload_5 dX9_readPosition_90 ?_
          refine cl_X9_383 c_manOfLetter dX9_readPosition_92 rfl (Nat.le_of_ble_eq_true rfl) ?_
          rw [mlR_eq]
          refine ev_istore_6 dX9_readPosition_95 rfl rfl ?_
          refine ev_iload_6 dX9_readPosition_97 ?_
          refine ev_if_eq (tgt := 125) dX9_readPosition_99 (by decide) (fun h99 => ?_) (fun h99 => ?_)
          · refine ev_iload_4 dX9_readPosition_125 ?_
            first
            | exact absurd (Int32.not_lt.mp (nI_pos (by omega)) : (0 : Int32) ≤ nI (cN g)) h150
            | (exfalso; exact h150 (by rw [nI_1]; exact nI_le (by omega) (by omega)))
            | exact ev_pi dX9_readPosition_127 (by rw [if_pos (Or.inl (fun z => h47 (by rw [z])))] at e; rw [← e]; exact ⟨rfl, hQ, hF⟩)
            | exact ev_pi dX9_readPosition_127 (by rw [if_pos (Or.inr ((nI_eq (b := 0) (by omega) (by decide)).mp h51))] at e; rw [← e]; exact ⟨rfl, hQ, hF⟩)
            | exact ev_pi dX9_readPosition_127 (by rw [if_pos (Or.inl ((nI_eq (b := 0) (by omega) (by decide)).mp h99))] at e; rw [← e]; exact ⟨rfl, hQ, hF⟩)
            | exact ev_pi dX9_readPosition_127 (by rw [if_pos (Or.inr (Or.inl ((nI_eq (b := 0) (by have := (hL2.1 _ (tyN_lt zq1 hm12)).2; omega) (by decide)).mp h114)))] at e; rw [← e]; exact ⟨rfl, hQ, hF⟩)
            | exact ev_pi dX9_readPosition_127 (by rw [if_pos (Or.inr (Or.inr (Nat.le_of_not_lt fun z => h122 (nI_lt z (by omega)))))] at e; rw [← e]; exact ⟨rfl, hQ, hF⟩)
            | exact ev_pi dX9_readPosition_127 (by
                have zq1 : cN g < x + k := Nat.lt_of_not_le fun z => h150 (by rw [ek3, nI_add]; exact nI_le z (by omega))
                rw [if_pos zq1] at e; rw [← e]; exact ⟨rfl, hQ, hF⟩)
          · have zq1 : 1 ≤ mlN (T i) := Nat.pos_of_ne_zero fun z => h99 (by rw [z]; rfl)
            refine ev_aload_0 dX9_readPosition_102 ?_
            refine gf_X9_24 dX9_readPosition_103 hb.1 rfl ?_
            refine ev_iload_6 dX9_readPosition_106 ?_
            refine cl_X9_226 c_typeOf dX9_readPosition_108 rfl (Nat.le_of_ble_eq_true rfl) ?_
            rw [tyR_nI zq1 (by omega)]
            refine cl_X9_120 (c_partsOf hb.2.2.2.1) hb.2.2.2.1.1 dX9_readPosition_111 rfl (Nat.le_of_ble_eq_true rfl) ?_
            rw [cellV_nI (by have := tyN_lt zq1 hm12; omega) (tyN_lt zq1 hm12), (hL2.1 _ (tyN_lt zq1 hm12)).1]
            refine ev_if_eq (tgt := 125) dX9_readPosition_114 (by decide) (fun h114 => ?_) (fun h114 => ?_)
            · refine ev_iload_4 dX9_readPosition_125 ?_
              first
              | exact absurd (Int32.not_lt.mp (nI_pos (by omega)) : (0 : Int32) ≤ nI (cN g)) h150
              | (exfalso; exact h150 (by rw [nI_1]; exact nI_le (by omega) (by omega)))
              | exact ev_pi dX9_readPosition_127 (by rw [if_pos (Or.inl (fun z => h47 (by rw [z])))] at e; rw [← e]; exact ⟨rfl, hQ, hF⟩)
              | exact ev_pi dX9_readPosition_127 (by rw [if_pos (Or.inr ((nI_eq (b := 0) (by omega) (by decide)).mp h51))] at e; rw [← e]; exact ⟨rfl, hQ, hF⟩)
              | exact ev_pi dX9_readPosition_127 (by rw [if_pos (Or.inl ((nI_eq (b := 0) (by omega) (by decide)).mp h99))] at e; rw [← e]; exact ⟨rfl, hQ, hF⟩)
              | exact ev_pi dX9_readPosition_127 (by rw [if_pos (Or.inr (Or.inl ((nI_eq (b := 0) (by have := (hL2.1 _ (tyN_lt zq1 hm12)).2; omega) (by decide)).mp h114)))] at e; rw [← e]; exact ⟨rfl, hQ, hF⟩)
              | exact ev_pi dX9_readPosition_127 (by rw [if_pos (Or.inr (Or.inr (Nat.le_of_not_lt fun z => h122 (nI_lt z (by omega)))))] at e; rw [← e]; exact ⟨rfl, hQ, hF⟩)
              | exact ev_pi dX9_readPosition_127 (by
                  have zq1 : cN g < x + k := Nat.lt_of_not_le fun z => h150 (by rw [ek3, nI_add]; exact nI_le z (by omega))
                  rw [if_pos zq1] at e; rw [← e]; exact ⟨rfl, hQ, hF⟩)
            · refine ev_iload_2 dX9_readPosition_117 ?_
              refine ev_aload_1 dX9_readPosition_118 ?_
              refine gf_X9_148 dX9_readPosition_119 hb.2.2.2.2.2.2.2.1.1 rfl ?_
              rw [hQ.2.2.1.trans hG.1.1]
              refine ev_icmp_lt (tgt := 128) dX9_readPosition_122 (by decide) (fun h122 => ?_) (fun h122 => ?_)
              · have zq2 : ¬ pcG g (tyN (mlN (T i))) = 0 := fun z => h114 (by rw [z]; rfl)
                have zq3 : x < cN g := (nI_ltI (by omega) (by omega)).mp h122
                refine ev_aload_1 dX9_readPosition_128 ?_
                refine ev_iload_3 dX9_readPosition_129 ?_
                refine ev_aload_1 dX9_readPosition_130 ?_
                refine gf_X9_148 dX9_readPosition_131 hb.2.2.2.2.2.2.2.1.1 rfl ?_
                rw [hQ.2.2.1.trans hG.1.1]
                refine ev_imul dX9_readPosition_134 ?_
                rw [nI_mul]
                refine ev_iload_2 dX9_readPosition_135 ?_
                refine ev_iadd dX9_readPosition_136 ?_
                rw [nI_add]
                refine ev_iload_6 dX9_readPosition_137 ?_
                refine cl_X9_369 (c_put hb.2.2.2.2.2.2.2.1) hb.2.2.2.2.2.2.2.1.1 dX9_readPosition_139 rfl (Nat.le_of_ble_eq_true rfl) ?_
                have hQ3 := hQ.put (row36 hG hy zq3) hm12
                refine ev_iinc_2 (v := 1) dX9_readPosition_142 (by decide) rfl rfl ?_
                refine ev_iload_2 dX9_readPosition_145 ?_
                refine ev_aload_1 dX9_readPosition_146 ?_
                refine gf_X9_148 dX9_readPosition_147 hb.2.2.2.2.2.2.2.1.1 rfl ?_
                rw [hQ3.2.2.1.trans hG.1.1]
                refine ev_icmp_le (tgt := 156) dX9_readPosition_150 (by decide) (fun h150 => ?_) (fun h150 => ?_)
                · refine ev_iinc_4 (v := 1) dX9_readPosition_156 (by decide) rfl rfl ?_
                  refine ev_goto (tgt := 12) dX9_readPosition_159 (by decide) ?_
                  refine ev_drop_5 ?_
                  refine ev_drop_6 ?_
                  rw [if_neg (fun z => z.elim (by omega) (fun q => q.elim zq2 (by omega)))] at e
                  exact Ev.to (by rw [nI_1, nI_1]) rfl rfl (ih (i + 1) (by omega) (by omega) (x + 1) y _ _ (by omega) hy (hF.tr frP.put) (hQ.put (row36 hG hy zq3) hm12) e)
                · refine ev_iload_4 dX9_readPosition_153 ?_
                  first
                  | exact absurd (Int32.not_lt.mp (nI_pos (by omega)) : (0 : Int32) ≤ nI (cN g)) h150
                  | (exfalso; exact h150 (by rw [nI_1]; exact nI_le (by omega) (by omega)))
                  | exact ev_pi dX9_readPosition_155 (by rw [if_pos (Or.inl (fun z => h47 (by rw [z])))] at e; rw [← e]; exact ⟨rfl, hQ, hF⟩)
                  | exact ev_pi dX9_readPosition_155 (by rw [if_pos (Or.inr ((nI_eq (b := 0) (by omega) (by decide)).mp h51))] at e; rw [← e]; exact ⟨rfl, hQ, hF⟩)
                  | exact ev_pi dX9_readPosition_155 (by rw [if_pos (Or.inl ((nI_eq (b := 0) (by omega) (by decide)).mp h99))] at e; rw [← e]; exact ⟨rfl, hQ, hF⟩)
                  | exact ev_pi dX9_readPosition_155 (by rw [if_pos (Or.inr (Or.inl ((nI_eq (b := 0) (by have := (hL2.1 _ (tyN_lt zq1 hm12)).2; omega) (by decide)).mp h114)))] at e; rw [← e]; exact ⟨rfl, hQ, hF⟩)
                  | exact ev_pi dX9_readPosition_155 (by rw [if_pos (Or.inr (Or.inr (Nat.le_of_not_lt fun z => h122 (nI_lt z (by omega)))))] at e; rw [← e]; exact ⟨rfl, hQ, hF⟩)
                  | exact ev_pi dX9_readPosition_155 (by
                      have zq1 : cN g < x + k := Nat.lt_of_not_le fun z => h150 (by rw [ek3, nI_add]; exact nI_le z (by omega))
                      rw [if_pos zq1] at e; rw [← e]; exact ⟨rfl, hQ, hF⟩)
              · refine ev_iload_4 dX9_readPosition_125 ?_
                first
                | exact absurd (Int32.not_lt.mp (nI_pos (by omega)) : (0 : Int32) ≤ nI (cN g)) h150
                | (exfalso; exact h150 (by rw [nI_1]; exact nI_le (by omega) (by omega)))
                | exact ev_pi dX9_readPosition_127 (by rw [if_pos (Or.inl (fun z => h47 (by rw [z])))] at e; rw [← e]; exact ⟨rfl, hQ, hF⟩)
                | exact ev_pi dX9_readPosition_127 (by rw [if_pos (Or.inr ((nI_eq (b := 0) (by omega) (by decide)).mp h51))] at e; rw [← e]; exact ⟨rfl, hQ, hF⟩)
                | exact ev_pi dX9_readPosition_127 (by rw [if_pos (Or.inl ((nI_eq (b := 0) (by omega) (by decide)).mp h99))] at e; rw [← e]; exact ⟨rfl, hQ, hF⟩)
                | exact ev_pi dX9_readPosition_127 (by rw [if_pos (Or.inr (Or.inl ((nI_eq (b := 0) (by have := (hL2.1 _ (tyN_lt zq1 hm12)).2; omega) (by decide)).mp h114)))] at e; rw [← e]; exact ⟨rfl, hQ, hF⟩)
                | exact ev_pi dX9_readPosition_127 (by rw [if_pos (Or.inr (Or.inr (Nat.le_of_not_lt fun z => h122 (nI_lt z (by omega)))))] at e; rw [← e]; exact ⟨rfl, hQ, hF⟩)
                | exact ev_pi dX9_readPosition_127 (by
                    have zq1 : cN g < x + k := Nat.lt_of_not_le fun z => h150 (by rw [ek3, nI_add]; exact nI_le z (by omega))
                    rw [if_pos zq1] at e; rw [← e]; exact ⟨rfl, hQ, hF⟩)
        · have hdg : isDg (T i) := ⟨h69, Int32.not_lt.mp h76⟩
          rw [if_neg h39, if_pos hdg] at e
          obtain ⟨k, k1, k6, ek, ek2, ek3⟩ := dg_N hdg
          rw [ek2] at e
          refine ev_iload_2 dX9_readPosition_79 ?_
          refine ev_iload_5 dX9_readPosition_80 ?_
          refine ev_bipush_48 dX9_readPosition_82 ?_
          refine ev_isub dX9_readPosition_84 ?_
          refine ev_iadd dX9_readPosition_85 ?_
          refine ev_istore_2 dX9_readPosition_86 rfl rfl ?_
          refine ev_goto (tgt := 145) dX9_readPosition_87 (by decide) ?_
          refine ev_iload_2 dX9_readPosition_145 ?_
          refine ev_aload_1 dX9_readPosition_146 ?_
          refine gf_X9_148 dX9_readPosition_147 hb.2.2.2.2.2.2.2.1.1 rfl ?_
          rw [hQ.2.2.1.trans hG.1.1]
          refine ev_icmp_le (tgt := 156) dX9_readPosition_150 (by decide) (fun h150 => ?_) (fun h150 => ?_)
          · refine ev_iinc_4 (v := 1) dX9_readPosition_156 (by decide) rfl rfl ?_
            refine ev_goto (tgt := 12) dX9_readPosition_159 (by decide) ?_
            refine ev_drop_5 ?_
            have zq1 : ¬ cN g < x + k := fun z => by
              rw [ek3, nI_add] at h150
              exact Int32.not_le.mpr (nI_lt z (by omega)) h150
            rw [if_neg zq1] at e
            exact Ev.to (by rw [ek3, nI_add, nI_1]) rfl rfl (ih (i + 1) (by omega) (by omega) (x + k) y M σ2 (by omega) hy hF hQ e)
          · refine ev_iload_4 dX9_readPosition_153 ?_
            first
            | exact absurd (Int32.not_lt.mp (nI_pos (by omega)) : (0 : Int32) ≤ nI (cN g)) h150
            | (exfalso; exact h150 (by rw [nI_1]; exact nI_le (by omega) (by omega)))
            | exact ev_pi dX9_readPosition_155 (by rw [if_pos (Or.inl (fun z => h47 (by rw [z])))] at e; rw [← e]; exact ⟨rfl, hQ, hF⟩)
            | exact ev_pi dX9_readPosition_155 (by rw [if_pos (Or.inr ((nI_eq (b := 0) (by omega) (by decide)).mp h51))] at e; rw [← e]; exact ⟨rfl, hQ, hF⟩)
            | exact ev_pi dX9_readPosition_155 (by rw [if_pos (Or.inl ((nI_eq (b := 0) (by omega) (by decide)).mp h99))] at e; rw [← e]; exact ⟨rfl, hQ, hF⟩)
            | exact ev_pi dX9_readPosition_155 (by rw [if_pos (Or.inr (Or.inl ((nI_eq (b := 0) (by have := (hL2.1 _ (tyN_lt zq1 hm12)).2; omega) (by decide)).mp h114)))] at e; rw [← e]; exact ⟨rfl, hQ, hF⟩)
            | exact ev_pi dX9_readPosition_155 (by rw [if_pos (Or.inr (Or.inr (Nat.le_of_not_lt fun z => h122 (nI_lt z (by omega)))))] at e; rw [← e]; exact ⟨rfl, hQ, hF⟩)
            | exact ev_pi dX9_readPosition_155 (by
                have zq1 : cN g < x + k := Nat.lt_of_not_le fun z => h150 (by rw [ek3, nI_add]; exact nI_le z (by omega))
                rw [if_pos zq1] at e; rw [← e]; exact ⟨rfl, hQ, hF⟩)
    · rw [if_pos h39] at e
      refine ev_iload_2 dX9_readPosition_42 ?_
      refine ev_aload_1 dX9_readPosition_43 ?_
      refine gf_X9_148 dX9_readPosition_44 hb.2.2.2.2.2.2.2.1.1 rfl ?_
      rw [hQ.2.2.1.trans hG.1.1]
      refine ev_icmp_ne (tgt := 54) dX9_readPosition_47 (by decide) (fun h47 => ?_) (fun h47 => ?_)
      · refine ev_iload_4 dX9_readPosition_54 ?_
        first
        | exact absurd (Int32.not_lt.mp (nI_pos (by omega)) : (0 : Int32) ≤ nI (cN g)) h150
        | (exfalso; exact h150 (by rw [nI_1]; exact nI_le (by omega) (by omega)))
        | exact ev_pi dX9_readPosition_56 (by rw [if_pos (Or.inl (fun z => h47 (by rw [z])))] at e; rw [← e]; exact ⟨rfl, hQ, hF⟩)
        | exact ev_pi dX9_readPosition_56 (by rw [if_pos (Or.inr ((nI_eq (b := 0) (by omega) (by decide)).mp h51))] at e; rw [← e]; exact ⟨rfl, hQ, hF⟩)
        | exact ev_pi dX9_readPosition_56 (by rw [if_pos (Or.inl ((nI_eq (b := 0) (by omega) (by decide)).mp h99))] at e; rw [← e]; exact ⟨rfl, hQ, hF⟩)
        | exact ev_pi dX9_readPosition_56 (by rw [if_pos (Or.inr (Or.inl ((nI_eq (b := 0) (by have := (hL2.1 _ (tyN_lt zq1 hm12)).2; omega) (by decide)).mp h114)))] at e; rw [← e]; exact ⟨rfl, hQ, hF⟩)
        | exact ev_pi dX9_readPosition_56 (by rw [if_pos (Or.inr (Or.inr (Nat.le_of_not_lt fun z => h122 (nI_lt z (by omega)))))] at e; rw [← e]; exact ⟨rfl, hQ, hF⟩)
        | exact ev_pi dX9_readPosition_56 (by
            have zq1 : cN g < x + k := Nat.lt_of_not_le fun z => h150 (by rw [ek3, nI_add]; exact nI_le z (by omega))
            rw [if_pos zq1] at e; rw [← e]; exact ⟨rfl, hQ, hF⟩)
      · refine ev_iload_3 dX9_readPosition_50 ?_
        refine ev_if_ne (tgt := 57) dX9_readPosition_51 (by decide) (fun h51 => ?_) (fun h51 => ?_)
        · refine ev_iconst_0 dX9_readPosition_57 ?_
          refine ev_istore_2 dX9_readPosition_58 rfl rfl ?_
          refine ev_iinc_3 (v := (-1)) dX9_readPosition_59 (by decide) rfl rfl ?_
          refine ev_goto (tgt := 145) dX9_readPosition_62 (by decide) ?_
          refine ev_iload_2 dX9_readPosition_145 ?_
          refine ev_aload_1 dX9_readPosition_146 ?_
          refine gf_X9_148 dX9_readPosition_147 hb.2.2.2.2.2.2.2.1.1 rfl ?_
          rw [hQ.2.2.1.trans hG.1.1]
          refine ev_icmp_le (tgt := 156) dX9_readPosition_150 (by decide) (fun h150 => ?_) (fun h150 => ?_)
          · refine ev_iinc_4 (v := 1) dX9_readPosition_156 (by decide) rfl rfl ?_
            refine ev_goto (tgt := 12) dX9_readPosition_159 (by decide) ?_
            refine ev_drop_5 ?_
            have zq1 : x = cN g := (nI_eq (by omega) (by omega)).mp h47
            have zq2 : ¬ y = 0 := fun z => h51 (by rw [z]; rfl)
            rw [if_neg (fun z => z.elim (fun q => q zq1) zq2)] at e
            exact Ev.to (by rw [nI_m1 (by omega), nI_1]; rfl) rfl rfl (ih (i + 1) (by omega) (by omega) 0 (y - 1) M σ2 (by omega) (by omega) hF hQ e)
          · refine ev_iload_4 dX9_readPosition_153 ?_
            first
            | exact absurd (Int32.not_lt.mp (nI_pos (by omega)) : (0 : Int32) ≤ nI (cN g)) h150
            | (exfalso; exact h150 (by rw [nI_1]; exact nI_le (by omega) (by omega)))
            | exact ev_pi dX9_readPosition_155 (by rw [if_pos (Or.inl (fun z => h47 (by rw [z])))] at e; rw [← e]; exact ⟨rfl, hQ, hF⟩)
            | exact ev_pi dX9_readPosition_155 (by rw [if_pos (Or.inr ((nI_eq (b := 0) (by omega) (by decide)).mp h51))] at e; rw [← e]; exact ⟨rfl, hQ, hF⟩)
            | exact ev_pi dX9_readPosition_155 (by rw [if_pos (Or.inl ((nI_eq (b := 0) (by omega) (by decide)).mp h99))] at e; rw [← e]; exact ⟨rfl, hQ, hF⟩)
            | exact ev_pi dX9_readPosition_155 (by rw [if_pos (Or.inr (Or.inl ((nI_eq (b := 0) (by have := (hL2.1 _ (tyN_lt zq1 hm12)).2; omega) (by decide)).mp h114)))] at e; rw [← e]; exact ⟨rfl, hQ, hF⟩)
            | exact ev_pi dX9_readPosition_155 (by rw [if_pos (Or.inr (Or.inr (Nat.le_of_not_lt fun z => h122 (nI_lt z (by omega)))))] at e; rw [← e]; exact ⟨rfl, hQ, hF⟩)
            | exact ev_pi dX9_readPosition_155 (by
                have zq1 : cN g < x + k := Nat.lt_of_not_le fun z => h150 (by rw [ek3, nI_add]; exact nI_le z (by omega))
                rw [if_pos zq1] at e; rw [← e]; exact ⟨rfl, hQ, hF⟩)
        · refine ev_iload_4 dX9_readPosition_54 ?_
          first
          | exact absurd (Int32.not_lt.mp (nI_pos (by omega)) : (0 : Int32) ≤ nI (cN g)) h150
          | (exfalso; exact h150 (by rw [nI_1]; exact nI_le (by omega) (by omega)))
          | exact ev_pi dX9_readPosition_56 (by rw [if_pos (Or.inl (fun z => h47 (by rw [z])))] at e; rw [← e]; exact ⟨rfl, hQ, hF⟩)
          | exact ev_pi dX9_readPosition_56 (by rw [if_pos (Or.inr ((nI_eq (b := 0) (by omega) (by decide)).mp h51))] at e; rw [← e]; exact ⟨rfl, hQ, hF⟩)
          | exact ev_pi dX9_readPosition_56 (by rw [if_pos (Or.inl ((nI_eq (b := 0) (by omega) (by decide)).mp h99))] at e; rw [← e]; exact ⟨rfl, hQ, hF⟩)
          | exact ev_pi dX9_readPosition_56 (by rw [if_pos (Or.inr (Or.inl ((nI_eq (b := 0) (by have := (hL2.1 _ (tyN_lt zq1 hm12)).2; omega) (by decide)).mp h114)))] at e; rw [← e]; exact ⟨rfl, hQ, hF⟩)
          | exact ev_pi dX9_readPosition_56 (by rw [if_pos (Or.inr (Or.inr (Nat.le_of_not_lt fun z => h122 (nI_lt z (by omega)))))] at e; rw [← e]; exact ⟨rfl, hQ, hF⟩)
          | exact ev_pi dX9_readPosition_56 (by
              have zq1 : cN g < x + k := Nat.lt_of_not_le fun z => h150 (by rw [ek3, nI_add]; exact nI_le z (by omega))
              rw [if_pos zq1] at e; rw [← e]; exact ⟨rfl, hQ, hF⟩)
set_option maxRecDepth 100000 in
set_option maxHeartbeats 4000000 in
theorem c_readPos {ae ad : Nat → Nat} {sh : mSh} {σ : mSt} {g T : Nat → Int32} {tl : Nat} (hb : mBoard ad sh) (hG : wfP g) (hL : lawR σ 5 g) (hT : tpR σ T tl) (hQ : posQ σ 23 (fun _ => 0) (fun _ => 0) (g 53) (g 54) 0 0) : Ct yX9_readPosition cX9_readPosition 7 (some .int) 2 0 0 [.ref (ad 0), .ref (ad 23)] ae ad sh σ (mPi ad sh (fun z σ' => z = (psF g T tl 0 tl 0 (rN g - 1) (fun _ => 0)).1 ∧ posQ σ' 23 (psF g T tl 0 tl 0 (rN g - 1) (fun _ => 0)).2 (fun _ => 0) (g 53) (g 54) 0 0 ∧ frP σ σ' 23)) := by
  refine Ct.ofL (own := RX9) (ini := false) (ls := [some (.ref (ad 0)), some (.ref (ad 23)), none, none, none, none, none]) (by decide +kernel) rfl (fun h => by cases h) (Nat.le_of_ble_eq_true rfl) rfl ?_
  refine ev_iconst_0 dX9_readPosition_0 ?_
  refine ev_istore_2 dX9_readPosition_1 rfl rfl ?_
  refine ev_aload_1 dX9_readPosition_2 ?_
  refine gf_X9_151 dX9_readPosition_3 hb.2.2.2.2.2.2.2.1.1 rfl ?_
  rw [hQ.2.2.2.1.trans hG.2.1.1]
  refine ev_iconst_1 dX9_readPosition_6 ?_
  refine ev_isub dX9_readPosition_7 ?_
  rw [lI1, nI_sub (by have := hG.2.1.2.1; omega)]
  refine ev_istore_3 dX9_readPosition_8 rfl rfl ?_
  refine ev_iconst_0 dX9_readPosition_9 ?_
  refine ev_istore_4 dX9_readPosition_10 rfl rfl ?_
  exact c_readPos_12 hb hG hL hT _ 0 rfl (Nat.zero_le _) 0 _ _ _ (Nat.zero_le _) (by have := hG.2.1.2.1; omega) frP.rf hQ rfl
