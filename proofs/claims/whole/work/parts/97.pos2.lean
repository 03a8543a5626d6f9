theorem mlN_k : ∀ k, k < 128 → mlN (nI k) = if 65 ≤ k ∧ k ≤ 70 then k - 64 else if 97 ≤ k ∧ k ≤ 102 then k - 90 else 0 := by decide +kernel
def leG (g : Nat → Int32) (m : Nat) : Nat := if m = 0 ∨ pcG g (tyN m) = 0 then 0 else m

set_option maxRecDepth 100000 in
set_option maxHeartbeats 4000000 in
theorem c_let_43 {ae ad : Nat → Nat} {sh : mSh} {σ : mSt} (hm : mModel ad sh) {g : Nat → Int32} (hg : σ.1 62 = g) (hG : wfP g) (hW : wfL g) {c : Int32} {mm : Nat} (h12 : mm ≤ 12) : Ev RX10 cX10_letter 3 false (some .int) (mRm 2 0 0) ae (mEq (some (.int (nI (leG g mm)))) ad sh σ) 43 [some (.ref (ad 61)), some (.int c), some (.int (nI mm))] [] 0 0 ad sh σ := by
  refine ev_iload_2 dX10_letter_43 ?_
  refine ev_if_le (tgt := 64) dX10_letter_44 (by decide) (fun h44 => ?_) (fun h44 => ?_)
  · refine ev_iconst_0 dX10_letter_64 ?_
    have hz : mm = 0 := Classical.byContradiction fun z => absurd h44 (nI_nle (Nat.pos_of_ne_zero z) (by omega))
    exact ev_iret dX10_letter_65 (by rw [leG, if_pos (Or.inl hz)]; rfl) rfl
  · have m1 : 1 ≤ mm := Nat.pos_of_ne_zero (fun z => h44 (by rw [z]; decide))
    have hty := tyN_lt m1 h12
    refine ev_aload_0 dX10_letter_47 ?_
    refine ev_iload_2 dX10_letter_48 ?_
    refine ev_iconst_1 dX10_letter_49 ?_
    refine ev_isub dX10_letter_50 ?_
    refine ev_bipush_6 dX10_letter_51 ?_
    refine ev_irem dX10_letter_53 (show ¬ (6 : Int32) = 0 by decide) ?_
    rw [m1_rem m1 h12]
    refine cl_X10_136 (c_mIsDef hm hg hG hW (t := (tyN mm)) hty) hm.1 dX10_letter_54 rfl (Nat.le_of_ble_eq_true rfl) ?_
    refine ev_if_eq (tgt := 64) dX10_letter_57 (by decide) (fun h57 => ?_) (fun h57 => ?_)
    · refine ev_iconst_0 dX10_letter_64 ?_
      exact ev_iret dX10_letter_65 (by rw [leG, if_pos (Or.inr (Classical.byContradiction fun q => by rw [show decide (pcG g (tyN mm) ≠ 0) = true from decide_eq_true q] at h57; exact absurd h57 (by decide)))]; rfl) rfl
    · refine ev_iload_2 dX10_letter_60 ?_
      refine ev_goto (tgt := 65) dX10_letter_61 (by decide) ?_
      have hd : ¬ pcG g (tyN mm) = 0 := fun q => absurd (b2i_t h57) (by rw [decide_eq_false (fun w => w q)]; decide)
      exact ev_iret dX10_letter_65 (by rw [leG, if_neg (fun z => z.elim (by omega) hd)]) rfl
set_option maxRecDepth 100000 in
set_option maxHeartbeats 4000000 in
theorem c_mLetter {ae ad : Nat → Nat} {sh : mSh} {σ : mSt} (hm : mModel ad sh) {g : Nat → Int32} (hg : σ.1 62 = g) (hG : wfP g) (hW : wfL g) {k : Nat} (hk : k < 128) : Ct yX10_letter cX10_letter 3 (some .int) 2 0 0 [.ref (ad 61), .int (nI k)] ae ad sh σ (mEq (some (.int (nI (leG g (mlN (nI k)))))) ad sh σ) := by
  refine Ct.ofL (own := RX10) (ini := false) (ls := [some (.ref (ad 61)), some (.int (nI k)), none]) (by decide +kernel) rfl (fun h => by cases h) (Nat.le_of_ble_eq_true rfl) rfl ?_
  refine ev_iload_1 dX10_letter_0 ?_
  refine ev_bipush_65 dX10_letter_1 ?_
  refine ev_bipush_70 dX10_letter_3 ?_
  refine cl_X10_61 c_mIn dX10_letter_5 rfl (Nat.le_of_ble_eq_true rfl) ?_
  refine ev_if_eq (tgt := 20) dX10_letter_8 (by decide) (fun h8 => ?_) (fun h8 => ?_)
  · refine ev_iload_1 dX10_letter_20 ?_
    refine ev_bipush_97 dX10_letter_21 ?_
    refine ev_bipush_102 dX10_letter_23 ?_
    refine cl_X10_61 c_mIn dX10_letter_25 rfl (Nat.le_of_ble_eq_true rfl) ?_
    refine ev_if_eq (tgt := 41) dX10_letter_28 (by decide) (fun h28 => ?_) (fun h28 => ?_)
    · refine ev_iconst_0 dX10_letter_41 ?_
      refine ev_istore_2 dX10_letter_42 rfl rfl ?_
      have hA : ¬ (65 ≤ k ∧ k ≤ 70) := fun z => by
        have h := (b2i_0 _).mp h8
        rw [show (65 : Int32) = nI 65 from rfl, show (70 : Int32) = nI 70 from rfl, nI_inB (by omega) (by decide) (by decide)] at h
        exact of_decide_eq_false h z
      have hB : ¬ (97 ≤ k ∧ k ≤ 102) := fun z => by
        have h := (b2i_0 _).mp h28
        rw [show (97 : Int32) = nI 97 from rfl, show (102 : Int32) = nI 102 from rfl, nI_inB (by omega) (by decide) (by decide)] at h
        exact of_decide_eq_false h z
      have e : mlN (nI k) = 0 := by rw [mlN_k k hk, if_neg hA, if_neg hB]
      rw [e]
      exact Ev.to (by rfl) rfl rfl (c_let_43 hm hg hG hW (mm := 0) (by decide))
    · refine ev_bipush_7 dX10_letter_31 ?_
      refine ev_iload_1 dX10_letter_33 ?_
      refine ev_iadd dX10_letter_34 ?_
      rw [show (7 : Int32) + nI k = nI (7 + k) from nI_add (7) (k)]
      refine ev_bipush_97 dX10_letter_35 ?_
      refine ev_isub dX10_letter_37 ?_
      have hB : 97 ≤ k ∧ k ≤ 102 := by
        have h := b2i_t h28
        rw [show (97 : Int32) = nI 97 from rfl, show (102 : Int32) = nI 102 from rfl, nI_inB (by omega) (by decide) (by decide)] at h
        exact of_decide_eq_true h
      rw [show nI (7 + k) - 97 = nI (k - 90) from by rw [show (97 : Int32) = nI 97 from rfl, nI_sub (by omega)]; congr 1; omega]
      refine ev_goto (tgt := 42) dX10_letter_38 (by decide) ?_
      refine ev_istore_2 dX10_letter_42 rfl rfl ?_
      have hA : ¬ (65 ≤ k ∧ k ≤ 70) := fun z => by omega
      have e : mlN (nI k) = k - 90 := by rw [mlN_k k hk, if_neg hA, if_pos hB]
      rw [e]
      exact c_let_43 hm hg hG hW (by omega)
  · refine ev_iconst_1 dX10_letter_11 ?_
    refine ev_iload_1 dX10_letter_12 ?_
    refine ev_iadd dX10_letter_13 ?_
    rw [show (1 : Int32) + nI k = nI (1 + k) from nI_add (1) (k)]
    refine ev_bipush_65 dX10_letter_14 ?_
    refine ev_isub dX10_letter_16 ?_
    have hA : 65 ≤ k ∧ k ≤ 70 := by
      have h := b2i_t h8
      rw [show (65 : Int32) = nI 65 from rfl, show (70 : Int32) = nI 70 from rfl, nI_inB (by omega) (by decide) (by decide)] at h
      exact of_decide_eq_true h
    rw [show nI (1 + k) - 65 = nI (k - 64) from by rw [show (65 : Int32) = nI 65 from rfl, nI_sub (by omega)]; congr 1; omega]
    refine ev_goto (tgt := 42) dX10_letter_17 (by decide) ?_
    refine ev_istore_2 dX10_letter_42 rfl rfl ?_
    have e : mlN (nI k) = k - 64 := by rw [mlN_k k hk, if_pos hA]
    rw [e]
    exact c_let_43 hm hg hG hW (by omega)
/-- what the reading of a position rests on, with the row M so far -/
def prR (σ σ' : mSt) (qa : Nat) (g T : Nat → Int32) (tl : Nat) (M : Nat → Nat) : Prop := σ'.1 62 = g ∧ σ'.1 64 = T ∧ σ'.1 61 4 = nI tl ∧ (∀ i, i < 36 → σ'.1 qa i = nI (M i)) ∧ (∀ j, j ≠ qa → σ'.1 j = σ.1 j) ∧ σ'.2 = σ.2
theorem leG_le (g : Nat → Int32) {m : Nat} (h : m ≤ 12) : leG g m ≤ 12 := by
  unfold leG
  split
  · exact Nat.zero_le _
  · exact h
theorem ps_bad {g T : Nat → Int32} {tl i n x y : Nat} {M : Nat → Nat} (hx : x = cN g) (hn : T i ≠ 47 ∨ y = 0) : psF g T tl i (n + 1) x y M = (nI i, M) := by
  rw [psF]
  by_cases h : T i = 47
  · rw [if_pos h, if_pos (Or.inr (hn.resolve_left (fun z => z h)))]
  · rw [if_neg h]
    by_cases d : isDg (T i)
    · obtain ⟨k, k1, _, _, k2, _⟩ := dg_N d
      rw [if_pos d, k2, if_pos (by omega)]
    · rw [if_neg d, if_pos (Or.inr (Or.inr (by omega)))]

set_option maxRecDepth 100000 in
set_option maxHeartbeats 4000000 in
theorem c_mPos_19 {ae ad : Nat → Nat} {sh : mSh} {σ : mSt} (hm : mModel ad sh) {g T : Nat → Int32} {tl qa : Nat} (hG : wfP g) (hW : wfL g) (hq : sh[qa]? = some (.inl 36)) (hqa : 76 ≤ qa) (htl : tl ≤ 60) (hT : ∀ i, i < tl → ∃ k, k < 128 ∧ T i = nI k) {Q : Int32 × (Nat → Nat)} : ∀ (n i : Nat), tl - i = n → i ≤ tl → ∀ (x y : Nat) (M : Nat → Nat) (σ2 : mSt), x ≤ cN g → y < rN g → prR σ σ2 qa g T tl M → psF g T tl i n x y M = Q → Ev RX10 cX10_position 7 false (some .int) (mRm 3 0 0) ae (mPi ad sh (fun z σ' => z = Q.1 ∧ (∀ i, i < 36 → σ'.1 qa i = nI (Q.2 i)) ∧ (∀ j, j ≠ qa → σ'.1 j = σ.1 j) ∧ σ'.2 = σ.2)) 19 [some (.ref (ad 61)), some (.ref (ad qa)), some (.int (nI i)), some (.int (nI y)), some (.int (nI x)), none, none] [] 0 0 ad sh σ2 := by
  have h36 := sq36 hG
  have hc := hG.1.2
  have hr := hG.2.1.2
  intro n
  induction n with
  | zero =>
    intro i hn hi x y M σ2 hx hy hR e
    have e0 : i = tl := by omega
    subst e0
    obtain ⟨hg, ht, hl, hM, hF, hll⟩ := hR
    refine ev_iload_4 dX10_position_19 ?_
    refine ev_aload_0 dX10_position_21 ?_
    refine gf_X10_11 dX10_position_22 hm.1 rfl ?_
    refine ev_bipush_53 dX10_position_25 ?_
    refine ev_ldk (k := 53) hm.2.1 hg rfl (by omega) (by decide) dX10_position_27 ?_
    rw [hG.1.1]
    refine ev_icmp_ge (tgt := 148) dX10_position_28 (by decide) (fun h28 => ?_) (fun h28 => ?_)
    · refine ev_iload_3 dX10_position_148 ?_
      refine ev_if_ne (tgt := 166) dX10_position_149 (by decide) (fun h149 => ?_) (fun h149 => ?_)
      · refine ev_iload_2 dX10_position_166 ?_
        refine ev_aload_0 dX10_position_167 ?_
        refine gf_X10_85 dX10_position_168 hm.1 rfl ?_
        rw [hl]
        refine ev_icmp_eq (tgt := 185) dX10_position_171 (by decide) (fun h171 => ?_) (fun h171 => ?_)
        · refine ev_iload_2 dX10_position_185 ?_
          have hz : ¬ (x = cN g ∧ y = 0) := fun z => h149 (by rw [z.2]; rfl)
          exact ev_pi dX10_position_186 ⟨by rw [← e, psF, if_neg hz], by rw [← e, psF]; exact hM, hF, hll⟩
        · exact absurd rfl h171
      · refine ev_iload_2 dX10_position_152 ?_
        refine ev_aload_0 dX10_position_153 ?_
        refine gf_X10_85 dX10_position_154 hm.1 rfl ?_
        rw [hl]
        refine ev_icmp_ge (tgt := 164) dX10_position_157 (by decide) (fun h157 => ?_) (fun h157 => absurd (Int32.le_refl _) h157)
        refine ev_iconst_m1 dX10_position_164 ?_
        have hz : x = cN g ∧ y = 0 := ⟨Nat.le_antisymm hx (Nat.le_of_not_lt fun z => nI_ge z (by omega) h28), (nI_eq (b := 0) (by omega) (by decide)).mp h149⟩
        exact ev_pi dX10_position_165 ⟨by rw [← e, psF, if_pos hz], by rw [← e, psF]; exact hM, hF, hll⟩
    · refine ev_iload_2 dX10_position_31 ?_
      refine ev_aload_0 dX10_position_32 ?_
      refine gf_X10_85 dX10_position_33 hm.1 rfl ?_
      rw [hl]
      refine ev_icmp_ne (tgt := 41) dX10_position_36 (by decide) (fun h36 => ?_) (fun h36 => ?_)
      · exact absurd rfl h36
      · refine ev_iload_2 dX10_position_39 ?_
        have hz : ¬ (x = cN g ∧ y = 0) := fun z => h28 (by rw [z.1]; exact Int32.le_refl _)
        exact ev_pi dX10_position_40 ⟨by rw [← e, psF, if_neg hz], by rw [← e, psF]; exact hM, hF, hll⟩
  | succ n ih =>
    intro i hn hi x y M σ2 hx hy hR e
    have hlt : i < tl := by omega
    obtain ⟨hg, ht, hl, hM, hF, hll⟩ := hR
    obtain ⟨k, hk, eT⟩ := hT i hlt
    have hml := mlN_le (T i)
    have eml : mlN (nI k) = mlN (T i) := by rw [eT]
    refine ev_iload_4 dX10_position_19 ?_
    refine ev_aload_0 dX10_position_21 ?_
    refine gf_X10_11 dX10_position_22 hm.1 rfl ?_
    refine ev_bipush_53 dX10_position_25 ?_
    refine ev_ldk (k := 53) hm.2.1 hg rfl (by omega) (by decide) dX10_position_27 ?_
    rw [hG.1.1]
    refine ev_icmp_ge (tgt := 148) dX10_position_28 (by decide) (fun h28 => ?_) (fun h28 => ?_)
    · have hxx : x = cN g := Nat.le_antisymm hx (Nat.le_of_not_lt fun z => nI_ge z (by omega) h28)
      refine ev_iload_3 dX10_position_148 ?_
      refine ev_if_ne (tgt := 166) dX10_position_149 (by decide) (fun h149 => ?_) (fun h149 => ?_)
      · refine ev_iload_2 dX10_position_166 ?_
        refine ev_aload_0 dX10_position_167 ?_
        refine gf_X10_85 dX10_position_168 hm.1 rfl ?_
        rw [hl]
        refine ev_icmp_eq (tgt := 185) dX10_position_171 (by decide) (fun h171 => absurd h171 (fun z => by have := (nI_eq (by omega) (by omega)).mp z; omega)) (fun h171 => ?_)
        refine ev_aload_0 dX10_position_174 ?_
        refine gf_X10_18 dX10_position_175 hm.1 rfl ?_
        refine ev_iload_2 dX10_position_178 ?_
        refine ev_ldk (k := i) hm.2.2.2.1 ht rfl (by omega) (by decide) dX10_position_179 ?_
        rw [eT]
        refine ev_bipush_47 dX10_position_180 ?_
        refine ev_icmp_eq (tgt := 187) dX10_position_182 (by decide) (fun h182 => ?_) (fun h182 => ?_)
        · have hy1 : ¬ y = 0 := fun z => h149 (by rw [z]; rfl)
          refine ev_iinc_2 (v := 1) dX10_position_187 (by decide) rfl rfl ?_
          rw [show nI i + 1 = nI (i + 1) from nI_add (i) 1]
          refine ev_iinc_3 (v := (-1)) dX10_position_190 (by decide) rfl rfl ?_
          rw [show nI y + -1 = nI (y - 1) from nI_m1 (by omega)]
          refine ev_goto (tgt := 12) dX10_position_193 (by decide) ?_
          refine ev_iload_3 dX10_position_12 ?_
          refine ev_if_lt (tgt := 196) dX10_position_13 (by decide) (fun h13 => absurd h13 (nI_pos (by omega))) (fun h13 => ?_)
          refine ev_iconst_0 dX10_position_16 ?_
          refine ev_istore_4 dX10_position_17 rfl rfl ?_
          have h47c : T i = 47 := by rw [eT]; exact h182
          have epb : psF g T tl i (n + 1) x y M = psF g T tl (i + 1) n 0 (y - 1) M := by
            rw [psF, if_pos h47c, if_neg (fun z => z.elim (fun q => q hxx) (fun q => hy1 q))]
          exact Ev.to (by rfl) rfl rfl (ih (i + 1) (by omega) (by omega) 0 (y - 1) M _ (Nat.zero_le _) (by omega) ⟨hg, ht, hl, hM, hF, hll⟩ (epb.symm.trans e))
        · refine ev_iload_2 dX10_position_185 ?_
          have h47b : T i ≠ 47 := fun z => h182 (by rw [← eT]; exact z)
          exact ev_pi dX10_position_186 ⟨by rw [← e, ps_bad hxx (Or.inl h47b)], by rw [← e, ps_bad hxx (Or.inl h47b)]; exact hM, hF, hll⟩
      · have hy0 : y = 0 := (nI_eq (b := 0) (by omega) (by decide)).mp h149
        refine ev_iload_2 dX10_position_152 ?_
        refine ev_aload_0 dX10_position_153 ?_
        refine gf_X10_85 dX10_position_154 hm.1 rfl ?_
        rw [hl]
        refine ev_icmp_ge (tgt := 164) dX10_position_157 (by decide) (fun h157 => absurd h157 (nI_ge hlt (by omega))) (fun h157 => ?_)
        refine ev_iload_2 dX10_position_160 ?_
        refine ev_goto (tgt := 165) dX10_position_161 (by decide) ?_
        exact ev_pi dX10_position_165 ⟨by rw [← e, ps_bad hxx (Or.inr hy0)], by rw [← e, ps_bad hxx (Or.inr hy0)]; exact hM, hF, hll⟩
    · refine ev_iload_2 dX10_position_31 ?_
      refine ev_aload_0 dX10_position_32 ?_
      refine gf_X10_85 dX10_position_33 hm.1 rfl ?_
      rw [hl]
      refine ev_icmp_ne (tgt := 41) dX10_position_36 (by decide) (fun h36 => ?_) (fun h36 => ?_)
      · have hxc : x < cN g := Nat.lt_of_not_le fun z => h28 (nI_le z (by omega))
        refine ev_aload_0 dX10_position_41 ?_
        refine ev_aload_0 dX10_position_42 ?_
        refine gf_X10_18 dX10_position_43 hm.1 rfl ?_
        refine ev_iload_2 dX10_position_46 ?_
        refine ev_ldk (k := i) hm.2.2.2.1 ht rfl (by omega) (by decide) dX10_position_47 ?_
        rw [eT]
        refine cl_X10_139 (c_mLetter hm hg hG hW (k := k) hk) hm.1 dX10_position_48 rfl (Nat.le_of_ble_eq_true rfl) ?_
        rw [eml]
        refine ev_istore_5 dX10_position_51 rfl rfl ?_
        refine ev_aload_0 dX10_position_53 ?_
        refine gf_X10_18 dX10_position_54 hm.1 rfl ?_
        refine ev_iload_2 dX10_position_57 ?_
        refine ev_ldk (k := i) hm.2.2.2.1 ht rfl (by omega) (by decide) dX10_position_58 ?_
        rw [eT, eml]
        refine ev_bipush_49 dX10_position_59 ?_
        refine ev_bipush_54 dX10_position_61 ?_
        refine cl_X10_61 c_mIn dX10_position_63 rfl (Nat.le_of_ble_eq_true rfl) ?_
        refine ev_if_eq (tgt := 81) dX10_position_66 (by decide) (fun h66 => ?_) (fun h66 => ?_)
        · have hdg : ¬ isDg (T i) := by
            rw [eT]
            have h := (b2i_0 _).mp h66
            rw [show (49 : Int32) = nI 49 from rfl, show (54 : Int32) = nI 54 from rfl, nI_inB (by omega) (by decide) (by decide)] at h
            intro z
            refine of_decide_eq_false h ?_
            have a1 : 49 ≤ k := Nat.le_of_not_lt fun q => z.1 ((nI_ltI (by omega) (b := 49) (by decide)).mpr q)
            have a2 : k ≤ 54 := Nat.le_of_not_lt fun q => Int32.not_le.mpr ((nI_ltI (a := 54) (by decide) (by omega)).mpr q) z.2
            exact ⟨a1, a2⟩
          refine ev_iconst_0 dX10_position_81 ?_
          refine ev_istore_6 dX10_position_82 rfl rfl ?_
          refine ev_iload_5 dX10_position_84 ?_
          refine ev_if_ne (tgt := 94) dX10_position_86 (by decide) (fun h86 => ?_) (fun h86 => ?_)
          · refine ev_iload_4 dX10_position_94 ?_
            refine ev_iload_6 dX10_position_96 ?_
            refine ev_iadd dX10_position_98 ?_
            rw [show nI x + (0 : Int32) = nI (x + 0) from nI_add (x) (0)]
            refine ev_aload_0 dX10_position_99 ?_
            refine gf_X10_11 dX10_position_100 hm.1 rfl ?_
            refine ev_bipush_53 dX10_position_103 ?_
            refine ev_ldk (k := 53) hm.2.1 hg rfl (by omega) (by decide) dX10_position_105 ?_
            rw [hG.1.1]
            refine ev_icmp_le (tgt := 111) dX10_position_106 (by decide) (fun h106 => ?_) (fun h106 => absurd (nI_le (by omega) (by omega)) h106)
            refine ev_iload_5 dX10_position_111 ?_
            refine ev_if_le (tgt := 135) dX10_position_113 (by decide) (fun h113 => absurd h113 (nI_nle (Nat.pos_of_ne_zero fun z => h86 (by rw [z]; rfl)) (by have := leG_le g hml; omega))) (fun h113 => ?_)
            have hgood : ¬ (mlN (T i) = 0 ∨ pcG g (tyN (mlN (T i))) = 0) := fun z => h113 (by rw [leG, if_pos z]; decide)
            have hlm : leG g (mlN (T i)) = mlN (T i) := by rw [leG, if_neg hgood]
            have hmc : cN g * y + x = y * cN g + x := by rw [Nat.mul_comm]
            have hq36 := row36 hG hy hxc
            refine ev_aload_1 dX10_position_116 ?_
            refine ev_aload_0 dX10_position_117 ?_
            refine gf_X10_11 dX10_position_118 hm.1 rfl ?_
            refine ev_bipush_53 dX10_position_121 ?_
            refine ev_ldk (k := 53) hm.2.1 hg rfl (by omega) (by decide) dX10_position_123 ?_
            rw [hG.1.1]
            refine ev_iload_3 dX10_position_124 ?_
            refine ev_imul dX10_position_125 ?_
            rw [show nI (cN g) * nI y = nI ((cN g) * y) from nI_mul (cN g) (y)]
            refine ev_iload_4 dX10_position_126 ?_
            refine ev_iinc_4 (v := 1) dX10_position_128 (by decide) rfl rfl ?_
            rw [show nI x + 1 = nI (x + 1) from nI_add (x) 1]
            refine ev_iadd dX10_position_131 ?_
            rw [show nI ((cN g) * y) + nI x = nI ((cN g) * y + x) from nI_add ((cN g) * y) (x)]
            refine ev_iload_5 dX10_position_132 ?_
            refine ev_stk (k := (cN g) * y + x) hq rfl rfl (by omega) (by decide) dX10_position_134 (fun σ134 hw134 hf134 hl134 => ?_)
            have znow_134 := (hf134 62 (by omega)).trans hg
            have ztape_134 := (hf134 64 (by omega)).trans ht
            have hq134 := hl134
            have hl134 : σ134.1 61 4 = nI tl := by rw [hf134 61 (by omega)]; exact hl
            have hlx134 : σ134.2 = σ2.2 := hq134
            refine ev_iload_4 dX10_position_135 ?_
            refine ev_iload_6 dX10_position_137 ?_
            refine ev_iadd dX10_position_139 ?_
            rw [show nI (x + 1) + (0 : Int32) = nI (x + 1 + 0) from nI_add (x + 1) (0)]
            refine ev_istore_4 dX10_position_140 rfl rfl ?_
            refine ev_iinc_2 (v := 1) dX10_position_142 (by decide) rfl rfl ?_
            rw [show nI i + 1 = nI (i + 1) from nI_add (i) 1]
            refine ev_goto (tgt := 19) dX10_position_145 (by decide) ?_
            refine ev_drop_5 ?_
            refine ev_drop_6 ?_
            have epb : psF g T tl i (n + 1) x y M = psF g T tl (i + 1) n (x + 1) y (updN M (y * cN g + x) (mlN (T i))) := by
              have h47 : ¬ T i = 47 := fun z => by
                rw [z] at hgood
                exact hgood (Or.inl (by decide))
              rw [psF, if_neg h47, if_neg hdg, if_neg (fun z => hgood (z.elim Or.inl (fun q => q.elim Or.inr (fun q2 => by omega))))]
            exact Ev.to (by rw [show nI (x + 1 + 0) = nI (x + 1) from rfl]) rfl rfl (ih (i + 1) (by omega) (by omega) (x + 1) y (updN M (y * cN g + x) (mlN (T i))) _ (by omega) hy ⟨znow_134, ztape_134, hl134, fun j hj => by
                rw [hw134]
                unfold updN
                by_cases z : j = y * cN g + x
                · rw [if_pos z, z, hmc, upd_at, hlm]
                · rw [if_neg z, upd_ne (by rw [hmc]; exact z)]; exact hM j hj, fun j hj => (hf134 j hj).trans (hF j hj), hlx134.trans hll⟩ (epb.symm.trans e))
          · refine ev_iload_6 dX10_position_89 ?_
            refine ev_if_eq (tgt := 109) dX10_position_91 (by decide) (fun h91 => ?_) (fun h91 => (by exfalso; revert h91; decide))
            refine ev_iload_2 dX10_position_109 ?_
            have hbad : mlN (T i) = 0 ∨ pcG g (tyN (mlN (T i))) = 0 := Classical.byContradiction fun z => by
              have : leG g (mlN (T i)) = mlN (T i) := by rw [leG, if_neg z]
              rw [this] at h86
              exact z (Or.inl ((nI_eq (b := 0) (by omega) (by decide)).mp h86))
            have epb : psF g T tl i (n + 1) x y M = (nI i, M) := by
              rw [psF]
              by_cases h47 : T i = 47
              · rw [if_pos h47, if_pos (Or.inl (by omega))]
              · rw [if_neg h47, if_neg hdg, if_pos (hbad.elim Or.inl (fun z => Or.inr (Or.inl z)))]
            exact ev_pi dX10_position_110 ⟨by rw [← e, epb], by rw [← e, epb]; exact hM, hF, hll⟩
        · have hdg : isDg (T i) := by
            rw [eT]
            have h := b2i_t h66
            rw [show (49 : Int32) = nI 49 from rfl, show (54 : Int32) = nI 54 from rfl, nI_inB (by omega) (by decide) (by decide)] at h
            have h2 := of_decide_eq_true h
            exact ⟨by rw [show (49 : Int32) = nI 49 from rfl]; exact nI_nlt h2.1 (by omega), by rw [show (54 : Int32) = nI 54 from rfl]; exact nI_le h2.2 (by decide)⟩
          obtain ⟨dd, k1, k6, ek, ek2, ek3⟩ := dg_N hdg
          have hd48 : k = 48 + dd := by
            rw [eT] at ek
            exact (nI_eq (by omega) (by omega)).mp ek
          have hno : mlN (T i) = 0 := by
            rw [eT, mlN_k k hk, if_neg (by omega), if_neg (by omega)]
          have hle0 : leG g (mlN (T i)) = 0 := by rw [hno, leG, if_pos (Or.inl rfl)]
          have h47 : ¬ T i = 47 := fun z => by
            rw [eT] at z
            have := (nI_eq (b := 47) (by omega) (by decide)).mp z
            omega
          refine ev_aload_0 dX10_position_69 ?_
          refine gf_X10_18 dX10_position_70 hm.1 rfl ?_
          refine ev_iload_2 dX10_position_73 ?_
          refine ev_ldk (k := i) hm.2.2.2.1 ht rfl (by omega) (by decide) dX10_position_74 ?_
          rw [eT, eml]
          refine ev_bipush_48 dX10_position_75 ?_
          refine ev_isub dX10_position_77 ?_
          rw [show nI k - 48 = nI dd from by rw [← eT]; exact ek3]
          refine ev_goto (tgt := 82) dX10_position_78 (by decide) ?_
          refine ev_istore_6 dX10_position_82 rfl rfl ?_
          refine ev_iload_5 dX10_position_84 ?_
          refine ev_if_ne (tgt := 94) dX10_position_86 (by decide) (fun h86 => absurd h86 (fun z => z (by rw [hle0]; rfl))) (fun h86 => ?_)
          refine ev_iload_6 dX10_position_89 ?_
          refine ev_if_eq (tgt := 109) dX10_position_91 (by decide) (fun h91 => absurd h91 (fun z => by have := (nI_eq (b := 0) (by omega) (by decide)).mp z; omega)) (fun h91 => ?_)
          refine ev_iload_4 dX10_position_94 ?_
          refine ev_iload_6 dX10_position_96 ?_
          refine ev_iadd dX10_position_98 ?_
          rw [show nI x + nI dd = nI (x + dd) from nI_add (x) (dd)]
          refine ev_aload_0 dX10_position_99 ?_
          refine gf_X10_11 dX10_position_100 hm.1 rfl ?_
          refine ev_bipush_53 dX10_position_103 ?_
          refine ev_ldk (k := 53) hm.2.1 hg rfl (by omega) (by decide) dX10_position_105 ?_
          rw [hG.1.1]
          refine ev_icmp_le (tgt := 111) dX10_position_106 (by decide) (fun h106 => ?_) (fun h106 => ?_)
          · refine ev_iload_5 dX10_position_111 ?_
            refine ev_if_le (tgt := 135) dX10_position_113 (by decide) (fun h113 => ?_) (fun h113 => absurd (by rw [hle0]; decide) h113)
            refine ev_iload_4 dX10_position_135 ?_
            refine ev_iload_6 dX10_position_137 ?_
            refine ev_iadd dX10_position_139 ?_
            rw [show nI x + nI dd = nI (x + dd) from nI_add (x) (dd)]
            refine ev_istore_4 dX10_position_140 rfl rfl ?_
            refine ev_iinc_2 (v := 1) dX10_position_142 (by decide) rfl rfl ?_
            rw [show nI i + 1 = nI (i + 1) from nI_add (i) 1]
            refine ev_goto (tgt := 19) dX10_position_145 (by decide) ?_
            refine ev_drop_5 ?_
            refine ev_drop_6 ?_
            have hxd : ¬ cN g < x + dd := fun z => absurd h106 (nI_ge z (by omega))
            have epb : psF g T tl i (n + 1) x y M = psF g T tl (i + 1) n (x + dd) y M := by
              rw [psF, if_neg h47, if_pos hdg, ek2, if_neg hxd]
            exact ih (i + 1) (by omega) (by omega) (x + dd) y M _ (by omega) hy ⟨hg, ht, hl, hM, hF, hll⟩ (epb.symm.trans e)
          · refine ev_iload_2 dX10_position_109 ?_
            have hbg : cN g < x + dd := Nat.lt_of_not_le fun z => h106 (nI_le z (by omega))
            exact ev_pi dX10_position_110 ⟨by rw [← e, psF, if_neg h47, if_pos hdg, ek2, if_pos hbg], by rw [← e, psF, if_neg h47, if_pos hdg, ek2, if_pos hbg]; exact hM, hF, hll⟩
      · exact absurd ((nI_eq (by omega) (by omega)).mp h36) (by omega)
def posP (ad : Nat → Nat) (sh : mSh) (σ : mSt) (qa : Nat) (Q : Int32 × (Nat → Nat)) : mPost := (mPi ad sh (fun z σ' => z = Q.1 ∧ (∀ i, i < 36 → σ'.1 qa i = nI (Q.2 i)) ∧ (∀ j, j ≠ qa → σ'.1 j = σ.1 j) ∧ σ'.2 = σ.2))
set_option maxRecDepth 100000 in
set_option maxHeartbeats 4000000 in
theorem c_mPos {ae ad : Nat → Nat} {sh : mSh} {σ : mSt} (hm : mModel ad sh) {g T : Nat → Int32} {tl qa : Nat} (hg : σ.1 62 = g) (hG : wfP g) (hW : wfL g) (hq : sh[qa]? = some (.inl 36)) (hqa : 76 ≤ qa) (htl : tl ≤ 60) (hl : σ.1 61 4 = nI tl) (hT : ∀ i, i < tl → ∃ k, k < 128 ∧ σ.1 64 i = nI k) (hz : ∀ i, i < 36 → σ.1 qa i = 0) : Ct yX10_position cX10_position 7 (some .int) 3 0 0 [.ref (ad 61), .ref (ad qa)] ae ad sh σ (posP ad sh σ qa (posT g (σ.1 64) tl)) := by
  refine Ct.ofL (own := RX10) (ini := false) (ls := [some (.ref (ad 61)), some (.ref (ad qa)), none, none, none, none, none]) (by decide +kernel) rfl (fun h => by cases h) (Nat.le_of_ble_eq_true rfl) rfl ?_
  refine ev_iconst_0 dX10_position_0 ?_
  refine ev_istore_2 dX10_position_1 rfl rfl ?_
  refine ev_aload_0 dX10_position_2 ?_
  refine gf_X10_11 dX10_position_3 hm.1 rfl ?_
  refine ev_bipush_54 dX10_position_6 ?_
  refine ev_ldk (k := 54) hm.2.1 hg rfl (by omega) (by decide) dX10_position_8 ?_
  rw [hG.2.1.1]
  refine ev_iconst_1 dX10_position_9 ?_
  refine ev_isub dX10_position_10 ?_
  have hr := hG.2.1.2
  rw [show nI (rN g) - 1 = nI (rN g - 1) from nI_sub (a := rN g) (b := 1) (by omega)]
  refine ev_istore_3 dX10_position_11 rfl rfl ?_
  refine ev_iload_3 dX10_position_12 ?_
  refine ev_if_lt (tgt := 196) dX10_position_13 (by decide) (fun h13 => absurd h13 (nI_pos (by omega))) (fun h13 => ?_)
  refine ev_iconst_0 dX10_position_16 ?_
  refine ev_istore_4 dX10_position_17 rfl rfl ?_
  refine Ev.to (by rfl) rfl rfl (c_mPos_19 hm hG hW hq hqa htl hT tl 0 (by omega) (Nat.zero_le _) 0 (rN g - 1) (fun _ => 0) σ (Nat.zero_le _) (by omega) ⟨hg, rfl, hl, fun i hi => hz i hi, fun _ _ => rfl, rfl⟩ rfl)
