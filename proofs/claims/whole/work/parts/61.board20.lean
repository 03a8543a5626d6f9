def ansL (L : List Int32) (i : Int32) : Int32 := if i = -1 then nI L.length else if i < 0 then -1 else (L[i.toNatClampNeg]?).getD (-1)
theorem ans_eq {σ0 σ : mSt} {g : Nat → Int32} {L : List Int32} {i : Int32} (hn : lnR σ0 σ g L) : (if i = -1 then nI L.length else cellD (-1) (σ.1 4) L.length i) = ansL L i := by
  unfold ansL
  split
  · rfl
  · rw [cellD]
    by_cases h0 : i < 0
    · rw [if_pos (Or.inl h0), if_pos h0]
    · rw [if_neg h0]
      by_cases h1 : L.length ≤ i.toNatClampNeg
      · rw [if_pos (Or.inr h1), List.getElem?_eq_none h1]; rfl
      · rw [if_neg (fun z => z.elim h0 h1)]
        have e : L[i.toNatClampNeg]? = some L[i.toNatClampNeg] := List.getElem?_eq_getElem (by omega)
        rw [e, hn.2.2.2.2 _ _ e]; rfl
/-- the texts of the first n rows, from above -/
def texF (g : Nat → Int32) : Nat → List Int32
  | 0 => []
  | n + 1 => texF g n ++ rowL g (rN g - 1 - n) ++ (if 0 < rN g - 1 - n then [47] else [])
theorem texF_len {g : Nat → Int32} (hG : wfP g) : ∀ n, (texF g n).length ≤ 7 * n
  | 0 => by simp [texF]
  | n + 1 => by
    have h1 := texF_len hG n
    have h2 := rowL_len g (rN g - 1 - n)
    have h3 := hG.1.2.2
    rw [texF, List.length_append, List.length_append]
    split <;> simp <;> omega
theorem row36 {g : Nat → Int32} (hG : wfP g) {y x : Nat} (hy : y < rN g) (hx : x < cN g) : y * cN g + x < 36 := by
  have h1 : (y + 1) * cN g ≤ rN g * cN g := Nat.mul_le_mul_right _ hy
  have h2 := sq36 hG
  rw [Nat.mul_comm] at h2
  rw [Nat.succ_mul] at h1
  omega

set_option maxRecDepth 100000 in
set_option maxHeartbeats 4000000 in
theorem c_wrRow_4 {ae ad : Nat → Nat} {sh : mSh} {σ0 : mSt} {g : Nat → Int32} {L : List Int32} (hb : mBoard ad sh) (hG : wfP g) {Y : Nat} (hY : Y < rN g) (hl : L.length + cN g ≤ 60) : ∀ (n i : Nat), cN g - i = n → i ≤ cN g → ∀ σ : mSt, lnR σ0 σ g (L ++ (rowF g Y i).1) → Ev RX9 cX9_writeRow 5 false none (mRm 2 0 0) ae (mPv ad sh (fun σ' => lnR σ0 σ' g (L ++ rowL g Y))) 4 [some (.ref (ad 0)), some (.int (nI Y)), some (.int (nI (rowF g Y i).2)), some (.int (nI i)), none] [] 0 0 ad sh σ := by
  have hc6 := hG.1.2.2
  intro n
  induction n with
  | zero =>
    intro i hn0 hi σ hn
    have e : i = cN g := by omega
    subst e
    obtain ⟨r1, r2⟩ := rowF_len g Y (cN g)
    refine ev_iload_3 dX9_writeRow_4 ?_
    refine ev_aload_0 dX9_writeRow_5 ?_
    refine gf_X9_47 dX9_writeRow_6 hb.1 rfl ?_
    refine gf_X9_148 dX9_writeRow_9 hb.2.2.2.2.2.2.1.1 rfl ?_
    rw [hn.2.1.1.2.2.1, hG.1.1]
    refine ev_icmp_ge (tgt := 72) dX9_writeRow_12 (by decide) (fun h12 => ?_) (fun h12 => absurd (Int32.le_refl _) h12)
    refine ev_aload_0 dX9_writeRow_72 ?_
    refine ev_iload_2 dX9_writeRow_73 ?_
    refine cg_X9_386 (c_wrEmpty hb hn (by omega) (by rw [List.length_append]; omega)) hb.1 dX9_writeRow_74 rfl (Nat.le_of_ble_eq_true rfl) (fun σz hn => ?_)
    exact ev_pv dX9_writeRow_77 (by simpa [rowL, List.append_assoc] using hn)
  | succ n ih =>
    intro i hn0 hi σ hn
    have hlt : i < cN g := by omega
    have hq := row36 hG hY hlt
    obtain ⟨r1, r2⟩ := rowF_len g Y i
    have hm := wf_m hG hq
    refine ev_iload_3 dX9_writeRow_4 ?_
    refine ev_aload_0 dX9_writeRow_5 ?_
    refine gf_X9_47 dX9_writeRow_6 hb.1 rfl ?_
    refine gf_X9_148 dX9_writeRow_9 hb.2.2.2.2.2.2.1.1 rfl ?_
    rw [hn.2.1.1.2.2.1, hG.1.1]
    refine ev_icmp_ge (tgt := 72) dX9_writeRow_12 (by decide) (fun h12 => absurd h12 (nI_ge hlt (by omega))) (fun h12 => ?_)
    refine ev_aload_0 dX9_writeRow_15 ?_
    refine gf_X9_47 dX9_writeRow_16 hb.1 rfl ?_
    refine ev_iload_1 dX9_writeRow_19 ?_
    refine ev_aload_0 dX9_writeRow_20 ?_
    refine gf_X9_47 dX9_writeRow_21 hb.1 rfl ?_
    refine gf_X9_148 dX9_writeRow_24 hb.2.2.2.2.2.2.1.1 rfl ?_
    rw [hn.2.1.1.2.2.1, hG.1.1]
    refine ev_imul dX9_writeRow_27 ?_
    rw [nI_mul]
    refine ev_iload_3 dX9_writeRow_28 ?_
    refine ev_iadd dX9_writeRow_29 ?_
    rw [nI_add]
    refine cl_X9_199 (c_manOn hb.2.2.2.2.2.2.1) hb.2.2.2.2.2.2.1.1 dX9_writeRow_30 rfl (Nat.le_of_ble_eq_true rfl) ?_
    rw [man_at hG hn.2.1.1 hq]
    refine ev_istore_4 dX9_writeRow_33 rfl rfl ?_
    refine ev_iload_4 dX9_writeRow_35 ?_
    refine ev_if_ne (tgt := 46) dX9_writeRow_37 (by decide) (fun h37 => ?_) (fun h37 => ?_)
    · have h0 : ¬ mN g (Y * cN g + i) = 0 := fun z => h37 (by rw [z]; rfl)
      have er : rowF g Y (i + 1) = ((rowF g Y i).1 ++ emL (rowF g Y i).2 ++ [nI (leN (mN g (Y * cN g + i)))], 0) := by rw [rowF, if_neg h0]
      refine ev_aload_0 dX9_writeRow_46 ?_
      refine ev_iload_2 dX9_writeRow_47 ?_
      refine cg_X9_386 (c_wrEmpty hb hn (by omega) (by rw [List.length_append]; omega)) hb.1 dX9_writeRow_48 rfl (Nat.le_of_ble_eq_true rfl) (fun σz hn => ?_)
      refine ev_iconst_0 dX9_writeRow_51 ?_
      refine ev_istore_2 dX9_writeRow_52 rfl rfl ?_
      refine ev_aload_0 dX9_writeRow_53 ?_
      refine gf_X9_18 dX9_writeRow_54 hb.1 rfl ?_
      refine ev_iload_4 dX9_writeRow_57 ?_
      refine cl_X9_389 c_letterOf dX9_writeRow_59 rfl (Nat.le_of_ble_eq_true rfl) ?_
      rw [leR_nI (by omega) hm]
      refine cg_X9_87 (c_lnAdd hb hn (by rw [List.length_append, List.length_append, emL_len]; omega)) hb.2.2.1.1 dX9_writeRow_62 rfl (Nat.le_of_ble_eq_true rfl) (fun rz σz hn => ?_)
      refine ev_pop dX9_writeRow_65 rfl ?_
      refine ev_iinc_3 (v := 1) dX9_writeRow_66 (by decide) rfl rfl ?_
      refine ev_goto (tgt := 4) dX9_writeRow_69 (by decide) ?_
      refine ev_drop_4 ?_
      exact Ev.to (by rw [nI_1, er]; rfl) rfl rfl (ih (i + 1) (by omega) (by omega) _ (by rw [er]; simpa [List.append_assoc] using hn))
    · have h0 : mN g (Y * cN g + i) = 0 := (nI_eq (b := 0) (by omega) (by decide)).mp h37
      have er : rowF g Y (i + 1) = ((rowF g Y i).1, (rowF g Y i).2 + 1) := by rw [rowF, if_pos h0]
      refine ev_iinc_2 (v := 1) dX9_writeRow_40 (by decide) rfl rfl ?_
      refine ev_goto (tgt := 66) dX9_writeRow_43 (by decide) ?_
      refine ev_iinc_3 (v := 1) dX9_writeRow_66 (by decide) rfl rfl ?_
      refine ev_goto (tgt := 4) dX9_writeRow_69 (by decide) ?_
      refine ev_drop_4 ?_
      exact Ev.to (by rw [nI_1, nI_1, er]) rfl rfl (ih (i + 1) (by omega) (by omega) _ (by rw [er]; exact hn))
set_option maxRecDepth 100000 in
set_option maxHeartbeats 4000000 in
theorem c_wrRow {ae ad : Nat → Nat} {sh : mSh} {σ : mSt} {σ0 : mSt} {g : Nat → Int32} {L : List Int32} (hb : mBoard ad sh) (hn : lnR σ0 σ g L) (hG : wfP g) {Y : Nat} (hY : Y < rN g) (hl : L.length + cN g ≤ 60) : Ct yX9_writeRow cX9_writeRow 5 none 2 0 0 [.ref (ad 0), .int (nI Y)] ae ad sh σ (mPv ad sh (fun σ' => lnR σ0 σ' g (L ++ rowL g Y))) := by
  refine Ct.ofL (own := RX9) (ini := false) (ls := [some (.ref (ad 0)), some (.int (nI Y)), none, none, none]) (by decide +kernel) rfl (fun h => by cases h) (Nat.le_of_ble_eq_true rfl) rfl ?_
  refine ev_iconst_0 dX9_writeRow_0 ?_
  refine ev_istore_2 dX9_writeRow_1 rfl rfl ?_
  refine ev_iconst_0 dX9_writeRow_2 ?_
  refine ev_istore_3 dX9_writeRow_3 rfl rfl ?_
  exact c_wrRow_4 hb hG hY hl _ 0 rfl (Nat.zero_le _) _ (by simpa [rowF] using hn)
def frW (σ σ' : mSt) : Prop := ∀ k, k ≠ 3 → k ≠ 4 → k ≠ 20 → k ≠ 21 → k ≠ 22 → σ'.1 k = σ.1 k ∧ σ'.2 k = σ.2 k
set_option maxRecDepth 100000 in
set_option maxHeartbeats 4000000 in
theorem c_text_18 {ae ad : Nat → Nat} {sh : mSh} {σ0 : mSt} {i : Int32} {g : Nat → Int32} (hb : mBoard ad sh) (hG : wfP g) : ∀ (n j : Nat), rN g - j = n → j ≤ rN g → ∀ σ : mSt, lnR σ0 σ g (texF g j) → Ev RX9 cX9_text 3 false (some .int) (mRm 3 0 0) ae (mPi ad sh (fun x σ' => x = ansL (texF g (rN g)) i ∧ (posR σ' 20 g ∧ ritR σ' 20 g) ∧ frW σ0 σ')) 18 [some (.ref (ad 0)), some (.int i), some (.int (nI (rN g - j) - 1))] [] 0 0 ad sh σ := by
  have hr6 := hG.2.1.2.2
  have hc6 := hG.1.2.2
  intro n
  induction n with
  | zero =>
    intro j hn0 hj σ hn
    have e : j = rN g := by omega
    subst e
    rw [Nat.sub_self]
    refine ev_iload_2 dX9_text_18 ?_
    refine ev_if_lt (tgt := 47) dX9_text_19 (by decide) (fun h19 => ?_) (fun h19 => absurd (by decide) h19)
    refine ev_aload_0 dX9_text_47 ?_
    refine gf_X9_18 dX9_text_48 hb.1 rfl ?_
    refine ev_iload_1 dX9_text_51 ?_
    refine cl_X9_317 (c_answer hb.2.2.1 hn.2.2.1 hn.2.2.2.1) hb.2.2.1.1 dX9_text_52 rfl (Nat.le_of_ble_eq_true rfl) ?_
    exact ev_pi dX9_text_55 ⟨ans_eq hn, hn.2.1, hn.1⟩
  | succ n ih =>
    intro j hn0 hj σ hn
    have hlt : j < rN g := by omega
    have hl := texF_len hG j
    have hrl := rowL_len g (rN g - 1 - j)
    have e : nI (rN g - j) - 1 = nI (rN g - 1 - j) := by
      rw [lI1, nI_sub (by omega)]; congr 1; omega
    have e3 : nI (rN g - 1 - j) + -1 = nI (rN g - (j + 1)) - 1 := by
      rw [show rN g - 1 - j = rN g - (j + 1) by omega]
      exact (Int32.sub_eq_add_neg _ _).symm
    rw [e]
    refine ev_iload_2 dX9_text_18 ?_
    refine ev_if_lt (tgt := 47) dX9_text_19 (by decide) (fun h19 => absurd h19 (nI_pos (by omega))) (fun h19 => ?_)
    refine ev_aload_0 dX9_text_22 ?_
    refine ev_iload_2 dX9_text_23 ?_
    refine cg_X9_313 (c_wrRow hb hn hG (Y := rN g - 1 - j) (by omega) (by omega)) hb.1 dX9_text_24 rfl (Nat.le_of_ble_eq_true rfl) (fun σz hn => ?_)
    refine ev_iload_2 dX9_text_27 ?_
    refine ev_if_le (tgt := 41) dX9_text_28 (by decide) (fun h28 => ?_) (fun h28 => ?_)
    · have h0 : ¬ 0 < rN g - 1 - j := fun z => nI_nle z (by omega) h28
      have et : texF g (j + 1) = texF g j ++ rowL g (rN g - 1 - j) := by rw [texF, if_neg h0, List.append_nil]
      refine ev_iinc_2 (v := (-1)) dX9_text_41 (by decide) rfl rfl ?_
      refine ev_goto (tgt := 18) dX9_text_44 (by decide) ?_
      exact Ev.to (by rw [e3]) rfl rfl (ih (j + 1) (by omega) (by omega) _ (by rw [et]; exact hn))
    · have h0 : 0 < rN g - 1 - j := Nat.pos_of_ne_zero (fun z => h28 (by rw [z]; decide))
      have et : texF g (j + 1) = texF g j ++ rowL g (rN g - 1 - j) ++ [47] := by rw [texF, if_pos h0]
      refine ev_aload_0 dX9_text_31 ?_
      refine gf_X9_18 dX9_text_32 hb.1 rfl ?_
      refine ev_bipush_47 dX9_text_35 ?_
      refine cg_X9_87 (c_lnAdd hb hn (by rw [List.length_append]; omega)) hb.2.2.1.1 dX9_text_37 rfl (Nat.le_of_ble_eq_true rfl) (fun rz σz hn => ?_)
      refine ev_pop dX9_text_40 rfl ?_
      skip
      refine ev_iinc_2 (v := (-1)) dX9_text_41 (by decide) rfl rfl ?_
      refine ev_goto (tgt := 18) dX9_text_44 (by decide) ?_
      exact Ev.to (by rw [e3]) rfl rfl (ih (j + 1) (by omega) (by omega) _ (by rw [et]; exact hn))
set_option maxRecDepth 100000 in
set_option maxHeartbeats 4000000 in
theorem c_text {ae ad : Nat → Nat} {sh : mSh} {σ : mSt} {g : Nat → Int32} {i : Int32} (hb : mBoard ad sh) (hG : wfP g) (hP : posR σ 20 g) (hR : ritR σ 20 g) : Ct yX9_text cX9_text 3 (some .int) 3 0 0 [.ref (ad 0), .int i] ae ad sh σ (mPi ad sh (fun x σ' => x = ansL (texF g (rN g)) i ∧ (posR σ' 20 g ∧ ritR σ' 20 g) ∧ frW σ σ')) := by
  refine Ct.ofL (own := RX9) (ini := false) (ls := [some (.ref (ad 0)), some (.int i), none]) (by decide +kernel) rfl (fun h => by cases h) (Nat.le_of_ble_eq_true rfl) rfl ?_
  refine ev_aload_0 dX9_text_0 ?_
  refine gf_X9_18 dX9_text_1 hb.1 rfl ?_
  refine ev_iconst_0 dX9_text_4 ?_
  refine pf_X9_91 dX9_text_5 hb.2.2.1.1 rfl ?_
  refine ev_aload_0 dX9_text_8 ?_
  refine gf_X9_47 dX9_text_9 hb.1 rfl ?_
  refine gf_X9_151 dX9_text_12 hb.2.2.2.2.2.2.1.1 rfl ?_
  rw [show (mu σ.1 3 1 0, σ.2).1 20 3 = g 54 from (congrFun (mu_ne σ.1 (j := 1) (x := 0) (show (20 : Nat) ≠ 3 by decide)) 3).trans hP.2.2.2.1, hG.2.1.1]
  refine ev_iconst_1 dX9_text_15 ?_
  refine ev_isub dX9_text_16 ?_
  refine ev_istore_2 dX9_text_17 rfl rfl ?_
  exact c_text_18 hb hG _ 0 rfl (Nat.zero_le _) _ (ln_nil hP hR)
