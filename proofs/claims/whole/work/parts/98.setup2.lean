section KK
variable {cc : ByteArray} {nL : Nat} {ini : Bool} {ret : Option FieldType} {R : Room} {ae ad : Nat → Nat} {Post : mPost} {pc : Nat} {ls : List (Option Value)} {rest : List Value} {sh : mSh} {σ : mSt}
theorem kg_X10_142 {q d : Nat} {fs : List Value} {a1 : Value} {P : Int32 → mSt → Prop} (hM : Ct yX10_position cX10_position 7 (some .int) d 0 0 ([.ref (ad q), a1]) ae ad sh σ (mPi ad sh P)) (hq : sh[q]? = some (.inr (10, fs))) (hd : decode cc pc = .ok (.invokevirtual 142, 3)) (hR0 : mRoomOk R d 7 = true) (hcat : (rest.map fun v => v.category).sum ≤ 8) {kk nn : Nat} (hkk : kk ≤ R.cells) (hnn : nn ≤ R.slots) (K : ∀ r σ', P r σ' → Ev RX10 cc nL ini ret R ae Post (pc + 3) ls (.int r :: rest) kk nn ad sh σ') : Ev RX10 cc nL ini ret R ae Post (pc) ls (a1 :: .ref (ad q) :: rest) kk nn ad sh σ :=
  ev_callV (As := [a1]) hM mm_X10_position lk_X10_142 mi_X10_position ml_X10_position hq rfl rfl rfl hd hR0 hkk hnn hcat (fun v ad2 sh2 σ2 ⟨r, e1, e2, e3, e4⟩ => by subst e1; subst e2; subst e3; exact K r σ2 e4)
theorem kg_X10_58 {q d : Nat} {fs : List Value} {P : mSt → Prop} (hM : Ct yX10_begins cX10_begins 1 none d 0 0 ([.ref (ad q)]) ae ad sh σ (mPv ad sh P)) (hq : sh[q]? = some (.inr (10, fs))) (hd : decode cc pc = .ok (.invokevirtual 58, 3)) (hR0 : mRoomOk R d 1 = true) (hcat : (rest.map fun v => v.category).sum ≤ 8) {kk nn : Nat} (hkk : kk ≤ R.cells) (hnn : nn ≤ R.slots) (K : ∀ σ', P σ' → Ev RX10 cc nL ini ret R ae Post (pc + 3) ls (rest) kk nn ad sh σ') : Ev RX10 cc nL ini ret R ae Post (pc) ls (.ref (ad q) :: rest) kk nn ad sh σ :=
  ev_callV (As := []) hM mm_X10_begins lk_X10_58 mi_X10_begins ml_X10_begins hq rfl rfl rfl hd hR0 hkk hnn hcat (fun v ad2 sh2 σ2 ⟨e1, e2, e3, e4⟩ => by subst e1; subst e2; subst e3; exact K σ2 e4)
theorem kl_X10_146 {q d : Nat} {fs : List Value} {r : Int32} {σ' : mSt} (hM : Ct yX10_men cX10_men 3 (some .int) d 0 0 ([.ref (ad q)]) ae ad sh σ (mEq (some (.int r)) ad sh σ')) (hq : sh[q]? = some (.inr (10, fs))) (hd : decode cc pc = .ok (.invokevirtual 146, 3)) (hR0 : mRoomOk R d 3 = true) (hcat : (rest.map fun v => v.category).sum ≤ 8) {kk nn : Nat} (hkk : kk ≤ R.cells) (hnn : nn ≤ R.slots) (K : Ev RX10 cc nL ini ret R ae Post (pc + 3) ls (.int r :: rest) kk nn ad sh σ') : Ev RX10 cc nL ini ret R ae Post (pc) ls (.ref (ad q) :: rest) kk nn ad sh σ :=
  ev_callV (As := []) hM mm_X10_men lk_X10_146 mi_X10_men ml_X10_men hq rfl rfl rfl hd hR0 hkk hnn hcat (fun v ad2 sh2 σ2 ⟨e1, e2, e3, e4⟩ => by subst e1; subst e2; subst e3; subst e4; exact K)
theorem kl_X10_72 {d : Nat} {a1 : Value} {r : Int32} {σ' : mSt} (hM : Ct yX10_castleAt cX10_castleAt 1 (some .int) d 0 0 ([a1]) ae ad sh σ (mEq (some (.int r)) ad sh σ')) (hd : decode cc pc = .ok (.invokestatic 72, 3)) (hR0 : mRoomOk R d 1 = true) (hcat : (rest.map fun v => v.category).sum ≤ 8) {kk nn : Nat} (hkk : kk ≤ R.cells) (hnn : nn ≤ R.slots) (K : Ev RX10 cc nL ini ret R ae Post (pc + 3) ls (.int r :: rest) kk nn ad sh σ') : Ev RX10 cc nL ini ret R ae Post (pc) ls (a1 :: rest) kk nn ad sh σ :=
  ev_callS (As := [a1]) hM mm_X10_castleAt lk_X10_72 ms_X10_castleAt rfl rfl hd hR0 hkk hnn hcat (fun v ad2 sh2 σ2 ⟨e1, e2, e3, e4⟩ => by subst e1; subst e2; subst e3; subst e4; exact K)
theorem kg_X10_129 {q d : Nat} {fs : List Value} {a1 a2 : Value} {P : Int32 → mSt → Prop} (hM : Ct yX10_parts cX10_parts 6 (some .int) d 0 0 ([.ref (ad q), a1, a2]) ae ad sh σ (mPi ad sh P)) (hq : sh[q]? = some (.inr (10, fs))) (hd : decode cc pc = .ok (.invokevirtual 129, 3)) (hR0 : mRoomOk R d 6 = true) (hcat : (rest.map fun v => v.category).sum ≤ 8) {kk nn : Nat} (hkk : kk ≤ R.cells) (hnn : nn ≤ R.slots) (K : ∀ r σ', P r σ' → Ev RX10 cc nL ini ret R ae Post (pc + 3) ls (.int r :: rest) kk nn ad sh σ') : Ev RX10 cc nL ini ret R ae Post (pc) ls (a2 :: a1 :: .ref (ad q) :: rest) kk nn ad sh σ :=
  ev_callV (As := [a1, a2]) hM mm_X10_parts lk_X10_129 mi_X10_parts ml_X10_parts hq rfl rfl rfl hd hR0 hkk hnn hcat (fun v ad2 sh2 σ2 ⟨r, e1, e2, e3, e4⟩ => by subst e1; subst e2; subst e3; exact K r σ2 e4)
theorem kl_X10_54 {d : Nat} {a1 : Value} {r : Int32} {σ' : mSt} (hM : Ct yX10_typeAt cX10_typeAt 1 (some .int) d 0 0 ([a1]) ae ad sh σ (mEq (some (.int r)) ad sh σ')) (hd : decode cc pc = .ok (.invokestatic 54, 3)) (hR0 : mRoomOk R d 1 = true) (hcat : (rest.map fun v => v.category).sum ≤ 8) {kk nn : Nat} (hkk : kk ≤ R.cells) (hnn : nn ≤ R.slots) (K : Ev RX10 cc nL ini ret R ae Post (pc + 3) ls (.int r :: rest) kk nn ad sh σ') : Ev RX10 cc nL ini ret R ae Post (pc) ls (a1 :: rest) kk nn ad sh σ :=
  ev_callS (As := [a1]) hM mm_X10_typeAt lk_X10_54 ms_X10_typeAt rfl rfl hd hR0 hkk hnn hcat (fun v ad2 sh2 σ2 ⟨e1, e2, e3, e4⟩ => by subst e1; subst e2; subst e3; subst e4; exact K)
/-- a row of N cells has been laid, and a number is returned -/
def mPa (ad : Nat → Nat) (sh : mSh) (N : Nat) (P : Int32 → mSt → Prop) : mPost := fun v ad' sh' σ' => ∃ r, v = some (.int r) ∧ (∀ j, j < sh.length → ad' j = ad j) ∧ sh' = sh ++ [.inl N] ∧ P r σ'
theorem ev_pa {own : String} {P : Int32 → mSt → Prop} {x : Int32} {N kk nn : Nat} {ad1 : Nat → Nat} (hd : decode cc pc = .ok (.ireturn, 1)) (hkk : kk ≤ R.cells) (hnn : nn ≤ R.slots) (ha : ∀ j, j < sh.length → ad1 j = ad j) (h : P x σ) : Ev own cc nL ini (some .int) R ae (mPa ad sh N P) pc ls [.int x] kk nn ad1 (sh ++ [.inl N]) σ :=
  ev_ret (v := some (.int x)) hd hkk hnn (Or.inr (Or.inl ⟨.int, x, rfl, rfl, rfl, mNar_int x⟩)) ⟨x, rfl, ha, rfl, h⟩
end KK
theorem sh_ext {sh : mSh} {e x : Nat ⊕ (Nat × List Value)} {i : Nat} (h : sh[i]? = some x) : (sh ++ [e])[i]? = some x := by
  have hi : i < sh.length := (List.getElem?_eq_some_iff.mp h).1
  rw [List.getElem?_append_left hi]; exact h
theorem mModel.len {ad : Nat → Nat} {sh : mSh} (hm : mModel ad sh) : 76 ≤ sh.length := (List.getElem?_eq_some_iff.mp hm.2.2.2.2.2.2.2.2.2.2.2.2.2.2).1
theorem mModel.ext {ad ad1 : Nat → Nat} {sh : mSh} {e : Nat ⊕ (Nat × List Value)} (hm : mModel ad sh) (ha : ∀ j, j < sh.length → ad1 j = ad j) : mModel ad1 (sh ++ [e]) := by
  have hl := hm.len
  have A : ∀ j, j < 76 → ad1 j = ad j := fun j hj => ha j (by omega)
  obtain ⟨h1, h2, h3, h4, h5, h6, h7, h8, h9, h10, h11, h12, h13, h14, h15⟩ := hm
  refine ⟨?_, sh_ext h2, sh_ext h3, sh_ext h4, sh_ext h5, sh_ext h6, sh_ext h7, sh_ext h8, sh_ext h9, sh_ext h10, sh_ext h11, sh_ext h12, sh_ext h13, sh_ext h14, sh_ext h15⟩
  rw [sh_ext h1, A 62 (by decide), A 63 (by decide), A 64 (by decide), A 65 (by decide), A 66 (by decide), A 67 (by decide), A 68 (by decide), A 69 (by decide), A 70 (by decide), A 71 (by decide), A 72 (by decide), A 73 (by decide), A 74 (by decide), A 75 (by decide)]
theorem sh_new {sh : mSh} {N : Nat} : (sh ++ [.inl N])[sh.length]? = some (.inl N) := by
  rw [List.getElem?_append_right (Nat.le_refl _), Nat.sub_self]; rfl
/-- cells a … a+i-1 are f 0 … f (i-1) -/
def filA (a : Nat) (f base : Nat → Int32) (i : Nat) : Nat → Int32 := fun j => if a ≤ j ∧ j < a + i then f (j - a) else base j
theorem filA_0 {a : Nat} {f base : Nat → Int32} : filA a f base 0 = base := by
  funext j; unfold filA; rw [if_neg (by omega)]
theorem filA_s {a i : Nat} {f base : Nat → Int32} : upd (filA a f base i) (a + i) (f i) = filA a f base (i + 1) := by
  funext j
  by_cases h : j = a + i
  · subst h; rw [upd_at]; unfold filA; rw [if_pos (by omega), Nat.add_sub_cancel_left]
  · rw [upd_ne h]; unfold filA
    by_cases z : a ≤ j ∧ j < a + i
    · rw [if_pos z, if_pos (by omega)]
    · rw [if_neg z, if_neg (by omega)]
theorem filA_out {a i j : Nat} {f base : Nat → Int32} (h : j < a ∨ a + i ≤ j) : filA a f base i j = base j := by unfold filA; rw [if_neg (by omega)]
theorem filA_in {a i k : Nat} {f base : Nat → Int32} (h : k < i) : filA a f base i (a + k) = f k := by unfold filA; rw [if_pos (by omega), Nat.add_sub_cancel_left]

set_option maxRecDepth 100000 in
set_option maxHeartbeats 4000000 in
theorem c_set_27 {ae ad : Nat → Nat} {sh : mSh} {σ : mSt} {qa : Nat} {r0 : Int32} {base : Nat → Int32} {Post : mPost} (hm : mModel ad sh) (hq : sh[qa]? = some (.inl 36)) (hqa : 76 ≤ qa) {M : Nat → Nat} (hM : ∀ i, i < 36 → σ.1 qa i = nI (M i)) (K : ∀ σ' : mSt, (σ'.1 62 = filA 1 (fun k => nI (M k)) (base) 36 ∧ (∀ j, j ≠ 62 → σ'.1 j = σ.1 j) ∧ σ'.2 = σ.2) → Ev RX10 cX10_setup 4 false (some .int) (mRm 4 1 36) ae Post 50 [some (.ref (ad 61)), some (.ref (ad qa)), some (.int r0), some (.int (nI 36))] [] 1 36 ad sh σ') : ∀ (n i : Nat), 36 - i = n → i ≤ 36 → ∀ σ2 : mSt, (σ2.1 62 = filA 1 (fun k => nI (M k)) (base) i ∧ (∀ j, j ≠ 62 → σ2.1 j = σ.1 j) ∧ σ2.2 = σ.2) → Ev RX10 cX10_setup 4 false (some .int) (mRm 4 1 36) ae Post 27 [some (.ref (ad 61)), some (.ref (ad qa)), some (.int r0), some (.int (nI i))] [] 1 36 ad sh σ2 := by
  intro n
  induction n with
  | zero =>
    intro i hn hi σ2 hR
    have e0 : i = 36 := by omega
    subst e0
    refine ev_iload_3 dX10_setup_27 ?_
    refine ev_bipush_36 dX10_setup_28 ?_
    refine ev_icmp_ge (tgt := 50) dX10_setup_30 (by decide) (fun h30 => ?_) (fun h30 => absurd (by decide) h30)
    exact K σ2 hR
  | succ n ih =>
    intro i hn hi σ2 hR
    have hlt : i < 36 := by omega
    obtain ⟨hg, hF, hll⟩ := hR
    refine ev_iload_3 dX10_setup_27 ?_
    refine ev_bipush_36 dX10_setup_28 ?_
    refine ev_icmp_ge (tgt := 50) dX10_setup_30 (by decide) (fun h30 => absurd h30 (show ¬ nI 36 ≤ nI i from nI_ge hlt (by decide))) (fun h30 => ?_)
    refine ev_aload_0 dX10_setup_33 ?_
    refine gf_X10_11 dX10_setup_34 hm.1 rfl ?_
    refine ev_iconst_1 dX10_setup_37 ?_
    refine ev_iload_3 dX10_setup_38 ?_
    refine ev_iadd dX10_setup_39 ?_
    rw [show (1 : Int32) + nI i = nI (1 + i) from nI_add (1) (i)]
    refine ev_aload_1 dX10_setup_40 ?_
    refine ev_iload_3 dX10_setup_41 ?_
    refine ev_ldk (k := i) hq rfl rfl (by omega) (by decide) dX10_setup_42 ?_
    rw [show σ2.1 qa i = nI (M i) from by rw [hF qa (by omega)]; exact hM i hlt]
    refine ev_stk (k := 1 + i) hm.2.1 hg rfl (by omega) (by decide) dX10_setup_43 (fun σ43 hw43 hf43 hl43 => ?_)
    have zinto_43 := (hf43 qa (by omega)).trans (Eq.refl _)
    refine ev_iinc_3 (v := 1) dX10_setup_44 (by decide) rfl rfl ?_
    rw [show nI i + 1 = nI (i + 1) from nI_add (i) 1]
    refine ev_goto (tgt := 27) dX10_setup_47 (by decide) ?_
    refine ih (i + 1) (by omega) (by omega) _ ⟨?_, fun j hj => (hf43 j hj).trans (hF j hj), hl43.trans hll⟩
    rw [hw43]
    exact filA_s
set_option maxRecDepth 100000 in
set_option maxHeartbeats 4000000 in
theorem c_set_52 {ae ad : Nat → Nat} {sh : mSh} {σ : mSt} {qa : Nat} {r0 : Int32} {base : Nat → Int32} {Post : mPost} (hm : mModel ad sh)  (K : ∀ σ' : mSt, (σ'.1 62 = filA 37 (fun _ => 0) (base) 12 ∧ (∀ j, j ≠ 62 → σ'.1 j = σ.1 j) ∧ σ'.2 = σ.2) → Ev RX10 cX10_setup 4 false (some .int) (mRm 4 1 36) ae Post 74 [some (.ref (ad 61)), some (.ref (ad qa)), some (.int r0), some (.int (nI 12))] [] 1 36 ad sh σ') : ∀ (n i : Nat), 12 - i = n → i ≤ 12 → ∀ σ2 : mSt, (σ2.1 62 = filA 37 (fun _ => 0) (base) i ∧ (∀ j, j ≠ 62 → σ2.1 j = σ.1 j) ∧ σ2.2 = σ.2) → Ev RX10 cX10_setup 4 false (some .int) (mRm 4 1 36) ae Post 52 [some (.ref (ad 61)), some (.ref (ad qa)), some (.int r0), some (.int (nI i))] [] 1 36 ad sh σ2 := by
  intro n
  induction n with
  | zero =>
    intro i hn hi σ2 hR
    have e0 : i = 12 := by omega
    subst e0
    refine ev_iload_3 dX10_setup_52 ?_
    refine ev_bipush_12 dX10_setup_53 ?_
    refine ev_icmp_ge (tgt := 74) dX10_setup_55 (by decide) (fun h55 => ?_) (fun h55 => absurd (by decide) h55)
    exact K σ2 hR
  | succ n ih =>
    intro i hn hi σ2 hR
    have hlt : i < 12 := by omega
    obtain ⟨hg, hF, hll⟩ := hR
    refine ev_iload_3 dX10_setup_52 ?_
    refine ev_bipush_12 dX10_setup_53 ?_
    refine ev_icmp_ge (tgt := 74) dX10_setup_55 (by decide) (fun h55 => absurd h55 (show ¬ nI 12 ≤ nI i from nI_ge hlt (by decide))) (fun h55 => ?_)
    refine ev_aload_0 dX10_setup_58 ?_
    refine gf_X10_11 dX10_setup_59 hm.1 rfl ?_
    refine ev_bipush_37 dX10_setup_62 ?_
    refine ev_iload_3 dX10_setup_64 ?_
    refine ev_iadd dX10_setup_65 ?_
    rw [show (37 : Int32) + nI i = nI (37 + i) from nI_add (37) (i)]
    refine ev_iconst_0 dX10_setup_66 ?_
    refine ev_stk (k := 37 + i) hm.2.1 hg rfl (by omega) (by decide) dX10_setup_67 (fun σ67 hw67 hf67 hl67 => ?_)
    refine ev_iinc_3 (v := 1) dX10_setup_68 (by decide) rfl rfl ?_
    rw [show nI i + 1 = nI (i + 1) from nI_add (i) 1]
    refine ev_goto (tgt := 52) dX10_setup_71 (by decide) ?_
    refine ih (i + 1) (by omega) (by omega) _ ⟨?_, fun j hj => (hf67 j hj).trans (hF j hj), hl67.trans hll⟩
    rw [hw67]
    exact filA_s
set_option maxRecDepth 100000 in
set_option maxHeartbeats 4000000 in
theorem c_set_76 {ae ad : Nat → Nat} {sh : mSh} {σ : mSt} {qa : Nat} {r0 : Int32} {base : Nat → Int32} {Post : mPost} (hm : mModel ad sh)  (K : ∀ σ' : mSt, (σ'.1 62 = filA 49 (fun k => base (184 + 6 * k)) (base) 4 ∧ (∀ j, j ≠ 62 → σ'.1 j = σ.1 j) ∧ σ'.2 = σ.2) → Ev RX10 cX10_setup 4 false (some .int) (mRm 4 1 36) ae Post 105 [some (.ref (ad 61)), some (.ref (ad qa)), some (.int r0), some (.int (nI 4))] [] 1 36 ad sh σ') : ∀ (n i : Nat), 4 - i = n → i ≤ 4 → ∀ σ2 : mSt, (σ2.1 62 = filA 49 (fun k => base (184 + 6 * k)) (base) i ∧ (∀ j, j ≠ 62 → σ2.1 j = σ.1 j) ∧ σ2.2 = σ.2) → Ev RX10 cX10_setup 4 false (some .int) (mRm 4 1 36) ae Post 76 [some (.ref (ad 61)), some (.ref (ad qa)), some (.int r0), some (.int (nI i))] [] 1 36 ad sh σ2 := by
  intro n
  induction n with
  | zero =>
    intro i hn hi σ2 hR
    have e0 : i = 4 := by omega
    subst e0
    refine ev_iload_3 dX10_setup_76 ?_
    refine ev_iconst_4 dX10_setup_77 ?_
    refine ev_icmp_ge (tgt := 105) dX10_setup_78 (by decide) (fun h78 => ?_) (fun h78 => absurd (by decide) h78)
    exact K σ2 hR
  | succ n ih =>
    intro i hn hi σ2 hR
    have hlt : i < 4 := by omega
    obtain ⟨hg, hF, hll⟩ := hR
    refine ev_iload_3 dX10_setup_76 ?_
    refine ev_iconst_4 dX10_setup_77 ?_
    refine ev_icmp_ge (tgt := 105) dX10_setup_78 (by decide) (fun h78 => absurd h78 (show ¬ nI 4 ≤ nI i from nI_ge hlt (by decide))) (fun h78 => ?_)
    refine ev_aload_0 dX10_setup_81 ?_
    refine gf_X10_11 dX10_setup_82 hm.1 rfl ?_
    refine ev_bipush_49 dX10_setup_85 ?_
    refine ev_iload_3 dX10_setup_87 ?_
    refine ev_iadd dX10_setup_88 ?_
    rw [show (49 : Int32) + nI i = nI (49 + i) from nI_add (49) (i)]
    refine ev_aload_0 dX10_setup_89 ?_
    refine gf_X10_11 dX10_setup_90 hm.1 rfl ?_
    refine ev_iload_3 dX10_setup_93 ?_
    refine kl_X10_72 (c_castleAt (t := (i))) dX10_setup_94 rfl (Nat.le_of_ble_eq_true rfl) (by decide) (by decide) ?_
    refine ev_ldk (k := 184 + 6 * i) hm.2.1 hg rfl (by omega) (by decide) dX10_setup_97 ?_
    rw [show filA 49 (fun k => base (184 + 6 * k)) base i (184 + 6 * i) = base (184 + 6 * i) from filA_out (by omega)]
    refine ev_stk (k := 49 + i) hm.2.1 hg rfl (by omega) (by decide) dX10_setup_98 (fun σ98 hw98 hf98 hl98 => ?_)
    refine ev_iinc_3 (v := 1) dX10_setup_99 (by decide) rfl rfl ?_
    rw [show nI i + 1 = nI (i + 1) from nI_add (i) 1]
    refine ev_goto (tgt := 76) dX10_setup_102 (by decide) ?_
    refine ih (i + 1) (by omega) (by omega) _ ⟨?_, fun j hj => (hf98 j hj).trans (hF j hj), hl98.trans hll⟩
    rw [hw98]
    exact filA_s (f := fun k => base (184 + 6 * k))
