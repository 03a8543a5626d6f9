section KK
variable {cc : ByteArray} {nL : Nat} {ini : Bool} {ret : Option FieldType} {R : Room} {ae ad : Nat → Nat} {Post : mPost} {pc : Nat} {ls : List (Option Value)} {rest : List Value} {sh : mSh} {σ : mSt}
theorem kg_X10_142 {q d : Nat} {fs : List Value} {a1 : Value} {P : Int32 → mSt → Prop} (hM : Ct yX10_position cX10_position 7 (some .int) d 0 0 ([.ref (ad q), a1]) ae ad sh σ (mPi ad sh P)) (hq : sh[q]? = some (.inr (10, fs))) (hd : decode cc pc = .ok (.invokevirtual 142, 3)) (hR0 : mRoomOk R d 7 = true) (hcat : (rest.map fun v => v.category).sum ≤ 8) {kk nn : Nat} (hkk : kk ≤ R.cells) (hnn : nn ≤ R.slots) (K : ∀ r σ', P r σ' → Ev RX10 cc nL ini ret R ae Post (pc + 3) ls (.int r :: rest) kk nn ad sh σ') : Ev RX10 cc nL ini ret R ae Post (pc) ls (a1 :: .ref (ad q) :: rest) kk nn ad sh σ :=
  ev_callV (As := [a1]) hM mm_X10_position lk_X10_142 mi_X10_position ml_X10_position hq rfl rfl rfl hd hR0 hkk hnn hcat (fun v ad2 sh2 σ2 ⟨r, e1, e2, e3, e4⟩ => by subst e1; subst e2; subst e3; exact K r σ2 e4)
theorem kg_X10_58 {q d : Nat} {fs : List Value} {P : mSt → Prop} (hM : Ct yX10_begins cX10_begins 1 none d 0 0 ([.ref (ad q)]) ae ad sh σ (mPv ad sh P)) (hq : sh[q]? = some (.inr (10, fs))) (hd : decode cc pc = .ok (.invokevirtual 58, 3)) (hR0 : mRoomOk R d 1 = true) (hcat : (rest.map fun v => v.category).sum ≤ 8) {kk nn : Nat} (hkk : kk ≤ R.cells) (hnn : nn ≤ R.slots) (K : ∀ σ', P σ' → Ev RX10 cc nL ini ret R ae Post (pc + 3) ls (rest) kk nn ad sh σ') : Ev RX10 cc nL ini ret R ae Post (pc) ls (.ref (ad q) :: rest) kk nn ad sh σ :=
  ev_callV (As := []) hM mm_X10_begins lk_X10_58 mi_X10_begins ml_X10_begins hq rfl rfl rfl hd hR0 hkk hnn hcat (fun v ad2 sh2 σ2 ⟨e1, e2, e3, e4⟩ => by subst e1; subst e2; subst e3; exact K σ2 e4)
theorem kl_X10_146 {q d : Nat} {fs : List Value} {r : Int32} {σ' : mSt} (hM : Ct yX10_men cX10_men 3 (some .int) d 0 0 ([.ref (ad q)]) ae ad sh σ (mEq (some (.int r)) ad sh σ')) (hq : sh[q]? = some (.inr (10, fs))) (hd : decode cc pc = .ok (.invokevirtual 146, 3)) (hR0 : mRoomOk R d 3 = true) (hcat : (rest.map fun v => v.category).sum ≤ 8) {kk nn : Nat} (hkk : kk ≤ R.cells) (hnn : nn ≤ R.slots) (K : Ev RX10 cc nL ini ret R ae Post (pc + 3) ls (.int r :: rest) kk nn ad sh σ') : Ev RX10 cc nL ini ret R ae Post (pc) ls (.ref (ad q) :: rest) kk nn ad sh σ :=
  ev_callV (As := []) hM mm_X10_men lk_X10_146 mi_X10_men ml_X10_men hq rfl rfl rfl hd hR0 hkk hnn hcat (fun v ad2 sh2 σ2 ⟨e1, e2, e3, e4⟩ => by subst e1; subst e2; subst e3; subst e4; exact K)
theorem kl_X10_72 {d : Nat} {a1 : Value} {r : Int32} {σ' : mSt} (hM : Ct yX10_castleAt cX10_castleAt 1 (some .int) d 0 0 ([a1]) ae ad sh σ (mEq (some (.int r)) ad sh σ')) (hd : decode cc pc = .ok (.invokestatic 72, 3)) (hR0 : mRoomOk R d 1 = true) (hcat : (rest.map fun v => v.category).sum ≤ 8) {kk nn : Nat} (hkk : kk ≤ R.cells) (hnn : nn ≤ R.slots) (K : Ev RX10 cc nL ini ret R ae Post (pc + 3) ls (.int r :: rest) kk nn ad sh σ') : Ev RX10 cc nL ini ret R ae Post (pc) ls (a1 :: rest) kk nn ad sh σ :=
  ev_callS (As := [a1]) hM mm_X10_castleAt lk_X10_72 ms_X10_castleAt rfl rfl hd hR0 hkk hnn hcat (fun v ad2 sh2 σ2 ⟨e1, e2, e3, e4⟩ => by subst e1; subst e2; subst e3; subst e4; exact K)
theorem kg_X10_129 {q d : Nat} {fs : List Value} {a1 a2 : Value} {P : Int32 → mSt → Prop} (hM : Ct yX10_parts cX10_parts 6 (some .int) d 0 0 ([.ref (ad q), a1, a2]) ae ad sh σ (mPi ad sh P)) (hq : sh[q]? = some (.inr (10, fs))) (hd : decode cc pc = .ok (.invokevirtual 129, 3)) (hR0 : mRoomOk R d 6 = true) (hcat : (rest.map fun v => v.category).sum ≤ 8) {kk nn : Nat} (hkk : kk ≤ R.cells) (hnn : nn ≤ R.slots) (K : ∀ r σ', P r σ' → Ev RX10 cc nL ini ret R ae Post (pc + 3) ls (.int r :: rest) kk nn ad sh σ') : Ev RX10 cc nL ini ret R ae Post (pc) ls (a2 :: a1 :: .ref (ad q) :: rest) kk nn ad sh σ :=
  ev_callV (As := [a1, a2]) hM mm_X10_parts lk_X10_129 mi_X10_parts ml_X10_parts hq rfl rfl rfl hd hR0 hkk hnn hcat (fun v ad2 sh2 σ2 ⟨r, e1, e2, e3, e4⟩ => by subst e1; subst e2; subst e3; exact K r σ2 e4)
theorem kl_X10_54 {d : Nat} {a1 : Value} {r : Int32} {σ' : mSt} (hM : Ct yX10_typeAt cX10_typeAt 1 (some .int) d 0 0 ([a1]) ae ad sh σ (mEq (some (.int r)) ad sh σ')) (hd : decode cc pc = .ok (.invokestatic 54, 3)) (hR0 : mRoomOk R d 1 = true) (hcat : (rest.map fun v => v.category).sum ≤ 8) {kk nn : Nat} (hkk : kk ≤ R.cells) (hnn : nn ≤ R.slots) (K : Ev RX10 cc nL ini ret R ae Post (pc + 3) ls (.int r :: rest) kk nn ad sh σ') : Ev RX10 cc nL ini ret R ae Post (pc) ls (a1 :: rest) kk nn ad sh σ :=
  ev_callS (As := [a1]) hM mm_X10_typeAt lk_X10_54 ms_X10_typeAt rfl rfl hd hR0 hkk hnn hcat (fun v ad2 sh2 σ2 ⟨e1, e2, e3, e4⟩ => by subst e1; subst e2; subst e3; subst e4; exact K)
/-- a row of N cells has been laid, and a number is returned -/
def mPa (ad : Nat → Nat) (sh : mSh) (N : Nat) (P : Int32 → mSt → Prop) : mPost := fun v ad' sh' σ' => ∃ r, v = some (.int r) ∧ (∀ j, j < sh.length → ad' j = ad j) ∧ sh' = sh ++ [.inl N] ∧ P r σ'
theorem ev_pa {own : String} {P : Int32 → mSt → Prop} {x : Int32} {N kk nn : Nat} {ad1 : Nat → Nat} (hd : decode cc pc = .ok (.ireturn, 1)) (hkk : kk ≤ R.cells) (hnn : nn ≤ R.slots) (ha : ∀ j, j < sh.length → ad1 j = ad j) (h : P x σ) : Ev own cc nL ini (some .int) R ae (mPa ad sh N P) pc ls [.int x] kk nn ad1 (sh ++ [.inl N]) σ :=
  ev_ret (v := some (.int x)) hd hkk hnn (Or.inr (Or.inl ⟨.int, x, rfl, rfl, rfl, mNar_int x⟩)) ⟨x, rfl, ha, rfl, h⟩
end KK
theorem sh_ext {sh : mSh} {e x : Nat ⊕ (Nat × List Value)} {i : Nat} (h : sh[i]? = some x) : (sh ++ [e])[i]? = some x := by
  have hi : i < sh.length := (List.getElem?_eq_some_iff.mp h).1
  rw [List.getElem?_append_left hi]; exact h
theorem mModel.len {ad : Nat → Nat} {sh : mSh} (hm : mModel ad sh) : 76 ≤ sh.length := (List.getElem?_eq_some_iff.mp hm.2.2.2.2.2.2.2.2.2.2.2.2.2.2).1
theorem mModel.ext {ad ad1 : Nat → Nat} {sh : mSh} {e : Nat ⊕ (Nat × List Value)} (hm : mModel ad sh) (ha : ∀ j, j < sh.length → ad1 j = ad j) : mModel ad1 (sh ++ [e]) := by
  have hl := hm.len
  have A : ∀ j, j < 76 → ad1 j = ad j := fun j hj => ha j (by omega)
  obtain ⟨h1, h2, h3, h4, h5, h6, h7, h8, h9, h10, h11, h12, h13, h14, h15⟩ := hm
  refine ⟨?_, sh_ext h2, sh_ext h3, sh_ext h4, sh_ext h5, sh_ext h6, sh_ext h7, sh_ext h8, sh_ext h9, sh_ext h10, sh_ext h11, sh_ext h12, sh_ext h13, sh_ext h14, sh_ext h15⟩
  rw [sh_ext h1, A 62 (by decide), A 63 (by decide), A 64 (by decide), A 65 (by decide), A 66 (by decide), A 67 (by decide), A 68 (by decide), A 69 (by decide), A 70 (by decide), A 71 (by decide), A 72 (by decide), A 73 (by decide), A 74 (by decide), A 75 (by decide)]
theorem sh_new {sh : mSh} {N : Nat} : (sh ++ [.inl N])[sh.length]? = some (.inl N) := by
  rw [List.getElem?_append_right (Nat.le_refl _), Nat.sub_self]; rfl
/-- cells a … a+i-1 are f 0 … f (i-1) -/
def filA (a : Nat) (f base : Nat → Int32) (i : Nat) : Nat → Int32 := fun j => if a ≤ j ∧ j < a + i then f (j - a) else base j
theorem filA_0 {a : Nat} {f base : Nat → Int32} : filA a f base 0 = base := by
  funext j; unfold filA; rw [if_neg (by omega)]
theorem filA_s {a i : Nat} {f base : Nat → Int32} : upd (filA a f base i) (a + i) (f i) = filA a f base (i + 1) := by
  funext j
  by_cases h : j = a + i
  · subst h; rw [upd_at]; unfold filA; rw [if_pos (by omega), Nat.add_sub_cancel_left]
  · rw [upd_ne h]; unfold filA
    by_cases z : a ≤ j ∧ j < a + i
    · rw [if_pos z, if_pos (by omega)]
    · rw [if_neg z, if_neg (by omega)]
theorem filA_out {a i j : Nat} {f base : Nat → Int32} (h : j < a ∨ a + i ≤ j) : filA a f base i j = base j := by unfold filA; rw [if_neg (by omega)]
theorem filA_in {a i k : Nat} {f base : Nat → Int32} (h : k < i) : filA a f base i (a + k) = f k := by unfold filA; rw [if_pos (by omega), Nat.add_sub_cancel_left]

set_option maxRecDepth 100000 in
set_option maxHeartbeats 4000000 in
theorem c_set_27 {ae ad : Nat → Nat} {sh : mSh} {σ : mSt} {qa : Nat} {r0 : Int32} {base : Nat → Int32} {Post : mPost} (hm : mModel ad sh) (hq : sh[qa]? = some (.inl 36)) (hqa : 76 ≤ qa) {M : Nat → Nat} (hM : ∀ i, i < 36 → σ.1 qa i = nI (M i)) (K : ∀ σ' : mSt, (σ'.1 62 = filA 1 (fun k => nI (M k)) (base) 36 ∧ (∀ j, j ≠ 62 → σ'.1 j = σ.1 j) ∧ σ'.2 = σ.2) → Ev RX10 cX10_setup 4 false (some .int) (mRm 4 1 36) ae Post 50 [some (.ref (ad 61)), some (.ref (ad qa)), some (.int r0), some (.int (nI 36))] [] 1 36 ad sh σ') : ∀ (n i : Nat), 36 - i = n → i ≤ 36 → ∀ σ2 : mSt, (σ2.1 62 = filA 1 (fun k => nI (M k)) (base) i ∧ (∀ j, j ≠ 62 → σ2.1 j = σ.1 j) ∧ σ2.2 = σ.2) → Ev RX10 cX10_setup 4 false (some .int) (mRm 4 1 36) ae Post 27 [some (.ref (ad 61)), some (.ref (ad qa)), some (.int r0), some (.int (nI i))] [] 1 36 ad sh σ2 := by
  intro n
  induction n with
  | zero =>
    intro i hn hi σ2 hR
    have e0 : i = 36 := by omega
    subst e0
    refine ev_iload_3 dX10_setup_27 ?_
    refine ev_bipush_36 dX10_setup_28 ?_
    refine ev_icmp_ge (tgt := 50) dX10_setup_30 (by decide) (fun h30 => ?_) (fun h30 => absurd (by decide) h30)
    exact K σ2 hR
  | succ n ih =>
    intro i hn hi σ2 hR
    have hlt : i < 36 := by omega
    obtain ⟨hg, hF, hll⟩ := hR
    refine ev_iload_3 dX10_setup_27 ?_
    refine ev_bipush_36 dX10_setup_28 ?_
    refine ev_icmp_ge (tgt := 50) dX10_setup_30 (by decide) (fun h30 => absurd h30 (show ¬ nI 36 ≤ nI i from nI_ge hlt (by decide))) (fun h30 => ?_)
    refine ev_aload_0 dX10_setup_33 ?_
    refine gf_X10_11 dX10_setup_34 hm.1 rfl ?_
    refine ev_iconst_1 dX10_setup_37 ?_
    refine ev_iload_3 dX10_setup_38 ?_
    refine ev_iadd dX10_setup_39 ?_
    rw [show (1 : Int32) + nI i = nI (1 + i) from nI_add (1) (i)]
    refine ev_aload_1 dX10_setup_40 ?_
    refine ev_iload_3 dX10_setup_41 ?_
    refine ev_ldk (k := i) hq rfl rfl (by omega) (by decide) dX10_setup_42 ?_
    rw [show σ2.1 qa i = nI (M i) from by rw [hF qa (by omega)]; exact hM i hlt]
    refine ev_stk (k := 1 + i) hm.2.1 hg rfl (by omega) (by decide) dX10_setup_43 (fun σ43 hw43 hf43 hl43 => ?_)
    have zinto_43 := (hf43 qa (by omega)).trans (Eq.refl _)
    refine ev_iinc_3 (v := 1) dX10_setup_44 (by decide) rfl rfl ?_
    rw [show nI i + 1 = nI (i + 1) from nI_add (i) 1]
    refine ev_goto (tgt := 27) dX10_setup_47 (by decide) ?_
    refine ih (i + 1) (by omega) (by omega) _ ⟨?_, fun j hj => (hf43 j hj).trans (hF j hj), hl43.trans hll⟩
    rw [hw43]
    exact filA_s
set_option maxRecDepth 100000 in
set_option maxHeartbeats 4000000 in
theorem c_set_52 {ae ad : Nat → Nat} {sh : mSh} {σ : mSt} {qa : Nat} {r0 : Int32} {base : Nat → Int32} {Post : mPost} (hm : mModel ad sh)  (K : ∀ σ' : mSt, (σ'.1 62 = filA 37 (fun _ => 0) (base) 12 ∧ (∀ j, j ≠ 62 → σ'.1 j = σ.1 j) ∧ σ'.2 = σ.2) → Ev RX10 cX10_setup 4 false (some .int) (mRm 4 1 36) ae Post 74 [some (.ref (ad 61)), some (.ref (ad qa)), some (.int r0), some (.int (nI 12))] [] 1 36 ad sh σ') : ∀ (n i : Nat), 12 - i = n → i ≤ 12 → ∀ σ2 : mSt, (σ2.1 62 = filA 37 (fun _ => 0) (base) i ∧ (∀ j, j ≠ 62 → σ2.1 j = σ.1 j) ∧ σ2.2 = σ.2) → Ev RX10 cX10_setup 4 false (some .int) (mRm 4 1 36) ae Post 52 [some (.ref (ad 61)), some (.ref (ad qa)), some (.int r0), some (.int (nI i))] [] 1 36 ad sh σ2 := by
  intro n
  induction n with
  | zero =>
    intro i hn hi σ2 hR
    have e0 : i = 12 := by omega
    subst e0
    refine ev_iload_3 dX10_setup_52 ?_
    refine ev_bipush_12 dX10_setup_53 ?_
    refine ev_icmp_ge (tgt := 74) dX10_setup_55 (by decide) (fun h55 => ?_) (fun h55 => absurd (by decide) h55)
    exact K σ2 hR
  | succ n ih =>
    intro i hn hi σ2 hR
    have hlt : i < 12 := by omega
    obtain ⟨hg, hF, hll⟩ := hR
    refine ev_iload_3 dX10_setup_52 ?_
    refine ev_bipush_12 dX10_setup_53 ?_
    refine ev_icmp_ge (tgt := 74) dX10_setup_55 (by decide) (fun h55 => absurd h55 (show ¬ nI 12 ≤ nI i from nI_ge hlt (by decide))) (fun h55 => ?_)
    refine ev_aload_0 dX10_setup_58 ?_
    refine gf_X10_11 dX10_setup_59 hm.1 rfl ?_
    refine ev_bipush_37 dX10_setup_62 ?_
    refine ev_iload_3 dX10_setup_64 ?_
    refine ev_iadd dX10_setup_65 ?_
    rw [show (37 : Int32) + nI i = nI (37 + i) from nI_add (37) (i)]
    refine ev_iconst_0 dX10_setup_66 ?_
    refine ev_stk (k := 37 + i) hm.2.1 hg rfl (by omega) (by decide) dX10_setup_67 (fun σ67 hw67 hf67 hl67 => ?_)
    refine ev_iinc_3 (v := 1) dX10_setup_68 (by decide) rfl rfl ?_
    rw [show nI i + 1 = nI (i + 1) from nI_add (i) 1]
    refine ev_goto (tgt := 52) dX10_setup_71 (by decide) ?_
    refine ih (i + 1) (by omega) (by omega) _ ⟨?_, fun j hj => (hf67 j hj).trans (hF j hj), hl67.trans hll⟩
    rw [hw67]
    exact filA_s
set_option maxRecDepth 100000 in
set_option maxHeartbeats 4000000 in
theorem c_set_76 {ae ad : Nat → Nat} {sh : mSh} {σ : mSt} {qa : Nat} {r0 : Int32} {base : Nat → Int32} {Post : mPost} (hm : mModel ad sh)  (K : ∀ σ' : mSt, (σ'.1 62 = filA 49 (fun k => base (184 + 6 * k)) (base) 4 ∧ (∀ j, j ≠ 62 → σ'.1 j = σ.1 j) ∧ σ'.2 = σ.2) → Ev RX10 cX10_setup 4 false (some .int) (mRm 4 1 36) ae Post 105 [some (.ref (ad 61)), some (.ref (ad qa)), some (.int r0), some (.int (nI 4))] [] 1 36 ad sh σ') : ∀ (n i : Nat), 4 - i = n → i ≤ 4 → ∀ σ2 : mSt, (σ2.1 62 = filA 49 (fun k => base (184 + 6 * k)) (base) i ∧ (∀ j, j ≠ 62 → σ2.1 j = σ.1 j) ∧ σ2.2 = σ.2) → Ev RX10 cX10_setup 4 false (some .int) (mRm 4 1 36) ae Post 76 [some (.ref (ad 61)), some (.ref (ad qa)), some (.int r0), some (.int (nI i))] [] 1 36 ad sh σ2 := by
  intro n
  induction n with
  | zero =>
    intro i hn hi σ2 hR
    have e0 : i = 4 := by omega
    subst e0
    refine ev_iload_3 dX10_setup_76 ?_
    refine ev_iconst_4 dX10_setup_77 ?_
    refine ev_icmp_ge (tgt := 105) dX10_setup_78 (by decide) (fun h78 => ?_) (fun h78 => absurd (by decide) h78)
    exact K σ2 hR
  | succ n ih =>
    intro i hn hi σ2 hR
    have hlt : i < 4 := by omega
    obtain ⟨hg, hF, hll⟩ := hR
    refine ev_iload_3 dX10_setup_76 ?_
    refine ev_iconst_4 dX10_setup_77 ?_
    refine ev_icmp_ge (tgt := 105) dX10_setup_78 (by decide) (fun h78 => absurd h78 (show ¬ nI 4 ≤ nI i from nI_ge hlt (by decide))) (fun h78 => ?_)
    refine ev_aload_0 dX10_setup_81 ?_
    refine gf_X10_11 dX10_setup_82 hm.1 rfl ?_
    refine ev_bipush_49 dX10_setup_85 ?_
    refine ev_iload_3 dX10_setup_87 ?_
    refine ev_iadd dX10_setup_88 ?_
    rw [show (49 : Int32) + nI i = nI (49 + i) from nI_add (49) (i)]
    refine ev_aload_0 dX10_setup_89 ?_
    refine gf_X10_11 dX10_setup_90 hm.1 rfl ?_
    refine ev_iload_3 dX10_setup_93 ?_
    refine kl_X10_72 (c_castleAt (t := (i))) dX10_setup_94 rfl (Nat.le_of_ble_eq_true rfl) (by decide) (by decide) ?_
    refine ev_ldk (k := 184 + 6 * i) hm.2.1 hg rfl (by omega) (by decide) dX10_setup_97 ?_
    rw [show filA 49 (fun k => base (184 + 6 * k)) base i (184 + 6 * i) = base (184 + 6 * i) from filA_out (by omega)]
    refine ev_stk (k := 49 + i) hm.2.1 hg rfl (by omega) (by decide) dX10_setup_98 (fun σ98 hw98 hf98 hl98 => ?_)
    refine ev_iinc_3 (v := 1) dX10_setup_99 (by decide) rfl rfl ?_
    rw [show nI i + 1 = nI (i + 1) from nI_add (i) 1]
    refine ev_goto (tgt := 76) dX10_setup_102 (by decide) ?_
    refine ih (i + 1) (by omega) (by omega) _ ⟨?_, fun j hj => (hf98 j hj).trans (hF j hj), hl98.trans hll⟩
    rw [hw98]
    exact filA_s (f := fun k => base (184 + 6 * k))
theorem set_fun {g : Nat → Int32} {M : Nat → Nat} {b1 b2 : Nat → Int32} (e1 : b1 = filA 1 (fun k => nI (M k)) g 36) (e2 : b2 = filA 37 (fun _ => 0) b1 12) : upd (filA 49 (fun k => b2 (184 + 6 * k)) b2 4) 0 0 = setS g M := by
  subst e1; subst e2
  funext i
  by_cases a : i = 0
  · subst a; rw [upd_at, sup_ne (by decide)]; rfl
  rw [upd_ne a]
  by_cases b : 49 ≤ i ∧ i < 53
  · obtain ⟨k, hk, e⟩ : ∃ k, k < 4 ∧ i = 49 + k := ⟨i - 49, by omega, by omega⟩
    subst e
    rw [filA_in hk, sup_ri hk, filA_out (by omega), filA_out (by omega)]
  rw [filA_out (by omega), sup_ne (by omega)]
  by_cases c : 37 ≤ i ∧ i < 49
  · obtain ⟨k, hk, e⟩ : ∃ k, k < 12 ∧ i = 37 + k := ⟨i - 37, by omega, by omega⟩
    subst e
    rw [filA_in hk, em_0 (by omega) (by omega)]
  rw [filA_out (by omega)]
  by_cases d : 1 ≤ i ∧ i < 37
  · obtain ⟨k, hk, e⟩ : ∃ k, k < 36 ∧ i = 1 + k := ⟨i - 1, by omega, by omega⟩
    subst e
    rw [filA_in hk, em_sq hk]
  · rw [filA_out (by omega), em_hi _ (by omega)]
set_option maxRecDepth 100000 in
set_option maxHeartbeats 4000000 in
theorem c_mSetup {ae ad : Nat → Nat} {sh : mSh} {σ : mSt} (hm : mModel ad sh) {g T : Nat → Int32} {tl : Nat} (hg : σ.1 62 = g) (hT0 : σ.1 64 = T) (hG : wfP g) (hW : wfL g) (htl : tl ≤ 60) (hl : σ.1 61 4 = nI tl) (hT : ∀ i, i < tl → ∃ k, k < 128 ∧ T i = nI k) : Ct yX10_setup cX10_setup 4 (some .int) 4 1 36 [.ref (ad 61)] ae ad sh σ (mPa ad sh 36 (fun x σ' => (¬ (posT g T tl).1 < 0 → x = -100 - (posT g T tl).1 ∧ σ'.1 62 = g ∧ σ'.1 61 = upd (σ.1 61) 4 0 ∧ (∀ j, j ≠ 61 → j ≠ sh.length → σ'.1 j = σ.1 j) ∧ (∀ j, j ≠ sh.length → σ'.2 j = σ.2 j)) ∧
  ((posT g T tl).1 < 0 → x = nI (cntF (fun q => decide (1 ≤ mN (begG (setS g (posT g T tl).2)) q)) (cN (begG (setS g (posT g T tl).2)) * rN (begG (setS g (posT g T tl).2)))) ∧ σ'.1 62 = begG (setS g (posT g T tl).2) ∧ σ'.1 61 = upd (upd (σ.1 61) 4 0) 13 0 ∧ (∀ k, k < 3 → σ'.1 72 k = -1) ∧ (∀ j, j ≠ 61 → j ≠ 62 → j ≠ 72 → j ≠ sh.length → σ'.1 j = σ.1 j) ∧ (∀ j, j ≠ sh.length → σ'.2 j = σ.2 j)))) := by
  refine Ct.ofL (own := RX10) (ini := false) (ls := [some (.ref (ad 61)), none, none, none]) (by decide +kernel) rfl (fun h => by cases h) (Nat.le_of_ble_eq_true rfl) rfl ?_
  have hlen := hm.len
  refine ev_bipush_36 dX10_setup_0 ?_
  refine ev_newa (N := 36) (by decide) rfl (by decide) (by decide) (by decide) dX10_setup_2 k_arrI (fun ad1 ha => ?_)
  have hm1 : mModel ad1 (sh ++ [.inl 36]) := hm.ext ha
  have hq : (sh ++ [(.inl 36 : Nat ⊕ (Nat × List Value))])[sh.length]? = some (.inl 36) := sh_new
  obtain ⟨qa, eqa⟩ : ∃ qa, qa = sh.length := ⟨_, rfl⟩
  obtain ⟨shn, esn⟩ : ∃ shn, shn = sh ++ [(.inl 36 : Nat ⊕ (Nat × List Value))] := ⟨_, rfl⟩
  obtain ⟨σ0, eσ⟩ : ∃ σ0 : mSt, σ0 = (mr σ.1 qa (fun _ => 0), mrl σ.2 qa (fun _ => 0)) := ⟨_, rfl⟩
  have F0 : ∀ j, j ≠ qa → σ0.1 j = σ.1 j := fun j hj => by rw [eσ]; exact mr_ne _ _ hj
  have L0 : ∀ j, j ≠ qa → σ0.2 j = σ.2 j := fun j hj => by rw [eσ]; exact if_neg hj
  have Z0 : σ0.1 qa = fun _ => 0 := by rw [eσ]; exact mr_at _ _ _
  rw [← eqa] at hq hlen ⊢
  rw [← eσ]
  rw [← esn] at hq hm1
  refine Ev.to (ls' := [some (.ref (ad1 61)), none, none, none]) (by rw [ha 61 (by omega)]) rfl rfl ?_
  rw [show sh ++ [(.inl 36 : Nat ⊕ (Nat × List Value))] = shn from esn.symm]
  have hg0 : σ0.1 62 = g := (F0 62 (by omega)).trans hg
  have hT2 : σ0.1 64 = T := (F0 64 (by omega)).trans hT0
  have hl0 : σ0.1 61 4 = nI tl := by rw [F0 61 (by omega)]; exact hl
  have hk := posT_ok hG (g := g) (T := T) (tl := tl)
  have hGS : wfP (setS g (posT g T tl).2) := sup_wfP hG hW hk
  have hWS : wfL (setS g (posT g T tl).2) := sup_wfL hW
  have hpos := c_mPos (ae := ae) (T := T) hm1 hg0 hG hW hq hlen htl hl0 (fun i hi => by rw [hT2]; exact hT i hi) (fun i _ => by rw [Z0])
  rw [hT2] at hpos
  refine ev_astore_1 dX10_setup_4 rfl rfl ?_
  refine ev_aload_0 dX10_setup_5 ?_
  refine ev_aload_1 dX10_setup_6 ?_
  refine kg_X10_142 hpos hm1.1 dX10_setup_7 rfl (Nat.le_of_ble_eq_true rfl) (by decide) (by decide) (fun r1 σ1 h1 => ?_)
  obtain ⟨e1, hM, hF1, hl1⟩ := h1
  have hg1 : σ1.1 62 = g := (hF1 62 (by omega)).trans hg0
  refine ev_istore_2 dX10_setup_10 rfl rfl ?_
  refine ev_aload_0 dX10_setup_11 ?_
  refine ev_iconst_0 dX10_setup_12 ?_
  refine pf_X10_85 dX10_setup_13 hm1.1 rfl ?_
  obtain ⟨σ3, e3⟩ : ∃ σ3 : mSt, σ3 = (mu σ1.1 61 4 0, σ1.2) := ⟨_, rfl⟩
  have F3 : ∀ j, j ≠ 61 → σ3.1 j = σ1.1 j := fun j hj => by rw [e3]; exact mu_ne _ hj
  have A3 : σ3.1 61 = upd (σ1.1 61) 4 0 := by rw [e3]; show (if (61 : Nat) = 61 then upd (σ1.1 61) 4 0 else σ1.1 61) = _; exact if_pos rfl
  have L3 : σ3.2 = σ1.2 := by rw [e3]
  rw [← e3]
  refine ev_iload_2 dX10_setup_16 ?_
  refine ev_if_lt (tgt := 25) dX10_setup_17 (by decide) (fun h17 => ?_) (fun h17 => ?_)
  · have hneg : (posT g T tl).1 < 0 := by rw [← e1]; exact h17
    refine ev_iconst_0 dX10_setup_25 ?_
    refine ev_istore_3 dX10_setup_26 rfl rfl ?_
    refine c_set_27 (σ := σ3) (base := g) hm1 hq hlen (M := (posT g T tl).2) (fun i hi => by rw [F3 qa (by omega)]; exact hM i hi) (fun σ4 h4 => ?_) 36 0 rfl (Nat.zero_le _) σ3 ⟨by rw [filA_0, F3 62 (by decide)]; exact hg1, fun _ _ => rfl, rfl⟩
    obtain ⟨n4, F4, L4⟩ := h4
    refine ev_iconst_0 dX10_setup_50 ?_
    refine ev_istore_3 dX10_setup_51 rfl rfl ?_
    refine c_set_52 (σ := σ4) (base := σ4.1 62) hm1 (fun σ5 h5 => ?_) 12 0 rfl (Nat.zero_le _) σ4 ⟨by rw [filA_0], fun _ _ => rfl, rfl⟩
    obtain ⟨n5, F5, L5⟩ := h5
    refine ev_iconst_0 dX10_setup_74 ?_
    refine ev_istore_3 dX10_setup_75 rfl rfl ?_
    refine c_set_76 (σ := σ5) (base := σ5.1 62) hm1 (fun σ6 h6 => ?_) 4 0 rfl (Nat.zero_le _) σ5 ⟨by rw [filA_0], fun _ _ => rfl, rfl⟩
    obtain ⟨n6, F6, L6⟩ := h6
    refine ev_aload_0 dX10_setup_105 ?_
    refine gf_X10_11 dX10_setup_106 hm1.1 rfl ?_
    refine ev_iconst_0 dX10_setup_109 ?_
    refine ev_iconst_0 dX10_setup_110 ?_
    refine ev_stk (k := 0) hm1.2.1 n6 rfl (by decide) (by decide) dX10_setup_111 (fun σ7 n7 F7 L7 => ?_)
    rw [set_fun n4 n5] at n7
    refine ev_aload_0 dX10_setup_112 ?_
    refine kg_X10_58 (c_mBegins hm1 n7 hGS hWS) hm1.1 dX10_setup_113 rfl (Nat.le_of_ble_eq_true rfl) (by decide) (by decide) (fun σ8 h8 => ?_)
    obtain ⟨b1, b2, b3, b4, b5⟩ := h8
    refine ev_aload_0 dX10_setup_116 ?_
    refine kl_X10_146 (c_mMen hm1 b1 (bg_wfP hGS)) hm1.1 dX10_setup_117 rfl (Nat.le_of_ble_eq_true rfl) (by decide) (by decide) ?_
    rw [esn]
    refine ev_pa dX10_setup_120 (by decide) (by decide) ha ⟨fun h => absurd hneg h, fun _ => ⟨rfl, b1, ?_, b3, fun j x1 x2 x3 x4 => ?_, fun j x4 => ?_⟩⟩
    · rw [b2, F7 61 (by decide), F6 61 (by decide), F5 61 (by decide), F4 61 (by decide), A3, hF1 61 (by omega), F0 61 (by omega)]
    · rw [b4 j x1 x2 x3, F7 j x2, F6 j x2, F5 j x2, F4 j x2, F3 j x1, hF1 j x4, F0 j x4]
    · rw [b5, L7, L6, L5, L4, L3, hl1, L0 j x4]
  · refine ev_bipush_m100 dX10_setup_20 ?_
    refine ev_iload_2 dX10_setup_22 ?_
    refine ev_isub dX10_setup_23 ?_
    have hneg : ¬ (posT g T tl).1 < 0 := by rw [← e1]; exact h17
    rw [esn]
    exact ev_pa dX10_setup_24 (by decide) (by decide) ha ⟨fun _ => ⟨by rw [e1], (F3 62 (by decide)).trans hg1, by rw [A3, hF1 61 (by omega), F0 61 (by omega)], fun j x1 x4 => (F3 j x1).trans ((hF1 j x4).trans (F0 j x4)), fun j x4 => (congrFun (L3.trans hl1) j).trans (L0 j x4)⟩, fun h => absurd h hneg⟩
