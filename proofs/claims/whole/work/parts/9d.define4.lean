section KK
variable {cc : ByteArray} {nL : Nat} {ini : Bool} {ret : Option FieldType} {R : Room} {ae ad : Nat → Nat} {Post : mPost} {pc : Nat} {ls : List (Option Value)} {rest : List Value} {sh : mSh} {σ : mSt}
theorem kt_X10_91 {d i : Nat} {a1 : Value} {r : Int32} {σ' : mSt} (hM : Ct yJ0_charAt_5068e cJ0_charAt_5068e 2 (some .char) d 0 0 [.ref (ae (100 + i)), a1] ae ad sh σ (mEq (some (.int r)) ad sh σ')) (hi : i < 20) (hd : decode cc pc = .ok (.invokevirtual 91, 3)) (hR0 : mRoomOk R d 2 = true) (hcat : (rest.map fun v => v.category).sum ≤ 8) {kk nn : Nat} (hkk : kk ≤ R.cells) (hnn : nn ≤ R.slots) (K : Ev RX10 cc nL ini ret R ae Post (pc + 3) ls (.int r :: rest) kk nn ad sh σ') : Ev RX10 cc nL ini ret R ae Post (pc) ls (a1 :: .ref (ae (100 + i)) :: rest) kk nn ad sh σ :=
  ev_callT (As := [a1]) hM mm_J0_charAt_5068e lk_X10_91 mi_J0_charAt_5068e ml_J0_charAt_5068e hi rfl rfl rfl hd hR0 hkk hnn hcat (fun v ad2 sh2 σ2 ⟨e1, e2, e3, e4⟩ => by subst e1; subst e2; subst e3; subst e4; exact K)
end KK
/-- where the meaning k begins in the reference's list of meanings -/
def mo (k : Nat) : Nat := [0, 2, 5, 8, 11, 13, 20].getD k 0
theorem mo_s : ∀ k, k < 7 → ∀ j, j < slen (7 + k) → sgn 17 (mo k + j) = sgn (7 + k) j := by decide +kernel
theorem mo_32 : ∀ k, k < 7 → sgn 17 (mo k + slen (7 + k)) = 32 := by decide +kernel
theorem mo_n : ∀ k, k < 7 → ∀ j, j < slen (7 + k) → ¬ sgn (7 + k) j = 32 := by decide +kernel
theorem mo_len : ∀ k, k < 7 → mo k + slen (7 + k) < slen 17 := by decide +kernel
theorem mo_le : ∀ k, k < 7 → mo k ≤ 20 := by decide +kernel
theorem mo_next : ∀ k, k < 6 → indF 17 32 (mo k) + 1 = nI (mo (k + 1)) := by decide +kernel
theorem mo_ch : ∀ k, k < 7 → ∀ j, j < slen (7 + k) → (sgn (7 + k) j).toNatClampNeg < 128 ∧ sgn (7 + k) j = nI ((sgn (7 + k) j).toNatClampNeg) := by decide +kernel
theorem xF_cong {T T' : Nat → Int32} {tl : Nat} : ∀ (f i : Nat) (u : RS), (∀ j, i ≤ j → j < i + f → T j = T' j) → xF T tl i f u = xF T' tl i f u
  | 0, _, _, _ => rfl
  | f + 1, i, u, h => by
    rw [xF, xF, h i (Nat.le_refl _) (by omega)]
    cases u.stepX (T' i) with
    | none => rfl
    | some u' => exact xF_cong f _ _ (fun j h1 h2 => h j (by omega) (by omega))

set_option maxRecDepth 100000 in
set_option maxHeartbeats 4000000 in
theorem c_def_29 {ae ad : Nat → Nat} {sh : mSh} {σ : mSt} {t q m : Nat} {Post : mPost} (hm : mModel ad sh) (hq : q < 7) (K : Ev RX10 cX10_define 8 false (some .int) (mRm 6 1 60) ae Post 54 [some (.ref (ad 61)), some (.int (nI t)), some (.int (nI q)), some (.int (nI m)), none, some (.int (nI (mo q))), some (.int (nI q)), none] [] 0 0 ad sh σ) : ∀ (n i : Nat), q - i = n → i ≤ q → Ev RX10 cX10_define 8 false (some .int) (mRm 6 1 60) ae Post 29 [some (.ref (ad 61)), some (.int (nI t)), some (.int (nI q)), some (.int (nI m)), none, some (.int (nI (mo i))), some (.int (nI i)), none] [] 0 0 ad sh σ := by
  intro n
  induction n with
  | zero =>
    intro i hn hi
    have e0 : i = q := by omega
    subst e0
    refine ev_iload_6 dX10_define_29 ?_
    refine ev_iload_2 dX10_define_31 ?_
    refine ev_icmp_ge (tgt := 54) dX10_define_32 (by decide) (fun h32 => ?_) (fun h32 => absurd (Int32.le_refl _) h32)
    exact K
  | succ n ih =>
    intro i hn hi
    have hlt : i < q := by omega
    have hmo := mo_le i (by omega)
    refine ev_iload_6 dX10_define_29 ?_
    refine ev_iload_2 dX10_define_31 ?_
    refine ev_icmp_ge (tgt := 54) dX10_define_32 (by decide) (fun h32 => absurd h32 (nI_ge hlt (by omega))) (fun h32 => ?_)
    refine ev_ldcs (q := 17) rfl dX10_define_35 ?_
    refine ev_bipush_32 dX10_define_37 ?_
    refine ev_iload_5 dX10_define_39 ?_
    refine ct_X10_111 (c_ind2 (i := 17) (by decide) (by omega)) (by decide) dX10_define_41 rfl (Nat.le_of_ble_eq_true rfl) ?_
    refine ev_iconst_1 dX10_define_44 ?_
    refine ev_iadd dX10_define_45 ?_
    rw [mo_next i (by omega)]
    refine ev_istore_5 dX10_define_46 rfl rfl ?_
    refine ev_iinc_6 (v := 1) dX10_define_48 (by decide) rfl rfl ?_
    rw [show nI i + 1 = nI (i + 1) from nI_add (i) 1]
    refine ev_goto (tgt := 29) dX10_define_51 (by decide) ?_
    exact ih (i + 1) (by omega) (by omega)
set_option maxRecDepth 100000 in
set_option maxHeartbeats 4000000 in
theorem c_def_63 {ae ad : Nat → Nat} {sh : mSh} {σ : mSt} {t q m qa : Nat} {base : Nat → Int32} {Post : mPost} (hm : mModel ad sh) (hq7 : q < 7) (hq : sh[qa]? = some (.inl 60)) (K : ∀ σ' : mSt, (σ'.1 qa = filA 0 (sgn (7 + q)) base (slen (7 + q)) ∧ (∀ j, j ≠ qa → σ'.1 j = σ.1 j) ∧ σ'.2 = σ.2) → Ev RX10 cX10_define 8 false (some .int) (mRm 6 1 60) ae Post 99 [some (.ref (ad 61)), some (.int (nI t)), some (.int (nI q)), some (.int (nI m)), none, some (.int (nI (mo q))), some (.int (nI (slen (7 + q)))), some (.ref (ad qa))] [] 1 60 ad sh σ') : ∀ (n i : Nat), slen (7 + q) - i = n → i ≤ slen (7 + q) → ∀ σ2 : mSt, (σ2.1 qa = filA 0 (sgn (7 + q)) base i ∧ (∀ j, j ≠ qa → σ2.1 j = σ.1 j) ∧ σ2.2 = σ.2) → Ev RX10 cX10_define 8 false (some .int) (mRm 6 1 60) ae Post 63 [some (.ref (ad 61)), some (.int (nI t)), some (.int (nI q)), some (.int (nI m)), none, some (.int (nI (mo q))), some (.int (nI i)), some (.ref (ad qa))] [] 1 60 ad sh σ2 := by
  have h60 := slen60 q hq7
  have hlen := mo_len q hq7
  have hmo := mo_le q hq7
  intro n
  induction n with
  | zero =>
    intro i hn hi σ2 hR
    have e0 : i = slen (7 + q) := by omega
    subst e0
    have hks : mo q + slen (7 + q) < slen 17 := hlen
    refine ev_ldcs (q := 17) rfl dX10_define_63 ?_
    refine ev_iload_5 dX10_define_65 ?_
    refine ev_iload_6 dX10_define_67 ?_
    refine ev_iadd dX10_define_69 ?_
    rw [show nI (mo q) + nI (slen (7 + q)) = nI (mo q + (slen (7 + q))) from nI_add (mo q) (slen (7 + q))]
    refine kt_X10_91 (c_charAt (i := 17) (by decide) hks) (by decide) dX10_define_70 rfl (Nat.le_of_ble_eq_true rfl) (Nat.le_refl _) (Nat.le_refl _) ?_
    rw [mo_32 q hq7]
    refine ev_bipush_32 dX10_define_73 ?_
    refine ev_icmp_eq (tgt := 99) dX10_define_75 (by decide) (fun h75 => ?_) (fun h75 => (by exfalso; revert h75; decide))
    exact K σ2 hR
  | succ n ih =>
    intro i hn hi σ2 hR
    have hlt : i < slen (7 + q) := by omega
    obtain ⟨hr, hF, hll⟩ := hR
    have hks : mo q + i < slen 17 := by omega
    have hsg := mo_s q hq7 i hlt
    refine ev_ldcs (q := 17) rfl dX10_define_63 ?_
    refine ev_iload_5 dX10_define_65 ?_
    refine ev_iload_6 dX10_define_67 ?_
    refine ev_iadd dX10_define_69 ?_
    rw [show nI (mo q) + nI i = nI (mo q + i) from nI_add (mo q) (i)]
    refine kt_X10_91 (c_charAt (i := 17) (by decide) hks) (by decide) dX10_define_70 rfl (Nat.le_of_ble_eq_true rfl) (Nat.le_refl _) (Nat.le_refl _) ?_
    rw [hsg]
    refine ev_bipush_32 dX10_define_73 ?_
    refine ev_icmp_eq (tgt := 99) dX10_define_75 (by decide) (fun h75 => absurd h75 (mo_n q hq7 i hlt)) (fun h75 => ?_)
    refine ev_aload_7 dX10_define_78 ?_
    refine ev_iload_6 dX10_define_80 ?_
    refine ev_ldcs (q := 17) rfl dX10_define_82 ?_
    refine ev_iload_5 dX10_define_84 ?_
    refine ev_iload_6 dX10_define_86 ?_
    refine ev_iinc_6 (v := 1) dX10_define_88 (by decide) rfl rfl ?_
    rw [show nI i + 1 = nI (i + 1) from nI_add (i) 1]
    refine ev_iadd dX10_define_91 ?_
    rw [show nI (mo q) + nI i = nI (mo q + i) from nI_add (mo q) (i)]
    refine kt_X10_91 (c_charAt (i := 17) (by decide) hks) (by decide) dX10_define_92 rfl (Nat.le_of_ble_eq_true rfl) (Nat.le_refl _) (Nat.le_refl _) ?_
    rw [hsg]
    refine ev_stk (k := i) hq hr rfl (by omega) (by decide) dX10_define_95 (fun σ95 hw95 hf95 hl95 => ?_)
    refine ev_goto (tgt := 63) dX10_define_96 (by decide) ?_
    refine ih (i + 1) (by omega) (by omega) _ ⟨?_, fun j hj => (hf95 j hj).trans (hF j hj), hl95.trans hll⟩
    rw [hw95, ← filA_s, Nat.zero_add]
set_option maxRecDepth 100000 in
set_option maxHeartbeats 4000000 in
theorem c_mDefineW {ae ad : Nat → Nat} {sh : mSh} {σ : mSt} (hm : mModel ad sh) {g T : Nat → Int32} {tl t q : Nat} (ht : t < 6) (hg : σ.1 62 = g) (hG : wfP g) (hW : wfL g) (hT0 : σ.1 64 = T) (htl : tl ≤ 60) (hl : σ.1 61 4 = nI tl) (hq7 : q < 7) (hh : hitK T tl q) : Ct yX10_define cX10_define 8 (some .int) 6 1 60 [.ref (ad 61), .int (nI t)] ae ad sh σ (mPa ad sh 60 (dfP σ sh.length g T tl t)) := by
  refine Ct.ofL (own := RX10) (ini := false) (ls := [some (.ref (ad 61)), some (.int (nI t)), none, none, none, none, none, none]) (by decide +kernel) rfl (fun h => by cases h) (Nat.le_of_ble_eq_true rfl) rfl ?_
  refine ev_iload_1 dX10_define_0 ?_
  refine cl_X10_120 c_mIsType dX10_define_1 rfl (Nat.le_of_ble_eq_true rfl) ?_
  refine ev_if_ne (tgt := 9) dX10_define_4 (by decide) (fun h4 => ?_) (fun h4 => ?_)
  · refine ev_aload_0 dX10_define_9 ?_
    refine cg_X10_124 (c_mWord hm htl hT0 hl) hm.1 dX10_define_10 rfl (Nat.le_of_ble_eq_true rfl) (fun r1 σ1 h1 => ?_)
    obtain ⟨e1, w1, w2, w3⟩ := h1
    have ew : r1 = nI q := e1.trans (fd_some hh 7 hq7 (fun j hj hn hj2 => hn (hit_uni hj hq7 hj2 hh)))
    subst ew
    refine ev_istore_2 dX10_define_13 rfl rfl ?_
    refine ev_aload_0 dX10_define_14 ?_
    refine gf_X10_97 dX10_define_15 hm.1 rfl ?_
    rw [show σ1.1 61 5 = nI (mxK T tl 7) from by rw [w1, upd_at]]
    refine ev_istore_3 dX10_define_18 rfl rfl ?_
    refine ev_iload_2 dX10_define_19 ?_
    refine ev_if_lt (tgt := 112) dX10_define_20 (by decide) (fun h20 => absurd h20 (nI_pos (by omega))) (fun h20 => ?_)
    refine ev_iconst_0 dX10_define_23 ?_
    refine ev_istore_5 dX10_define_24 rfl rfl ?_
    refine ev_iconst_0 dX10_define_26 ?_
    refine ev_istore_6 dX10_define_27 rfl rfl ?_
    refine c_def_29 hm hq7 ?_ (q - 0) 0 rfl (Nat.zero_le _)
    refine ev_iconst_0 dX10_define_54 ?_
    refine ev_istore_6 dX10_define_55 rfl rfl ?_
    refine ev_bipush_60 dX10_define_57 ?_
    refine ev_newa (N := 60) (by decide) rfl (by decide) (Nat.le_refl _) (Nat.le_refl _) dX10_define_59 k_arrI (fun ad1 ha => ?_)
    have hlen := hm.len
    have hm1 : mModel ad1 (sh ++ [.inl 60]) := hm.ext ha
    have hqa : (sh ++ [(.inl 60 : Nat ⊕ (Nat × List Value))])[sh.length]? = some (.inl 60) := sh_new
    obtain ⟨qa, eqa⟩ : ∃ qa, qa = sh.length := ⟨_, rfl⟩
    obtain ⟨shn, esn⟩ : ∃ shn, shn = sh ++ [(.inl 60 : Nat ⊕ (Nat × List Value))] := ⟨_, rfl⟩
    obtain ⟨σ0, eσ⟩ : ∃ σ0 : mSt, σ0 = (mr σ1.1 qa (fun _ => 0), mrl σ1.2 qa (fun _ => 0)) := ⟨_, rfl⟩
    have F0 : ∀ j, j ≠ qa → σ0.1 j = σ1.1 j := fun j hj => by rw [eσ]; exact mr_ne _ _ hj
    have L0 : ∀ j, j ≠ qa → σ0.2 j = σ1.2 j := fun j hj => by rw [eσ]; exact if_neg hj
    rw [← eqa] at hqa hlen ⊢
    rw [← eσ]
    rw [← esn] at hqa hm1
    refine ev_astore_7 dX10_define_61 rfl rfl ?_
    refine Ev.to (ls' := [some (.ref (ad1 61)), some (.int (nI t)), some (.int (nI q)), some (.int (nI (mxK T tl 7))), none, some (.int (nI (mo q))), some (.int (nI 0)), some (.ref (ad1 qa))]) (by rw [ha 61 (by omega)]; rfl) rfl rfl ?_
    rw [show sh ++ [(.inl 60 : Nat ⊕ (Nat × List Value))] = shn from esn.symm]
    refine c_def_63 (σ := σ0) (base := σ0.1 qa) hm1 hq7 hqa (fun σ3 h3 => ?_) (slen (7 + q)) 0 rfl (Nat.zero_le _) σ0 ⟨by rw [filA_0], fun _ _ => rfl, rfl⟩
    obtain ⟨n3, F3, L3⟩ := h3
    have h60 := slen60 q hq7
    have hS : ∀ i, i < slen (7 + q) → σ3.1 qa i = sgn (7 + q) i := fun i hi => by
      have := filA_in (a := 0) (f := sgn (7 + q)) (base := σ0.1 qa) hi
      rw [n3, ← this, Nat.zero_add]
    refine ev_aload_0 dX10_define_99 ?_
    refine ev_aload_7 dX10_define_100 ?_
    refine ev_iload_6 dX10_define_102 ?_
    refine kg_X10_129 (c_mParts (qb := qa) hm1 hqa (by omega) (by omega) rfl (fun i hi => ⟨_, (mo_ch q hq7 i hi).1, (hS i hi).trans (mo_ch q hq7 i hi).2⟩)) hm1.1 dX10_define_104 rfl (Nat.le_of_ble_eq_true rfl) (Nat.le_refl _) (Nat.le_refl _) (fun r2 σ2 h2 => ?_)
    obtain ⟨e2, x2, f2, l2⟩ := h2
    rw [xF_cong (T' := sgn (7 + q)) _ _ _ (fun j _ hj => hS j (by omega))] at e2 x2
    have hD := def_some hq7 hh
    rw [← hD] at e2 x2
    subst e2
    have hneg : (defR T tl).1 < 0 := by rw [hD, wd_ok q hq7]; decide
    have hok : okX (defR T tl).2 := by rw [hD]; exact okX_xF _ _ _ okX_0
    have hn1 : 1 ≤ (defR T tl).2.n := by
      rw [hD]
      rcases xF_end (T := sgn (7 + q)) (tl := slen (7 + q)) (slen (7 + q)) 0 u0 (by omega) (by omega) with z | z
      · exact absurd (by rw [wd_ok q hq7]; decide) z.1
      · exact z.2
    refine ev_istore_4 dX10_define_107 rfl rfl ?_
    refine ev_goto (tgt := 126) dX10_define_109 (by decide) ?_
    refine ev_drop_7 ?_
    refine ev_drop_6 ?_
    refine ev_drop_5 ?_
    have W : ∀ j, j ≠ 61 → j ≠ 65 → j ≠ qa → σ2.1 j = σ.1 j := fun j a b c => by rw [f2 j b, F3 j c, F0 j c, w2 j a]
    have h61 : σ2.1 61 = upd (σ.1 61) 5 (nI (mxK T tl 7)) := by rw [f2 61 (by decide), F3 61 (by omega), F0 61 (by omega), w1]
    refine c_def_126 (mc := 1) (ms := 60) hm1 ht x2 hok ((W 62 (by decide) (by decide) (by omega)).trans hg) hG hW (fun _ => hn1) (fun x σ' h => ⟨x, rfl, ha, esn, fun y => absurd hneg y, fun _ => ?_⟩)
    obtain ⟨a1, a2, a3, a4, a5, a6⟩ := h.2 hneg
    refine ⟨a1, a2, ?_, fun c c4 c5 c13 => ?_, a4, fun j x1 x2 x3 x4 x5 => ?_, fun j x5 => ?_⟩
    · exact ⟨by rw [a3, upd_ne (by decide), upd_at], by rw [a3, upd_at]⟩
    · rw [a3, h61, upd_ne c13, upd_ne c4, upd_ne c5]
    · rw [a5 j x1 x2 x4]; exact W j x1 x3 x5
    · rw [a6, l2, L3, L0 j x5, w3]
  · exact absurd h4 (by rw [isTy_of ht]; decide)
