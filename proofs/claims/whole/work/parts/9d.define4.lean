section KK
variable {cc : ByteArray} {nL : Nat} {ini : Bool} {ret : Option FieldType} {R : Room} {ae ad : Nat → Nat} {Post : mPost} {pc : Nat} {ls : List (Option Value)} {rest : List Value} {sh : mSh} {σ : mSt}
theorem kt_X10_91 {d i : Nat} {a1 : Value} {r : Int32} {σ' : mSt} (hM : Ct yJ0_charAt_5068e cJ0_charAt_5068e 2 (some .char) d 0 0 [.ref (ae (100 + i)), a1] ae ad sh σ (mEq (some (.int r)) ad sh σ')) (hi : i < 20) (hd : decode cc pc = .ok (.invokevirtual 91, 3)) (hR0 : mRoomOk R d 2 = true) (hcat : (rest.map fun v => v.category).sum ≤ 8) {kk nn : Nat} (hkk : kk ≤ R.cells) (hnn : nn ≤ R.slots) (K : Ev RX10 cc nL ini ret R ae Post (pc + 3) ls (.int r :: rest) kk nn ad sh σ') : Ev RX10 cc nL ini ret R ae Post (pc) ls (a1 :: .ref (ae (100 + i)) :: rest) kk nn ad sh σ :=
  ev_callT (As := [a1]) hM mm_J0_charAt_5068e lk_X10_91 mi_J0_charAt_5068e ml_J0_charAt_5068e hi rfl rfl rfl hd hR0 hkk hnn hcat (fun v ad2 sh2 σ2 ⟨e1, e2, e3, e4⟩ => by subst e1; subst e2; subst e3; subst e4; exact K)
end KK
/-- where the meaning k begins in the reference's list of meanings -/
def mo (k : Nat) : Nat := [0, 2, 5, 8, 11, 13, 20].getD k 0
theorem mo_s : ∀ k, k < 7 → ∀ j, j < slen (7 + k) → sgn 17 (mo k + j) = sgn (7 + k) j := by decide +kernel
theorem mo_32 : ∀ k, k < 7 → sgn 17 (mo k + slen (7 + k)) = 32 := by decide +kernel
theorem mo_n : ∀ k, k < 7 → ∀ j, j < slen (7 + k) → ¬ sgn (7 + k) j = 32 := by decide +kernel
theorem mo_len : ∀ k, k < 7 → mo k + slen (7 + k) < slen 17 := by decide +kernel
theorem mo_le : ∀ k, k < 7 → mo k ≤ 20 := by decide +kernel
theorem mo_next : ∀ k, k < 6 → indF 17 32 (mo k) + 1 = nI (mo (k + 1)) := by decide +kernel
theorem mo_ch : ∀ k, k < 7 → ∀ j, j < slen (7 + k) → (sgn (7 + k) j).toNatClampNeg < 128 ∧ sgn (7 + k) j = nI ((sgn (7 + k) j).toNatClampNeg) := by decide +kernel
theorem xF_cong {T T' : Nat → Int32} {tl : Nat} : ∀ (f i : Nat) (u : RS), (∀ j, i ≤ j → j < i + f → T j = T' j) → xF T tl i f u = xF T' tl i f u
  | 0, _, _, _ => rfl
  | f + 1, i, u, h => by
    rw [xF, xF, h i (Nat.le_refl _) (by omega)]
    cases u.stepX (T' i) with
    | none => rfl
    | some u' => exact xF_cong f _ _ (fun j h1 h2 => h j (by omega) (by omega))

set_option maxRecDepth 100000 in
set_option maxHeartbeats 4000000 in
theorem c_def_29 {ae ad : Nat → Nat} {sh : mSh} {σ : mSt} {t q m : Nat} {Post : mPost} (hm : mModel ad sh) (hq : q < 7) (K : Ev RX10 cX10_define 8 false (some .int) (mRm 6 1 60) ae Post 54 [some (.ref (ad 61)), some (.int (nI t)), some (.int (nI q)), some (.int (nI m)), none, some (.int (nI (mo q))), some (.int (nI q)), none] [] 0 0 ad sh σ) : ∀ (n i : Nat), q - i = n → i ≤ q → Ev RX10 cX10_define 8 false (some .int) (mRm 6 1 60) ae Post 29 [some (.ref (ad 61)), some (.int (nI t)), some (.int (nI q)), some (.int (nI m)), none, some (.int (nI (mo i))), some (.int (nI i)), none] [] 0 0 ad sh σ := by
  intro n
  induction n with
  | zero =>
    intro i hn hi
    have e0 : i = q := by omega
    subst e0
    refine ev_iload_6 dX10_define_29 ?_
    refine ev_iload_2 dX10_define_31 ?_
    refine ev_icmp_ge (tgt := 54) dX10_define_32 (by decide) (fun h32 => ?_) (fun h32 => absurd (Int32.le_refl _) h32)
    exact K
  | succ n ih =>
    intro i hn hi
    have hlt : i < q := by omega
    have hmo := mo_le i (by omega)
    refine ev_iload_6 dX10_define_29 ?_
    refine ev_iload_2 dX10_define_31 ?_
    refine ev_icmp_ge (tgt := 54) dX10_define_32 (by decide) (fun h32 => absurd h32 (nI_ge hlt (by omega))) (fun h32 => ?_)
    refine ev_ldcs (q := 17) rfl dX10_define_35 ?_
    refine ev_bipush_32 dX10_define_37 ?_
    refine ev_iload_5 dX10_define_39 ?_
    refine ct_X10_111 (c_ind2 (i := 17) (by decide) (by omega)) (by decide) dX10_define_41 rfl (Nat.le_of_ble_eq_true rfl) ?_
    refine ev_iconst_1 dX10_define_44 ?_
    refine ev_iadd dX10_define_45 ?_
    rw [mo_next i (by omega)]
    refine ev_istore_5 dX10_define_46 rfl rfl ?_
    refine ev_iinc_6 (v := 1) dX10_define_48 (by decide) rfl rfl ?_
    rw [show nI i + 1 = nI (i + 1) from nI_add (i) 1]
    refine ev_goto (tgt := 29) dX10_define_51 (by decide) ?_
    exact ih (i + 1) (by omega) (by omega)
set_option maxRecDepth 100000 in
set_option maxHeartbeats 4000000 in
theorem c_def_63 {ae ad : Nat → Nat} {sh : mSh} {σ : mSt} {t q m qa : Nat} {base : Nat → Int32} {Post : mPost} (hm : mModel ad sh) (hq7 : q < 7) (hq : sh[qa]? = some (.inl 60)) (K : ∀ σ' : mSt, (σ'.1 qa = filA 0 (sgn (7 + q)) base (slen (7 + q)) ∧ (∀ j, j ≠ qa → σ'.1 j = σ.1 j) ∧ σ'.2 = σ.2) → Ev RX10 cX10_define 8 false (some .int) (mRm 6 1 60) ae Post 99 [some (.ref (ad 61)), some (.int (nI t)), some (.int (nI q)), some (.int (nI m)), none, some (.int (nI (mo q))), some (.int (nI (slen (7 + q)))), some (.ref (ad qa))] [] 1 60 ad sh σ') : ∀ (n i : Nat), slen (7 + q) - i = n → i ≤ slen (7 + q) → ∀ σ2 : mSt, (σ2.1 qa = filA 0 (sgn (7 + q)) base i ∧ (∀ j, j ≠ qa → σ2.1 j = σ.1 j) ∧ σ2.2 = σ.2) → Ev RX10 cX10_define 8 false (some .int) (mRm 6 1 60) ae Post 63 [some (.ref (ad 61)), some (.int (nI t)), some (.int (nI q)), some (.int (nI m)), none, some (.int (nI (mo q))), some (.int (nI i)), some (.ref (ad qa))] [] 1 60 ad sh σ2 := by
  have h60 := slen60 q hq7
  have hlen := mo_len q hq7
  have hmo := mo_le q hq7
  intro n
  induction n with
  | zero =>
    intro i hn hi σ2 hR
    have e0 : i = slen (7 + q) := by omega
    subst e0
    have hks : mo q + slen (7 + q) < slen 17 := hlen
    refine ev_ldcs (q := 17) rfl dX10_define_63 ?_
    refine ev_iload_5 dX10_define_65 ?_
    refine ev_iload_6 dX10_define_67 ?_
    refine ev_iadd dX10_define_69 ?_
    rw [show nI (mo q) + nI (slen (7 + q)) = nI (mo q + (slen (7 + q))) from nI_add (mo q) (slen (7 + q))]
    refine kt_X10_91 (c_charAt (i := 17) (by decide) hks) (by decide) dX10_define_70 rfl (Nat.le_of_ble_eq_true rfl) (Nat.le_refl _) (Nat.le_refl _) ?_
    rw [mo_32 q hq7]
    refine ev_bipush_32 dX10_define_73 ?_
    refine ev_icmp_eq (tgt := 99) dX10_define_75 (by decide) (fun h75 => ?_) (fun h75 => (by exfalso; revert h75; decide))
    exact K σ2 hR
  | succ n ih =>
    intro i hn hi σ2 hR
    have hlt : i < slen (7 + q) := by omega
    obtain ⟨hr, hF, hll⟩ := hR
    have hks : mo q + i < slen 17 := by omega
    have hsg := mo_s q hq7 i hlt
    refine ev_ldcs (q := 17) rfl dX10_define_63 ?_
    refine ev_iload_5 dX10_define_65 ?_
    refine ev_iload_6 dX10_define_67 ?_
    refine ev_iadd dX10_define_69 ?_
    rw [show nI (mo q) + nI i = nI (mo q + i) from nI_add (mo q) (i)]
    refine kt_X10_91 (c_charAt (i := 17) (by decide) hks) (by decide) dX10_define_70 rfl (Nat.le_of_ble_eq_true rfl) (Nat.le_refl _) (Nat.le_refl _) ?_
    rw [hsg]
    refine ev_bipush_32 dX10_define_73 ?_
    refine ev_icmp_eq (tgt := 99) dX10_define_75 (by decide) (fun h75 => absurd h75 (mo_n q hq7 i hlt)) (fun h75 => ?_)
    refine ev_aload_7 dX10_define_78 ?_
    refine ev_iload_6 dX10_define_80 ?_
    refine ev_ldcs (q := 17) rfl dX10_define_82 ?_
    refine ev_iload_5 dX10_define_84 ?_
    refine ev_iload_6 dX10_define_86 ?_
    refine ev_iinc_6 (v := 1) dX10_define_88 (by decide) rfl rfl ?_
    rw [show nI i + 1 = nI (i + 1) from nI_add (i) 1]
    refine ev_iadd dX10_define_91 ?_
    rw [show nI (mo q) + nI i = nI (mo q + i) from nI_add (mo q) (i)]
    refine kt_X10_91 (c_charAt (i := 17) (by decide) hks) (by decide) dX10_define_92 rfl (Nat.le_of_ble_eq_true rfl) (Nat.le_refl _) (Nat.le_refl _) ?_
    rw [hsg]
    refine ev_stk (k := i) hq hr rfl (by omega) (by decide) dX10_define_95 (fun σ95 hw95 hf95 hl95 => ?_)
    refine ev_goto (tgt := 63) dX10_define_96 (by decide) ?_
    refine ih (i + 1) (by omega) (by omega) _ ⟨?_, fun j hj => (hf95 j hj).trans (hF j hj), hl95.trans hll⟩
    rw [hw95, ← filA_s, Nat.zero_add]
