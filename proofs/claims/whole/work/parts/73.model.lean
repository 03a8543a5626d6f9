/-- the reference's object and its rows -/
def mModel (ad : Nat → Nat) (sh : mSh) : Prop := sh[61]? = some (.inr (10, [.ref (ad 62), .ref (ad 63), .int 0, .ref (ad 64), .int 0, .int 0, .ref (ad 65), .ref (ad 66), .ref (ad 67), .ref (ad 68), .ref (ad 69), .ref (ad 70), .ref (ad 71), .int 0, .ref (ad 72), .ref (ad 73), .ref (ad 74), .int 0, .ref (ad 75)])) ∧
  sh[62]? = some (.inl 2369) ∧ sh[63]? = some (.inl 2369) ∧ sh[64]? = some (.inl 60) ∧ sh[65]? = some (.inl 19) ∧ sh[66]? = some (.inl 3200) ∧ sh[67]? = some (.inl 3200) ∧ sh[68]? = some (.inl 3200) ∧ sh[69]? = some (.inl 3200) ∧ sh[70]? = some (.inl 2) ∧ sh[71]? = some (.inl 106) ∧ sh[72]? = some (.inl 3) ∧ sh[73]? = some (.inl 16) ∧ sh[74]? = some (.inl 16) ∧ sh[75]? = some (.inl 60)
section LD
variable {own : String} {cc : ByteArray} {nL : Nat} {ini : Bool} {ret : Option FieldType} {R : Room} {ae ad : Nat → Nat} {Post : mPost} {pc : Nat} {ls : List (Option Value)} {rest : List Value} {kk n : Nat} {sh : mSh} {σ : mSt}
theorem ev_ldk {q len k : Nat} {i : Int32} {g : Nat → Int32} (he : sh[q]? = some (.inl len)) (hg : σ.1 q = g) (hi : i = nI k) (hk : k < len) (hl : len < 2 ^ 31) (hd : decode cc pc = .ok (.iaload, 1)) (K : Ev own cc nL ini ret R ae Post (pc + 1) ls (.int (g k) :: rest) kk n ad sh σ) : Ev own cc nL ini ret R ae Post pc ls (.int i :: .ref (ad q) :: rest) kk n ad sh σ := by
  subst hi
  refine ev_iald he (vp_in_nI hk hl) hd ?_
  rw [nI_clamp (by omega), hg]
  exact K
theorem ev_stk {q len k : Nat} {i x : Int32} {g : Nat → Int32} (he : sh[q]? = some (.inl len)) (hg : σ.1 q = g) (hi : i = nI k) (hk : k < len) (hl : len < 2 ^ 31) (hd : decode cc pc = .ok (.iastore, 1)) (K : ∀ σ' : mSt, σ'.1 q = upd g k x → (∀ j, j ≠ q → σ'.1 j = σ.1 j) → σ'.2 = σ.2 → Ev own cc nL ini ret R ae Post (pc + 1) ls rest kk n ad sh σ') : Ev own cc nL ini ret R ae Post pc ls (.int x :: .int i :: .ref (ad q) :: rest) kk n ad sh σ := by
  subst hi
  refine ev_iast he (vp_in_nI hk hl) hd ?_
  rw [nI_clamp (by omega)]
  exact K _ (by rw [← hg]; funext j; simp [mu, upd]) (fun j hj => mu_ne _ hj) rfl
theorem ev_abs {q i : Nat} {x : Int32} {ls : List (Option Value)} {st : List Value} (K : ∀ σ' : mSt, σ'.1 q = upd (σ.1 q) i x → (∀ j, j ≠ q → σ'.1 j = σ.1 j) → σ'.2 = σ.2 → Ev own cc nL ini ret R ae Post pc ls st kk n ad sh σ') : Ev own cc nL ini ret R ae Post pc ls st kk n ad sh (mu σ.1 q i x, σ.2) :=
  K _ (by funext j; simp [mu, upd]) (fun j hj => mu_ne _ hj) rfl
end LD
def inB (v lo hi : Int32) : Bool := decide (¬ v < lo ∧ ¬ hi < v)
theorem nI_inB {a b c : Nat} (ha : a < 2 ^ 31) (hb : b < 2 ^ 31) (hc : c < 2 ^ 31) : inB (nI a) (nI b) (nI c) = decide (b ≤ a ∧ a ≤ c) := decide_eq_decide.mpr (by rw [nI_ltI ha hb, nI_ltI hc ha]; omega)
theorem inB_ty (x : Int32) : inB x 0 5 = isTy x := decide_eq_decide.mpr (by
  have : (6 : Int32) ≤ x ↔ 5 < x := by
    rw [Int32.le_iff_toInt_le, Int32.lt_iff_toInt_lt]
    exact Iff.rfl
  rw [this])
theorem inB_bt (x : Int32) : inB x 0 1 = isBt x := decide_eq_decide.mpr (by
  constructor
  · rintro ⟨h1, h2⟩
    obtain ⟨j, hj, e⟩ := nI_of h1
    subst e
    have : ¬ 1 < j := fun z => h2 ((nI_ltI (a := 1) (by decide) hj).mpr z)
    rcases (show j = 0 ∨ j = 1 by omega) with e | e <;> subst e
    · exact Or.inl rfl
    · exact Or.inr rfl
  · rintro (h | h) <;> subst h <;> decide)
theorem sq_in {g : Nat → Int32} (hG : wfP g) (q : Int32) : inB q 0 (nI (cN g * rN g) - 1) = sqB g q := decide_eq_decide.mpr (by
  have h36 := sq36 hG
  have h1 := hG.1.2.1
  have h2 := hG.2.1.2.1
  have h0 : 0 < cN g * rN g := Nat.mul_pos (by omega) (by omega)
  rw [lI1, nI_sub h0]
  have : ¬ nI (cN g * rN g - 1) < q ↔ q < nI (cN g * rN g) := by
    rw [Int32.lt_iff_toInt_lt, Int32.lt_iff_toInt_lt, nI_toInt (by omega), nI_toInt (by omega)]
    omega
  rw [this])
theorem mhas_eq {s : Int64} {q : Nat} (hq : q < 64) : (s >>> ((nI q).toInt64 &&& 63)) &&& 1 = 1 ↔ lb s q = true := by
  have e1 : lb (s >>> ((nI q).toInt64 &&& 63)) 0 = lb s q := by
    unfold lb
    rw [Int64.toBitVec_shiftRight]
    have h : ∀ q, q < 64 → ((nI q).toInt64 &&& 63).toBitVec.smod 64 = BitVec.ofNat 64 q := by decide +kernel
    rw [h q hq, BitVec.sshiftRight', BitVec.toNat_ofNat, Nat.mod_eq_of_lt (by omega), BitVec.getLsbD_sshiftRight]
    simp [hq]
  have h1 : ∀ i, i < 64 → lb 1 i = decide (i = 0) := by decide +kernel
  constructor
  · intro h
    have h2 := congrArg (fun x => lb x 0) h
    have h2 : lb ((s >>> ((nI q).toInt64 &&& 63)) &&& 1) 0 = lb 1 0 := h2
    rw [lb_and, e1, h1 0 (by decide)] at h2
    simpa using h2
  · intro h
    refine lb_ext fun i hi => ?_
    rw [lb_and, h1 i hi]
    by_cases z : i = 0
    · subst z; rw [e1, h]; simp
    · simp [z]

set_option maxRecDepth 100000 in
set_option maxHeartbeats 4000000 in
theorem c_mIn {ae ad : Nat → Nat} {sh : mSh} {σ : mSt} {v lo hi : Int32} : Ct yX10_in cX10_in 3 (some .boolean) 0 0 0 [.int v, .int lo, .int hi] ae ad sh σ (mEq (some (.int (b2i (inB v lo hi)))) ad sh σ) := by
  refine Ct.ofL (own := RX10) (ini := false) (ls := [some (.int v), some (.int lo), some (.int hi)]) (by decide +kernel) rfl (fun h => by cases h) (Nat.le_of_ble_eq_true rfl) rfl ?_
  refine ev_iload_0 dX10_in_0 ?_
  refine ev_iload_1 dX10_in_1 ?_
  refine ev_icmp_lt (tgt := 14) dX10_in_2 (by decide) (fun h2 => ?_) (fun h2 => ?_)
  · refine ev_iconst_0 dX10_in_14 ?_
    exact ev_zret (b2i_nar _) dX10_in_15 (by simp_all [inB, b2i]) rfl
  · refine ev_iload_0 dX10_in_5 ?_
    refine ev_iload_2 dX10_in_6 ?_
    refine ev_icmp_gt (tgt := 14) dX10_in_7 (by decide) (fun h7 => ?_) (fun h7 => ?_)
    · refine ev_iconst_0 dX10_in_14 ?_
      exact ev_zret (b2i_nar _) dX10_in_15 (by simp_all [inB, b2i]) rfl
    · refine ev_iconst_1 dX10_in_10 ?_
      refine ev_goto (tgt := 15) dX10_in_11 (by decide) ?_
      exact ev_zret (b2i_nar _) dX10_in_15 (by simp_all [inB, b2i]) rfl
set_option maxRecDepth 100000 in
set_option maxHeartbeats 4000000 in
theorem c_typeAt {ae ad : Nat → Nat} {sh : mSh} {σ : mSt} {t : Nat} : Ct yX10_typeAt cX10_typeAt 1 (some .int) 0 0 0 [.int (nI t)] ae ad sh σ (mEq (some (.int (nI (58 + 21 * t)))) ad sh σ) := by
  refine Ct.ofL (own := RX10) (ini := false) (ls := [some (.int (nI t))]) (by decide +kernel) rfl (fun h => by cases h) (Nat.le_of_ble_eq_true rfl) rfl ?_
  refine ev_bipush_58 dX10_typeAt_0 ?_
  refine ev_bipush_21 dX10_typeAt_2 ?_
  refine ev_iload_0 dX10_typeAt_4 ?_
  refine ev_imul dX10_typeAt_5 ?_
  rw [show (21 : Int32) * nI t = nI (21 * t) from nI_mul (21) (t)]
  refine ev_iadd dX10_typeAt_6 ?_
  rw [show (58 : Int32) + nI (21 * t) = nI (58 + (21 * t)) from nI_add (58) (21 * t)]
  exact ev_iret dX10_typeAt_7 rfl rfl
set_option maxRecDepth 100000 in
set_option maxHeartbeats 4000000 in
theorem c_castleAt {ae ad : Nat → Nat} {sh : mSh} {σ : mSt} {t : Nat} : Ct yX10_castleAt cX10_castleAt 1 (some .int) 0 0 0 [.int (nI t)] ae ad sh σ (mEq (some (.int (nI (184 + 6 * t)))) ad sh σ) := by
  refine Ct.ofL (own := RX10) (ini := false) (ls := [some (.int (nI t))]) (by decide +kernel) rfl (fun h => by cases h) (Nat.le_of_ble_eq_true rfl) rfl ?_
  refine ev_sipush_184 dX10_castleAt_0 ?_
  refine ev_bipush_6 dX10_castleAt_3 ?_
  refine ev_iload_0 dX10_castleAt_5 ?_
  refine ev_imul dX10_castleAt_6 ?_
  rw [show (6 : Int32) * nI t = nI (6 * t) from nI_mul (6) (t)]
  refine ev_iadd dX10_castleAt_7 ?_
  rw [show (184 : Int32) + nI (6 * t) = nI (184 + (6 * t)) from nI_add (184) (6 * t)]
  exact ev_iret dX10_castleAt_8 rfl rfl
set_option maxRecDepth 100000 in
set_option maxHeartbeats 4000000 in
theorem c_mIsType {ae ad : Nat → Nat} {sh : mSh} {σ : mSt} {x : Int32} : Ct yX10_isType cX10_isType 1 (some .boolean) 1 0 0 [.int x] ae ad sh σ (mEq (some (.int (b2i (isTy x)))) ad sh σ) := by
  refine Ct.ofL (own := RX10) (ini := false) (ls := [some (.int x)]) (by decide +kernel) rfl (fun h => by cases h) (Nat.le_of_ble_eq_true rfl) rfl ?_
  refine ev_iload_0 dX10_isType_0 ?_
  refine ev_iconst_0 dX10_isType_1 ?_
  refine ev_iconst_5 dX10_isType_2 ?_
  refine cl_X10_61 c_mIn dX10_isType_3 rfl (Nat.le_of_ble_eq_true rfl) ?_
  exact ev_zret (b2i_nar _) dX10_isType_6 (by rw [inB_ty]) rfl
set_option maxRecDepth 100000 in
set_option maxHeartbeats 4000000 in
theorem c_mSquares {ae ad : Nat → Nat} {sh : mSh} {σ : mSt} (hm : mModel ad sh) {g : Nat → Int32} (hg : σ.1 62 = g) (hG : wfP g) : Ct yX10_squares cX10_squares 1 (some .int) 0 0 0 [.ref (ad 61)] ae ad sh σ (mEq (some (.int (nI (cN g * rN g)))) ad sh σ) := by
  refine Ct.ofL (own := RX10) (ini := false) (ls := [some (.ref (ad 61))]) (by decide +kernel) rfl (fun h => by cases h) (Nat.le_of_ble_eq_true rfl) rfl ?_
  refine ev_aload_0 dX10_squares_0 ?_
  refine gf_X10_11 dX10_squares_1 hm.1 rfl ?_
  refine ev_bipush_53 dX10_squares_4 ?_
  refine ev_ldk (k := 53) hm.2.1 hg rfl (by omega) (by decide) dX10_squares_6 ?_
  refine ev_aload_0 dX10_squares_7 ?_
  refine gf_X10_11 dX10_squares_8 hm.1 rfl ?_
  refine ev_bipush_54 dX10_squares_11 ?_
  refine ev_ldk (k := 54) hm.2.1 hg rfl (by omega) (by decide) dX10_squares_13 ?_
  refine ev_imul dX10_squares_14 ?_
  exact ev_iret dX10_squares_15 (by rw [hG.1.1, hG.2.1.1, nI_mul]) rfl
set_option maxRecDepth 100000 in
set_option maxHeartbeats 4000000 in
theorem c_mIsSq {ae ad : Nat → Nat} {sh : mSh} {σ : mSt} (hm : mModel ad sh) {g : Nat → Int32} (hg : σ.1 62 = g) (hG : wfP g) {q : Int32} : Ct yX10_isSquare cX10_isSquare 2 (some .boolean) 1 0 0 [.ref (ad 61), .int q] ae ad sh σ (mEq (some (.int (b2i (sqB g q)))) ad sh σ) := by
  refine Ct.ofL (own := RX10) (ini := false) (ls := [some (.ref (ad 61)), some (.int q)]) (by decide +kernel) rfl (fun h => by cases h) (Nat.le_of_ble_eq_true rfl) rfl ?_
  refine ev_iload_1 dX10_isSquare_0 ?_
  refine ev_iconst_0 dX10_isSquare_1 ?_
  refine ev_aload_0 dX10_isSquare_2 ?_
  refine cl_X10_65 (c_mSquares hm hg hG) hm.1 dX10_isSquare_3 rfl (Nat.le_of_ble_eq_true rfl) ?_
  refine ev_iconst_1 dX10_isSquare_6 ?_
  refine ev_isub dX10_isSquare_7 ?_
  refine cl_X10_61 c_mIn dX10_isSquare_8 rfl (Nat.le_of_ble_eq_true rfl) ?_
  exact ev_zret (b2i_nar _) dX10_isSquare_11 (by rw [sq_in hG]) rfl
set_option maxRecDepth 100000 in
set_option maxHeartbeats 4000000 in
theorem c_mMan {ae ad : Nat → Nat} {sh : mSh} {σ : mSt} (hm : mModel ad sh) {g : Nat → Int32} (hg : σ.1 62 = g) (hG : wfP g) {q : Nat} (hq : q < 36) : Ct yX10_man cX10_man 2 (some .int) 0 0 0 [.ref (ad 61), .int (nI q)] ae ad sh σ (mEq (some (.int (nI (mN g q) - 1))) ad sh σ) := by
  refine Ct.ofL (own := RX10) (ini := false) (ls := [some (.ref (ad 61)), some (.int (nI q))]) (by decide +kernel) rfl (fun h => by cases h) (Nat.le_of_ble_eq_true rfl) rfl ?_
  refine ev_aload_0 dX10_man_0 ?_
  refine gf_X10_11 dX10_man_1 hm.1 rfl ?_
  refine ev_iconst_1 dX10_man_4 ?_
  refine ev_iload_1 dX10_man_5 ?_
  refine ev_iadd dX10_man_6 ?_
  rw [show (1 : Int32) + nI q = nI (1 + q) from nI_add (1) (q)]
  refine ev_ldk (k := 1 + q) hm.2.1 hg rfl (by omega) (by decide) dX10_man_7 ?_
  refine ev_iconst_1 dX10_man_8 ?_
  refine ev_isub dX10_man_9 ?_
  exact ev_iret dX10_man_10 (by rw [(hG.2.2.1 q hq).1]) rfl
set_option maxRecDepth 100000 in
set_option maxHeartbeats 4000000 in
theorem c_mEmpty {ae ad : Nat → Nat} {sh : mSh} {σ : mSt} (hm : mModel ad sh) {g : Nat → Int32} (hg : σ.1 62 = g) (hG : wfP g) {q : Nat} (hq : q < 36) : Ct yX10_isEmpty cX10_isEmpty 2 (some .boolean) 0 0 0 [.ref (ad 61), .int (nI q)] ae ad sh σ (mEq (some (.int (b2i (!(occG g q))))) ad sh σ) := by
  refine Ct.ofL (own := RX10) (ini := false) (ls := [some (.ref (ad 61)), some (.int (nI q))]) (by decide +kernel) rfl (fun h => by cases h) (Nat.le_of_ble_eq_true rfl) rfl ?_
  refine ev_aload_0 dX10_isEmpty_0 ?_
  refine gf_X10_11 dX10_isEmpty_1 hm.1 rfl ?_
  refine ev_iconst_1 dX10_isEmpty_4 ?_
  refine ev_iload_1 dX10_isEmpty_5 ?_
  refine ev_iadd dX10_isEmpty_6 ?_
  rw [show (1 : Int32) + nI q = nI (1 + q) from nI_add (1) (q)]
  refine ev_ldk (k := 1 + q) hm.2.1 hg rfl (by omega) (by decide) dX10_isEmpty_7 ?_
  refine ev_if_ne (tgt := 15) dX10_isEmpty_8 (by decide) (fun h8 => ?_) (fun h8 => ?_)
  · refine ev_iconst_0 dX10_isEmpty_15 ?_
    have e : occG g q = decide (¬ g (1 + q) = 0) := decide_eq_decide.mpr (by
      have h12 := wf_m hG hq
      have e2 : nI (mN g q) = 0 ↔ mN g q = 0 := nI_eq (b := 0) (by omega) (by decide)
      rw [(hG.2.2.1 q hq).1, e2]
      omega)
    exact ev_zret (b2i_nar _) dX10_isEmpty_16 (by rw [e]; simp_all [b2i]) rfl
  · refine ev_iconst_1 dX10_isEmpty_11 ?_
    refine ev_goto (tgt := 16) dX10_isEmpty_12 (by decide) ?_
    have e : occG g q = decide (¬ g (1 + q) = 0) := decide_eq_decide.mpr (by
      have h12 := wf_m hG hq
      have e2 : nI (mN g q) = 0 ↔ mN g q = 0 := nI_eq (b := 0) (by omega) (by decide)
      rw [(hG.2.2.1 q hq).1, e2]
      omega)
    exact ev_zret (b2i_nar _) dX10_isEmpty_16 (by rw [e]; simp_all [b2i]) rfl
theorem m1_div {m : Nat} (h1 : 1 ≤ m) (h2 : m ≤ 12) : (nI m - 1) / 6 = nI (sdN m) := by
  have h : ∀ m, m ≤ 12 → 1 ≤ m → (nI m - 1) / 6 = nI (sdN m) := by decide +kernel
  exact h m h2 h1
theorem m1_rem {m : Nat} (h1 : 1 ≤ m) (h2 : m ≤ 12) : nI m - 1 - (nI m - 1) / 6 * 6 = nI (tyN m) := by
  have h : ∀ m, m ≤ 12 → 1 ≤ m → nI m - 1 - (nI m - 1) / 6 * 6 = nI (tyN m) := by decide +kernel
  exact h m h2 h1
theorem m1_neg {m : Nat} (h2 : m ≤ 12) : nI m - 1 < 0 ↔ m = 0 := by
  have h : ∀ m, m ≤ 12 → (nI m - 1 < 0 ↔ m = 0) := by decide +kernel
  exact h m h2

set_option maxRecDepth 100000 in
set_option maxHeartbeats 4000000 in
theorem c_mIsOf {ae ad : Nat → Nat} {sh : mSh} {σ : mSt} (hm : mModel ad sh) {g : Nat → Int32} (hg : σ.1 62 = g) (hG : wfP g) {q : Nat} (hq : q < 36) {s : Nat} (hs : s ≤ 1) : Ct yX10_isOf cX10_isOf 3 (some .boolean) 1 0 0 [.ref (ad 61), .int (nI q), .int (nI s)] ae ad sh σ (mEq (some (.int (b2i (isOfG g q s)))) ad sh σ) := by
  refine Ct.ofL (own := RX10) (ini := false) (ls := [some (.ref (ad 61)), some (.int (nI q)), some (.int (nI s))]) (by decide +kernel) rfl (fun h => by cases h) (Nat.le_of_ble_eq_true rfl) rfl ?_
  have h12 := wf_m hG hq
  refine ev_aload_0 dX10_isOf_0 ?_
  refine ev_iload_1 dX10_isOf_1 ?_
  refine cl_X10_69 (c_mMan hm hg hG (q := q) hq) hm.1 dX10_isOf_2 rfl (Nat.le_of_ble_eq_true rfl) ?_
  refine ev_if_lt (tgt := 24) dX10_isOf_5 (by decide) (fun h5 => ?_) (fun h5 => ?_)
  · refine ev_iconst_0 dX10_isOf_24 ?_
    have e0 := m1_neg h12
    exact ev_zret (b2i_nar _) dX10_isOf_25 (by
      by_cases h0 : mN g q = 0
      · have e : isOfG g q s = false := decide_eq_false (by omega)
        rw [e]
        first
        | rfl
        | exact absurd (e0.mpr h0) h5
      · have e1 := m1_div (m := mN g q) (by omega) h12
        have e : isOfG g q s = decide (sdN (mN g q) = s) := decide_eq_decide.mpr ⟨fun z => z.2.2, fun z => ⟨hq, by omega, z⟩⟩
        have hs2 : sdN (mN g q) ≤ 1 := by unfold sdN; split <;> omega
        rw [e]
        first
        | exact absurd (e0.mp h5) h0
        | (rw [e1, nI_eq (by omega) (by omega)] at h17; simp [b2i, h17])) rfl
  · refine ev_aload_0 dX10_isOf_8 ?_
    refine ev_iload_1 dX10_isOf_9 ?_
    refine cl_X10_69 (c_mMan hm hg hG (q := q) hq) hm.1 dX10_isOf_10 rfl (Nat.le_of_ble_eq_true rfl) ?_
    refine ev_bipush_6 dX10_isOf_13 ?_
    refine ev_idiv dX10_isOf_15 (show ¬ (6 : Int32) = 0 by decide) ?_
    refine ev_iload_2 dX10_isOf_16 ?_
    refine ev_icmp_ne (tgt := 24) dX10_isOf_17 (by decide) (fun h17 => ?_) (fun h17 => ?_)
    · refine ev_iconst_0 dX10_isOf_24 ?_
      have e0 := m1_neg h12
      exact ev_zret (b2i_nar _) dX10_isOf_25 (by
        by_cases h0 : mN g q = 0
        · have e : isOfG g q s = false := decide_eq_false (by omega)
          rw [e]
          first
          | rfl
          | exact absurd (e0.mpr h0) h5
        · have e1 := m1_div (m := mN g q) (by omega) h12
          have e : isOfG g q s = decide (sdN (mN g q) = s) := decide_eq_decide.mpr ⟨fun z => z.2.2, fun z => ⟨hq, by omega, z⟩⟩
          have hs2 : sdN (mN g q) ≤ 1 := by unfold sdN; split <;> omega
          rw [e]
          first
          | exact absurd (e0.mp h5) h0
          | (rw [e1, nI_eq (by omega) (by omega)] at h17; simp [b2i, h17])) rfl
    · refine ev_iconst_1 dX10_isOf_20 ?_
      refine ev_goto (tgt := 25) dX10_isOf_21 (by decide) ?_
      have e0 := m1_neg h12
      exact ev_zret (b2i_nar _) dX10_isOf_25 (by
        by_cases h0 : mN g q = 0
        · have e : isOfG g q s = false := decide_eq_false (by omega)
          rw [e]
          first
          | rfl
          | exact absurd (e0.mpr h0) h5
        · have e1 := m1_div (m := mN g q) (by omega) h12
          have e : isOfG g q s = decide (sdN (mN g q) = s) := decide_eq_decide.mpr ⟨fun z => z.2.2, fun z => ⟨hq, by omega, z⟩⟩
          have hs2 : sdN (mN g q) ≤ 1 := by unfold sdN; split <;> omega
          rw [e]
          first
          | exact absurd (e0.mp h5) h0
          | (rw [e1, nI_eq (by omega) (by omega)] at h17; simp [b2i, h17])) rfl
set_option maxRecDepth 100000 in
set_option maxHeartbeats 4000000 in
theorem c_mRow {ae ad : Nat → Nat} {sh : mSh} {σ : mSt} (hm : mModel ad sh) {g : Nat → Int32} (hg : σ.1 62 = g) (hG : wfP g) {q : Nat} (hq : q < 2 ^ 31) : Ct yX10_row cX10_row 2 (some .int) 0 0 0 [.ref (ad 61), .int (nI q)] ae ad sh σ (mEq (some (.int (nI (q / cN g)))) ad sh σ) := by
  refine Ct.ofL (own := RX10) (ini := false) (ls := [some (.ref (ad 61)), some (.int (nI q))]) (by decide +kernel) rfl (fun h => by cases h) (Nat.le_of_ble_eq_true rfl) rfl ?_
  refine ev_iload_1 dX10_row_0 ?_
  refine ev_aload_0 dX10_row_1 ?_
  refine gf_X10_11 dX10_row_2 hm.1 rfl ?_
  refine ev_bipush_53 dX10_row_5 ?_
  refine ev_ldk (k := 53) hm.2.1 hg rfl (by omega) (by decide) dX10_row_7 ?_
  rw [hG.1.1]
  refine ev_idiv dX10_row_8 (nI_ne0 (by have := hG.1.2; omega) (by have := hG.1.2; omega)) ?_
  exact ev_iret dX10_row_9 (nI_div hq (by have := hG.1.2; omega) (by have := hG.1.2; omega)) rfl
set_option maxRecDepth 100000 in
set_option maxHeartbeats 4000000 in
theorem c_mFar {ae ad : Nat → Nat} {sh : mSh} {σ : mSt} (hm : mModel ad sh) {g : Nat → Int32} (hg : σ.1 62 = g) (hG : wfP g) {q s : Nat} (hq : q < 36) (hs : s ≤ 1) : Ct yX10_isFar cX10_isFar 3 (some .boolean) 1 0 0 [.ref (ad 61), .int (nI q), .int (nI s)] ae ad sh σ (mEq (some (.int (b2i (farG g s q)))) ad sh σ) := by
  refine Ct.ofL (own := RX10) (ini := false) (ls := [some (.ref (ad 61)), some (.int (nI q)), some (.int (nI s))]) (by decide +kernel) rfl (fun h => by cases h) (Nat.le_of_ble_eq_true rfl) rfl ?_
  refine ev_aload_0 dX10_isFar_0 ?_
  refine ev_iload_1 dX10_isFar_1 ?_
  refine cl_X10_152 (c_mRow hm hg hG (q := q) (by omega)) hm.1 dX10_isFar_2 rfl (Nat.le_of_ble_eq_true rfl) ?_
  refine ev_iload_2 dX10_isFar_5 ?_
  refine ev_if_ne (tgt := 21) dX10_isFar_6 (by decide) (fun h6 => ?_) (fun h6 => ?_)
  · refine ev_iconst_0 dX10_isFar_21 ?_
    refine ev_icmp_ne (tgt := 29) dX10_isFar_22 (by decide) (fun h22 => ?_) (fun h22 => ?_)
    · refine ev_iconst_0 dX10_isFar_29 ?_
      have hr := hG.2.1.2
      have hd : q / cN g < 2 ^ 31 := Nat.lt_of_le_of_lt (Nat.div_le_self _ _) (by omega)
      exact ev_zret (b2i_nar _) dX10_isFar_30 (by
        unfold farG
        rcases (show s = 0 ∨ s = 1 by omega) with z | z <;> subst z
        · first
          | exact absurd rfl h6
          | (rw [if_pos rfl]; rw [lI1, nI_sub (by omega), nI_eq hd (by omega)] at h22; simp [b2i, h22])
        · first
          | exact absurd h6 (by decide)
          | (rw [if_neg (by decide)]; rw [lI0, nI_eq hd (by omega)] at h22; simp [b2i, h22])) rfl
    · refine ev_iconst_1 dX10_isFar_25 ?_
      refine ev_goto (tgt := 30) dX10_isFar_26 (by decide) ?_
      have hr := hG.2.1.2
      have hd : q / cN g < 2 ^ 31 := Nat.lt_of_le_of_lt (Nat.div_le_self _ _) (by omega)
      exact ev_zret (b2i_nar _) dX10_isFar_30 (by
        unfold farG
        rcases (show s = 0 ∨ s = 1 by omega) with z | z <;> subst z
        · first
          | exact absurd rfl h6
          | (rw [if_pos rfl]; rw [lI1, nI_sub (by omega), nI_eq hd (by omega)] at h22; simp [b2i, h22])
        · first
          | exact absurd h6 (by decide)
          | (rw [if_neg (by decide)]; rw [lI0, nI_eq hd (by omega)] at h22; simp [b2i, h22])) rfl
  · refine ev_aload_0 dX10_isFar_9 ?_
    refine gf_X10_11 dX10_isFar_10 hm.1 rfl ?_
    refine ev_bipush_54 dX10_isFar_13 ?_
    refine ev_ldk (k := 54) hm.2.1 hg rfl (by omega) (by decide) dX10_isFar_15 ?_
    rw [hG.2.1.1]
    refine ev_iconst_1 dX10_isFar_16 ?_
    refine ev_isub dX10_isFar_17 ?_
    refine ev_goto (tgt := 22) dX10_isFar_18 (by decide) ?_
    refine ev_icmp_ne (tgt := 29) dX10_isFar_22 (by decide) (fun h22 => ?_) (fun h22 => ?_)
    · refine ev_iconst_0 dX10_isFar_29 ?_
      have hr := hG.2.1.2
      have hd : q / cN g < 2 ^ 31 := Nat.lt_of_le_of_lt (Nat.div_le_self _ _) (by omega)
      exact ev_zret (b2i_nar _) dX10_isFar_30 (by
        unfold farG
        rcases (show s = 0 ∨ s = 1 by omega) with z | z <;> subst z
        · first
          | exact absurd rfl h6
          | (rw [if_pos rfl]; rw [lI1, nI_sub (by omega), nI_eq hd (by omega)] at h22; simp [b2i, h22])
        · first
          | exact absurd h6 (by decide)
          | (rw [if_neg (by decide)]; rw [lI0, nI_eq hd (by omega)] at h22; simp [b2i, h22])) rfl
    · refine ev_iconst_1 dX10_isFar_25 ?_
      refine ev_goto (tgt := 30) dX10_isFar_26 (by decide) ?_
      have hr := hG.2.1.2
      have hd : q / cN g < 2 ^ 31 := Nat.lt_of_le_of_lt (Nat.div_le_self _ _) (by omega)
      exact ev_zret (b2i_nar _) dX10_isFar_30 (by
        unfold farG
        rcases (show s = 0 ∨ s = 1 by omega) with z | z <;> subst z
        · first
          | exact absurd rfl h6
          | (rw [if_pos rfl]; rw [lI1, nI_sub (by omega), nI_eq hd (by omega)] at h22; simp [b2i, h22])
        · first
          | exact absurd h6 (by decide)
          | (rw [if_neg (by decide)]; rw [lI0, nI_eq hd (by omega)] at h22; simp [b2i, h22])) rfl
set_option maxRecDepth 100000 in
set_option maxHeartbeats 4000000 in
theorem c_mHas {ae ad : Nat → Nat} {sh : mSh} {σ : mSt} {x : Int64} {q : Nat} (hq : q < 64) : Ct yX10_has cX10_has 3 (some .boolean) 0 0 0 [.long x, .int (nI q)] ae ad sh σ (mEq (some (.int (b2i (lb x q)))) ad sh σ) := by
  refine Ct.ofL (own := RX10) (ini := false) (ls := [some (.long x), none, some (.int (nI q))]) (by decide +kernel) rfl (fun h => by cases h) (Nat.le_of_ble_eq_true rfl) rfl ?_
  refine ev_lload_0 dX10_has_0 ?_
  refine ev_iload_2 dX10_has_1 ?_
  refine ev_lshr dX10_has_2 ?_
  refine ev_lconst_1 dX10_has_3 ?_
  refine ev_land dX10_has_4 ?_
  refine ev_lconst_1 dX10_has_5 ?_
  refine ev_lcmp dX10_has_6 ?_
  refine ev_if_ne (tgt := 14) dX10_has_7 (by decide) (fun h7 => ?_) (fun h7 => ?_)
  · refine ev_iconst_0 dX10_has_14 ?_
    exact ev_zret (b2i_nar _) dX10_has_15 (by
      have e := mhas_eq (s := x) hq
      rw [lg_cmp_0] at h7
      by_cases z : lb x q = true
      · rw [z]
        first
        | rfl
        | exact absurd (e.mpr z) h7
      · have z2 : lb x q = false := by cases h : lb x q; rfl; exact absurd h z
        rw [z2]
        first
        | rfl
        | exact absurd (e.mp h7) z) rfl
  · refine ev_iconst_1 dX10_has_10 ?_
    refine ev_goto (tgt := 15) dX10_has_11 (by decide) ?_
    exact ev_zret (b2i_nar _) dX10_has_15 (by
      have e := mhas_eq (s := x) hq
      rw [lg_cmp_0] at h7
      by_cases z : lb x q = true
      · rw [z]
        first
        | rfl
        | exact absurd (e.mpr z) h7
      · have z2 : lb x q = false := by cases h : lb x q; rfl; exact absurd h z
        rw [z2]
        first
        | rfl
        | exact absurd (e.mp h7) z) rfl
set_option maxRecDepth 100000 in
set_option maxHeartbeats 4000000 in
theorem c_mPromo {ae ad : Nat → Nat} {sh : mSh} {σ : mSt} (hm : mModel ad sh) {g : Nat → Int32} (hg : σ.1 62 = g) (hG : wfP g) (hW : wfL g) {t : Nat} (ht : t < 6) : Ct yX10_promotion cX10_promotion 2 (some .int) 1 0 0 [.ref (ad 61), .int (nI t)] ae ad sh σ (mEq (some (.int (nI (proN g t) - 1))) ad sh σ) := by
  refine Ct.ofL (own := RX10) (ini := false) (ls := [some (.ref (ad 61)), some (.int (nI t))]) (by decide +kernel) rfl (fun h => by cases h) (Nat.le_of_ble_eq_true rfl) rfl ?_
  refine ev_aload_0 dX10_promotion_0 ?_
  refine gf_X10_11 dX10_promotion_1 hm.1 rfl ?_
  refine ev_iload_1 dX10_promotion_4 ?_
  refine cl_X10_54 (c_typeAt (t := (t))) dX10_promotion_5 rfl (Nat.le_of_ble_eq_true rfl) ?_
  refine ev_iconst_1 dX10_promotion_8 ?_
  refine ev_iadd dX10_promotion_9 ?_
  rw [show nI (58 + 21 * t) + (1 : Int32) = nI (58 + 21 * t + 1) from nI_add (58 + 21 * t) (1)]
  refine ev_ldk (k := 58 + 21 * t + 1) hm.2.1 hg rfl (by omega) (by decide) dX10_promotion_10 ?_
  refine ev_iconst_1 dX10_promotion_11 ?_
  refine ev_isub dX10_promotion_12 ?_
  exact ev_iret dX10_promotion_13 (by rw [show 58 + 21 * t + 1 = 59 + 21 * t by omega, (hW.2.2.2.1 t ht).1]; rfl) rfl
set_option maxRecDepth 100000 in
set_option maxHeartbeats 4000000 in
theorem c_mArr {ae ad : Nat → Nat} {sh : mSh} {σ : mSt} (hm : mModel ad sh) {g : Nat → Int32} (hg : σ.1 62 = g) (hG : wfP g) (hW : wfL g) {t : Nat} (ht : t < 6) {q s : Nat} (hq : q < 36) (hs : s ≤ 1) : Ct yX10_arrives cX10_arrives 4 (some .int) 2 0 0 [.ref (ad 61), .int (nI t), .int (nI q), .int (nI s)] ae ad sh σ (mEq (some (.int (nI (if 1 ≤ proN g t ∧ farG g s q = true then proN g t - 1 else t)))) ad sh σ) := by
  refine Ct.ofL (own := RX10) (ini := false) (ls := [some (.ref (ad 61)), some (.int (nI t)), some (.int (nI q)), some (.int (nI s))]) (by decide +kernel) rfl (fun h => by cases h) (Nat.le_of_ble_eq_true rfl) rfl ?_
  have h6 := (hW.2.2.2.1 t ht).2
  have e0 : nI (proN g t) - 1 < 0 ↔ proN g t = 0 := pm1 h6
  refine ev_aload_0 dX10_arrives_0 ?_
  refine ev_iload_1 dX10_arrives_1 ?_
  refine cl_X10_193 (c_mPromo hm hg hG hW ht) hm.1 dX10_arrives_2 rfl (Nat.le_of_ble_eq_true rfl) ?_
  refine ev_if_lt (tgt := 25) dX10_arrives_5 (by decide) (fun h5 => ?_) (fun h5 => ?_)
  · refine ev_iload_1 dX10_arrives_25 ?_
    exact ev_iret dX10_arrives_26 (by
      first
      | rw [if_neg (fun z => by have := e0.mp h5; omega)]
      | rw [if_neg (fun z => by rw [z.2] at h14; exact absurd h14 (by decide))]
      | (have h1 : 1 ≤ proN g t := Nat.pos_of_ne_zero (fun z => h5 (e0.mpr z))
         rw [if_pos ⟨h1, b2i_t h14⟩, lI1, nI_sub h1])) rfl
  · refine ev_aload_0 dX10_arrives_8 ?_
    refine ev_iload_2 dX10_arrives_9 ?_
    refine ev_iload_3 dX10_arrives_10 ?_
    refine cl_X10_196 (c_mFar hm hg hG hq hs) hm.1 dX10_arrives_11 rfl (Nat.le_of_ble_eq_true rfl) ?_
    refine ev_if_eq (tgt := 25) dX10_arrives_14 (by decide) (fun h14 => ?_) (fun h14 => ?_)
    · refine ev_iload_1 dX10_arrives_25 ?_
      exact ev_iret dX10_arrives_26 (by
        first
        | rw [if_neg (fun z => by have := e0.mp h5; omega)]
        | rw [if_neg (fun z => by rw [z.2] at h14; exact absurd h14 (by decide))]
        | (have h1 : 1 ≤ proN g t := Nat.pos_of_ne_zero (fun z => h5 (e0.mpr z))
           rw [if_pos ⟨h1, b2i_t h14⟩, lI1, nI_sub h1])) rfl
    · refine ev_aload_0 dX10_arrives_17 ?_
      refine ev_iload_1 dX10_arrives_18 ?_
      refine cl_X10_193 (c_mPromo hm hg hG hW ht) hm.1 dX10_arrives_19 rfl (Nat.le_of_ble_eq_true rfl) ?_
      refine ev_goto (tgt := 26) dX10_arrives_22 (by decide) ?_
      exact ev_iret dX10_arrives_26 (by
        first
        | rw [if_neg (fun z => by have := e0.mp h5; omega)]
        | rw [if_neg (fun z => by rw [z.2] at h14; exact absurd h14 (by decide))]
        | (have h1 : 1 ≤ proN g t := Nat.pos_of_ne_zero (fun z => h5 (e0.mpr z))
           rw [if_pos ⟨h1, b2i_t h14⟩, lI1, nI_sub h1])) rfl
