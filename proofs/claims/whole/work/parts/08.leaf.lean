theorem bt_nI {k i : Nat} (hi : i < 32) : bt (nI k) i = k.testBit i := by
  show (BitVec.ofNat 32 k).getLsbD i = _
  rw [BitVec.getLsbD_ofNat]
  simp [hi]
theorem nI_shr {m n : Nat} (hm : m < 2 ^ 31) (hn : n < 32) : nI m >>> (nI n &&& 31) = nI (m / 2 ^ n) := by
  refine b_ext fun i hi => ?_
  rw [b_sshr n hn _ hi, bt_nI hi, Nat.testBit_div_two_pow]
  by_cases h : n + i < 32
  · rw [if_pos h, bt_nI h, Nat.add_comm]
  · rw [if_neg h, bt_nI (by decide), Nat.testBit_lt_two_pow hm, Nat.testBit_lt_two_pow]
    exact Nat.lt_of_lt_of_le hm (Nat.pow_le_pow_right (by decide) (by omega))
theorem nI_shl (m : Nat) {n : Nat} (hn : n < 32) : nI m <<< (nI n &&& 31) = nI (m * 2 ^ n) := by
  refine b_ext fun i hi => ?_
  rw [b_shl n hn _ hi, bt_nI hi, Nat.testBit_mul_two_pow]
  by_cases h : n ≤ i
  · simp [h, bt_nI (show i - n < 32 by omega)]
  · simp [h]
theorem nI_mul (a b : Nat) : nI a * nI b = nI (a * b) := (Int32.ofNat_mul a b).symm
theorem nI_sub {a b : Nat} (h : b ≤ a) : nI a - nI b = nI (a - b) := by
  have e : nI a = nI (a - b) + nI b := by rw [nI_add]; congr 1; omega
  rw [e]
  exact Int32.add_sub_cancel _ _
def hasR (s : Int64) (q : Int32) : Bool := decide (¬ lg_cmp ((s.toUInt64 >>> (q.toInt64.toUInt64 &&& Int64.toUInt64 63)).toInt64 &&& 1) 0 = 0)
def lb (s : Int64) (k : Nat) : Bool := s.toBitVec.getLsbD k
theorem lg_cmp_0 (x y : Int64) : lg_cmp x y = 0 ↔ x = y := by
  unfold lg_cmp
  split
  · rename_i h
    have : x ≠ y := fun e => by
      rw [e] at h
      exact absurd h (by simp [Int64.lt_iff_toInt_lt])
    simp [this]
  · split <;> simp_all
theorem hasR_nI {s : Int64} {k : Nat} (hk : k < 64) : hasR s (nI k) = lb s k := by
  have h := ts_bit (w := s) (s := (nI k).toInt64.toUInt64 &&& Int64.toUInt64 63) (j := k) hk (by rw [wb_cu k hk]; exact u_tn (by omega))
  unfold hasR lb
  cases hx : s.toBitVec.getLsbD k with
  | false => exact decide_eq_false (fun g => g ((lg_cmp_0 _ _).mpr (h.mpr hx)))
  | true =>
    refine decide_eq_true (fun g => ?_)
    rw [h.mp ((lg_cmp_0 _ _).mp g)] at hx
    cases hx
def isLen (x : Int32) : Bool := decide (¬ x < 2 ∧ ¬ 6 < x)
def isTy (x : Int32) : Bool := decide (¬ x < 0 ∧ ¬ 6 ≤ x)
def isBt (x : Int32) : Bool := decide (x = 0 ∨ x = 1)
def manR (s t : Int32) : Int32 := 1 + t + 6 * s
def tyR (x : Int32) : Int32 := if x ≤ 6 then x - 1 else x - 1 - 6
def sdR (x : Int32) : Int32 := if x ≤ 6 then 0 else 1
def leR (x : Int32) : Int32 := (if sdR x = 0 then 65 else 97) + tyR x
def mlR (x : Int32) : Int32 := if isTy (x - 65) then manR 0 (x - 65) else if isTy (x - 97) then manR 1 (x - 97) else 0
def coR (a b c : Int32) : Int32 := a <<< (12 &&& 31) ||| b <<< (6 &&& 31) ||| c
def kiR (x : Int32) : Int32 := x >>> (12 &&& 31)
def fiR (x : Int32) : Int32 := x >>> (6 &&& 31) &&& 63
def seR (x : Int32) : Int32 := x &&& 63
def setV (f : Nat → Int32) (len : Nat) (i x : Int32) : Nat → Int32 := if i < 0 ∨ len ≤ i.toNatClampNeg then f else upd f i.toNatClampNeg x

set_option maxRecDepth 100000 in
set_option maxHeartbeats 4000000 in
theorem c_cell {ae ad : Nat → Nat} {sh : mSh} {σ : mSt} {q len : Nat} {i : Int32} (hq : sh[q]? = some (.inl len)) (hl : len < 2 ^ 31) : Ct yX9_cell cX9_cell 2 (some .int) 0 0 0 [.ref (ad q), .int i] ae ad sh σ (mEq (some (.int (cellV (σ.1 q) len i))) ad sh σ) := by
  refine Ct.ofL (own := RX9) (ini := false) (ls := [some (.ref (ad q)), some (.int i)]) (by decide +kernel) rfl (fun h => by cases h) (Nat.le_of_ble_eq_true rfl) rfl ?_
  refine ev_iload_1 dX9_cell_0 ?_
  refine ev_if_lt (tgt := 16) dX9_cell_1 (by decide) (fun h1 => ?_) (fun h1 => ?_)
  · refine ev_iconst_0 dX9_cell_16 ?_
    exact ev_iret dX9_cell_17 (by first | exact (if_neg (vp_of hl h1 h7)).symm | exact (if_pos (vp_not hl h1 h7)).symm | exact (if_pos (Or.inl h1)).symm) rfl
  · refine ev_iload_1 dX9_cell_4 ?_
    refine ev_aload_0 dX9_cell_5 ?_
    refine ev_alen hq rfl dX9_cell_6 ?_
    refine ev_icmp_ge (tgt := 16) dX9_cell_7 (by decide) (fun h7 => ?_) (fun h7 => ?_)
    · refine ev_iconst_0 dX9_cell_16 ?_
      exact ev_iret dX9_cell_17 (by first | exact (if_neg (vp_of hl h1 h7)).symm | exact (if_pos (vp_not hl h1 h7)).symm | exact (if_pos (Or.inl h1)).symm) rfl
    · refine ev_aload_0 dX9_cell_10 ?_
      refine ev_iload_1 dX9_cell_11 ?_
      refine ev_iald hq (vp_of hl h1 h7) dX9_cell_12 ?_
      refine ev_goto (tgt := 17) dX9_cell_13 (by decide) ?_
      exact ev_iret dX9_cell_17 (by first | exact (if_neg (vp_of hl h1 h7)).symm | exact (if_pos (vp_not hl h1 h7)).symm | exact (if_pos (Or.inl h1)).symm) rfl
set_option maxRecDepth 100000 in
set_option maxHeartbeats 4000000 in
theorem c_cellT {ae ad : Nat → Nat} {sh : mSh} {σ : mSt} {j : Nat} {i : Int32} (hj : j < 4) (hl : (mTab j).length < 2 ^ 31) : Ct yX9_cell cX9_cell 2 (some .int) 0 0 0 [.ref (ae j), .int i] ae ad sh σ (mEq (some (.int (cellV (fun k => (mTab j).getD k 0) (mTab j).length i))) ad sh σ) := by
  refine Ct.ofL (own := RX9) (ini := false) (ls := [some (.ref (ae j)), some (.int i)]) (by decide +kernel) rfl (fun h => by cases h) (Nat.le_of_ble_eq_true rfl) rfl ?_
  refine ev_iload_1 dX9_cell_0 ?_
  refine ev_if_lt (tgt := 16) dX9_cell_1 (by decide) (fun h1 => ?_) (fun h1 => ?_)
  · refine ev_iconst_0 dX9_cell_16 ?_
    exact ev_iret dX9_cell_17 (by first | exact (if_neg (vp_of hl h1 h7)).symm | exact (if_pos (vp_not hl h1 h7)).symm | exact (if_pos (Or.inl h1)).symm) rfl
  · refine ev_iload_1 dX9_cell_4 ?_
    refine ev_aload_0 dX9_cell_5 ?_
    refine ev_tlen hj rfl dX9_cell_6 ?_
    refine ev_icmp_ge (tgt := 16) dX9_cell_7 (by decide) (fun h7 => ?_) (fun h7 => ?_)
    · refine ev_iconst_0 dX9_cell_16 ?_
      exact ev_iret dX9_cell_17 (by first | exact (if_neg (vp_of hl h1 h7)).symm | exact (if_pos (vp_not hl h1 h7)).symm | exact (if_pos (Or.inl h1)).symm) rfl
    · refine ev_aload_0 dX9_cell_10 ?_
      refine ev_iload_1 dX9_cell_11 ?_
      refine ev_tald hj (vp_of hl h1 h7) dX9_cell_12 ?_
      refine ev_goto (tgt := 17) dX9_cell_13 (by decide) ?_
      exact ev_iret dX9_cell_17 (by first | exact (if_neg (vp_of hl h1 h7)).symm | exact (if_pos (vp_not hl h1 h7)).symm | exact (if_pos (Or.inl h1)).symm) rfl
set_option maxRecDepth 100000 in
set_option maxHeartbeats 4000000 in
theorem c_setCell {ae ad : Nat → Nat} {sh : mSh} {σ : mSt} {q len : Nat} {i x : Int32} (hq : sh[q]? = some (.inl len)) (hl : len < 2 ^ 31) : Ct yX9_setCell cX9_setCell 3 none 0 0 0 [.ref (ad q), .int i, .int x] ae ad sh σ (mEq none ad sh (mr σ.1 q (setV (σ.1 q) len i x), σ.2)) := by
  refine Ct.ofL (own := RX9) (ini := false) (ls := [some (.ref (ad q)), some (.int i), some (.int x)]) (by decide +kernel) rfl (fun h => by cases h) (Nat.le_of_ble_eq_true rfl) rfl ?_
  refine ev_iload_1 dX9_setCell_0 ?_
  refine ev_if_lt (tgt := 14) dX9_setCell_1 (by decide) (fun h1 => ?_) (fun h1 => ?_)
  · exact ev_vret dX9_setCell_14 (by first | (rw [setV, if_neg (vp_of hl h1 h7)]; rfl) | (rw [setV, if_pos (vp_not hl h1 h7), mr_self]) | (rw [setV, if_pos (Or.inl h1), mr_self]))
  · refine ev_iload_1 dX9_setCell_4 ?_
    refine ev_aload_0 dX9_setCell_5 ?_
    refine ev_alen hq rfl dX9_setCell_6 ?_
    refine ev_icmp_ge (tgt := 14) dX9_setCell_7 (by decide) (fun h7 => ?_) (fun h7 => ?_)
    · exact ev_vret dX9_setCell_14 (by first | (rw [setV, if_neg (vp_of hl h1 h7)]; rfl) | (rw [setV, if_pos (vp_not hl h1 h7), mr_self]) | (rw [setV, if_pos (Or.inl h1), mr_self]))
    · refine ev_aload_0 dX9_setCell_10 ?_
      refine ev_iload_1 dX9_setCell_11 ?_
      refine ev_iload_2 dX9_setCell_12 ?_
      refine ev_iast hq (vp_of hl h1 h7) dX9_setCell_13 ?_
      exact ev_vret dX9_setCell_14 (by first | (rw [setV, if_neg (vp_of hl h1 h7)]; rfl) | (rw [setV, if_pos (vp_not hl h1 h7), mr_self]) | (rw [setV, if_pos (Or.inl h1), mr_self]))
set_option maxRecDepth 100000 in
set_option maxHeartbeats 4000000 in
theorem c_has {ae ad : Nat → Nat} {sh : mSh} {σ : mSt} {s : Int64} {q : Int32} : Ct yX9_has cX9_has 3 (some .boolean) 0 0 0 [.long s, .int q] ae ad sh σ (mEq (some (.int (b2i (hasR s q)))) ad sh σ) := by
  refine Ct.ofL (own := RX9) (ini := false) (ls := [some (.long s), none, some (.int q)]) (by decide +kernel) rfl (fun h => by cases h) (Nat.le_of_ble_eq_true rfl) rfl ?_
  refine ev_lload_0 dX9_has_0 ?_
  refine ev_iload_2 dX9_has_1 ?_
  refine ev_lushr dX9_has_2 ?_
  refine ev_lconst_1 dX9_has_3 ?_
  refine ev_land dX9_has_4 ?_
  refine ev_lconst_0 dX9_has_5 ?_
  refine ev_lcmp dX9_has_6 ?_
  refine ev_if_eq (tgt := 14) dX9_has_7 (by decide) (fun h7 => ?_) (fun h7 => ?_)
  · refine ev_iconst_0 dX9_has_14 ?_
    exact ev_zret (b2i_nar _) dX9_has_15 (by simp [b2i, hasR, *]) rfl
  · refine ev_iconst_1 dX9_has_10 ?_
    refine ev_goto (tgt := 15) dX9_has_11 (by decide) ?_
    exact ev_zret (b2i_nar _) dX9_has_15 (by simp [b2i, hasR, *]) rfl
set_option maxRecDepth 100000 in
set_option maxHeartbeats 4000000 in
theorem c_isLength {ae ad : Nat → Nat} {sh : mSh} {σ : mSt} {x : Int32} : Ct yX9_isLength cX9_isLength 1 (some .boolean) 0 0 0 [.int x] ae ad sh σ (mEq (some (.int (b2i (isLen x)))) ad sh σ) := by
  refine Ct.ofL (own := RX9) (ini := false) (ls := [some (.int x)]) (by decide +kernel) rfl (fun h => by cases h) (Nat.le_of_ble_eq_true rfl) rfl ?_
  refine ev_iload_0 dX9_isLength_0 ?_
  refine ev_iconst_2 dX9_isLength_1 ?_
  refine ev_icmp_lt (tgt := 15) dX9_isLength_2 (by decide) (fun h2 => ?_) (fun h2 => ?_)
  · refine ev_iconst_0 dX9_isLength_15 ?_
    exact ev_zret (b2i_nar _) dX9_isLength_16 (by simp [b2i, isLen, *]) rfl
  · refine ev_iload_0 dX9_isLength_5 ?_
    refine ev_bipush_6 dX9_isLength_6 ?_
    refine ev_icmp_gt (tgt := 15) dX9_isLength_8 (by decide) (fun h8 => ?_) (fun h8 => ?_)
    · refine ev_iconst_0 dX9_isLength_15 ?_
      exact ev_zret (b2i_nar _) dX9_isLength_16 (by simp [b2i, isLen, *]) rfl
    · refine ev_iconst_1 dX9_isLength_11 ?_
      refine ev_goto (tgt := 16) dX9_isLength_12 (by decide) ?_
      exact ev_zret (b2i_nar _) dX9_isLength_16 (by simp [b2i, isLen, *]) rfl
set_option maxRecDepth 100000 in
set_option maxHeartbeats 4000000 in
theorem c_isType {ae ad : Nat → Nat} {sh : mSh} {σ : mSt} {x : Int32} : Ct yX9_isType cX9_isType 1 (some .boolean) 0 0 0 [.int x] ae ad sh σ (mEq (some (.int (b2i (isTy x)))) ad sh σ) := by
  refine Ct.ofL (own := RX9) (ini := false) (ls := [some (.int x)]) (by decide +kernel) rfl (fun h => by cases h) (Nat.le_of_ble_eq_true rfl) rfl ?_
  refine ev_iload_0 dX9_isType_0 ?_
  refine ev_if_lt (tgt := 14) dX9_isType_1 (by decide) (fun h1 => ?_) (fun h1 => ?_)
  · refine ev_iconst_0 dX9_isType_14 ?_
    exact ev_zret (b2i_nar _) dX9_isType_15 (by simp [b2i, isTy, *]) rfl
  · refine ev_iload_0 dX9_isType_4 ?_
    refine ev_bipush_6 dX9_isType_5 ?_
    refine ev_icmp_ge (tgt := 14) dX9_isType_7 (by decide) (fun h7 => ?_) (fun h7 => ?_)
    · refine ev_iconst_0 dX9_isType_14 ?_
      exact ev_zret (b2i_nar _) dX9_isType_15 (by simp [b2i, isTy, *]) rfl
    · refine ev_iconst_1 dX9_isType_10 ?_
      refine ev_goto (tgt := 15) dX9_isType_11 (by decide) ?_
      exact ev_zret (b2i_nar _) dX9_isType_15 (by simp [b2i, isTy, *]) rfl
set_option maxRecDepth 100000 in
set_option maxHeartbeats 4000000 in
theorem c_isBit {ae ad : Nat → Nat} {sh : mSh} {σ : mSt} {x : Int32} : Ct yX9_isBit cX9_isBit 1 (some .boolean) 0 0 0 [.int x] ae ad sh σ (mEq (some (.int (b2i (isBt x)))) ad sh σ) := by
  refine Ct.ofL (own := RX9) (ini := false) (ls := [some (.int x)]) (by decide +kernel) rfl (fun h => by cases h) (Nat.le_of_ble_eq_true rfl) rfl ?_
  refine ev_iload_0 dX9_isBit_0 ?_
  refine ev_if_eq (tgt := 9) dX9_isBit_1 (by decide) (fun h1 => ?_) (fun h1 => ?_)
  · refine ev_iconst_1 dX9_isBit_9 ?_
    refine ev_goto (tgt := 14) dX9_isBit_10 (by decide) ?_
    exact ev_zret (b2i_nar _) dX9_isBit_14 (by simp [b2i, isBt, *]) rfl
  · refine ev_iload_0 dX9_isBit_4 ?_
    refine ev_iconst_1 dX9_isBit_5 ?_
    refine ev_icmp_ne (tgt := 13) dX9_isBit_6 (by decide) (fun h6 => ?_) (fun h6 => ?_)
    · refine ev_iconst_0 dX9_isBit_13 ?_
      exact ev_zret (b2i_nar _) dX9_isBit_14 (by simp [b2i, isBt, *]) rfl
    · refine ev_iconst_1 dX9_isBit_9 ?_
      refine ev_goto (tgt := 14) dX9_isBit_10 (by decide) ?_
      exact ev_zret (b2i_nar _) dX9_isBit_14 (by simp [b2i, isBt, *]) rfl
set_option maxRecDepth 100000 in
set_option maxHeartbeats 4000000 in
theorem c_manOf {ae ad : Nat → Nat} {sh : mSh} {σ : mSt} {s t : Int32} : Ct yX9_manOf cX9_manOf 2 (some .int) 0 0 0 [.int s, .int t] ae ad sh σ (mEq (some (.int (manR s t))) ad sh σ) := by
  refine Ct.ofL (own := RX9) (ini := false) (ls := [some (.int s), some (.int t)]) (by decide +kernel) rfl (fun h => by cases h) (Nat.le_of_ble_eq_true rfl) rfl ?_
  refine ev_iconst_1 dX9_manOf_0 ?_
  refine ev_iload_1 dX9_manOf_1 ?_
  refine ev_iadd dX9_manOf_2 ?_
  refine ev_bipush_6 dX9_manOf_3 ?_
  refine ev_iload_0 dX9_manOf_5 ?_
  refine ev_imul dX9_manOf_6 ?_
  refine ev_iadd dX9_manOf_7 ?_
  exact ev_iret dX9_manOf_8 rfl rfl
set_option maxRecDepth 100000 in
set_option maxHeartbeats 4000000 in
theorem c_typeOf {ae ad : Nat → Nat} {sh : mSh} {σ : mSt} {x : Int32} : Ct yX9_typeOf cX9_typeOf 1 (some .int) 0 0 0 [.int x] ae ad sh σ (mEq (some (.int (tyR x))) ad sh σ) := by
  refine Ct.ofL (own := RX9) (ini := false) (ls := [some (.int x)]) (by decide +kernel) rfl (fun h => by cases h) (Nat.le_of_ble_eq_true rfl) rfl ?_
  refine ev_iload_0 dX9_typeOf_0 ?_
  refine ev_bipush_6 dX9_typeOf_1 ?_
  refine ev_icmp_le (tgt := 15) dX9_typeOf_3 (by decide) (fun h3 => ?_) (fun h3 => ?_)
  · refine ev_iload_0 dX9_typeOf_15 ?_
    refine ev_iconst_1 dX9_typeOf_16 ?_
    refine ev_isub dX9_typeOf_17 ?_
    exact ev_iret dX9_typeOf_18 (by simp [tyR, *]) rfl
  · refine ev_iload_0 dX9_typeOf_6 ?_
    refine ev_iconst_1 dX9_typeOf_7 ?_
    refine ev_isub dX9_typeOf_8 ?_
    refine ev_bipush_6 dX9_typeOf_9 ?_
    refine ev_isub dX9_typeOf_11 ?_
    refine ev_goto (tgt := 18) dX9_typeOf_12 (by decide) ?_
    exact ev_iret dX9_typeOf_18 (by simp [tyR, *]) rfl
set_option maxRecDepth 100000 in
set_option maxHeartbeats 4000000 in
theorem c_sideOf {ae ad : Nat → Nat} {sh : mSh} {σ : mSt} {x : Int32} : Ct yX9_sideOf cX9_sideOf 1 (some .int) 0 0 0 [.int x] ae ad sh σ (mEq (some (.int (sdR x))) ad sh σ) := by
  refine Ct.ofL (own := RX9) (ini := false) (ls := [some (.int x)]) (by decide +kernel) rfl (fun h => by cases h) (Nat.le_of_ble_eq_true rfl) rfl ?_
  refine ev_iload_0 dX9_sideOf_0 ?_
  refine ev_bipush_6 dX9_sideOf_1 ?_
  refine ev_icmp_le (tgt := 10) dX9_sideOf_3 (by decide) (fun h3 => ?_) (fun h3 => ?_)
  · refine ev_iconst_0 dX9_sideOf_10 ?_
    exact ev_iret dX9_sideOf_11 (by simp [sdR, *]) rfl
  · refine ev_iconst_1 dX9_sideOf_6 ?_
    refine ev_goto (tgt := 11) dX9_sideOf_7 (by decide) ?_
    exact ev_iret dX9_sideOf_11 (by simp [sdR, *]) rfl
set_option maxRecDepth 100000 in
set_option maxHeartbeats 4000000 in
theorem c_letterOf {ae ad : Nat → Nat} {sh : mSh} {σ : mSt} {x : Int32} : Ct yX9_letterOf cX9_letterOf 1 (some .int) 1 0 0 [.int x] ae ad sh σ (mEq (some (.int (leR x))) ad sh σ) := by
  refine Ct.ofL (own := RX9) (ini := false) (ls := [some (.int x)]) (by decide +kernel) rfl (fun h => by cases h) (Nat.le_of_ble_eq_true rfl) rfl ?_
  refine ev_iload_0 dX9_letterOf_0 ?_
  refine cl_X9_398 c_sideOf dX9_letterOf_1 rfl (by decide) ?_
  refine ev_if_ne (tgt := 12) dX9_letterOf_4 (by decide) (fun h4 => ?_) (fun h4 => ?_)
  · refine ev_bipush_97 dX9_letterOf_12 ?_
    refine ev_iload_0 dX9_letterOf_14 ?_
    refine cl_X9_226 c_typeOf dX9_letterOf_15 rfl (by decide) ?_
    refine ev_iadd dX9_letterOf_18 ?_
    exact ev_iret dX9_letterOf_19 (by simp [leR, *]) rfl
  · refine ev_bipush_65 dX9_letterOf_7 ?_
    refine ev_goto (tgt := 14) dX9_letterOf_9 (by decide) ?_
    refine ev_iload_0 dX9_letterOf_14 ?_
    refine cl_X9_226 c_typeOf dX9_letterOf_15 rfl (by decide) ?_
    refine ev_iadd dX9_letterOf_18 ?_
    exact ev_iret dX9_letterOf_19 (by simp [leR, *]) rfl
set_option maxRecDepth 100000 in
set_option maxHeartbeats 4000000 in
theorem c_manOfLetter {ae ad : Nat → Nat} {sh : mSh} {σ : mSt} {x : Int32} : Ct yX9_manOfLetter cX9_manOfLetter 1 (some .int) 1 0 0 [.int x] ae ad sh σ (mEq (some (.int (mlR x))) ad sh σ) := by
  refine Ct.ofL (own := RX9) (ini := false) (ls := [some (.int x)]) (by decide +kernel) rfl (fun h => by cases h) (Nat.le_of_ble_eq_true rfl) rfl ?_
  refine ev_iload_0 dX9_manOfLetter_0 ?_
  refine ev_bipush_65 dX9_manOfLetter_1 ?_
  refine ev_isub dX9_manOfLetter_3 ?_
  refine cl_X9_109 c_isType dX9_manOfLetter_4 rfl (by decide) ?_
  refine ev_if_eq (tgt := 19) dX9_manOfLetter_7 (by decide) (fun h7 => ?_) (fun h7 => ?_)
  · refine ev_iload_0 dX9_manOfLetter_19 ?_
    refine ev_bipush_97 dX9_manOfLetter_20 ?_
    refine ev_isub dX9_manOfLetter_22 ?_
    refine cl_X9_109 c_isType dX9_manOfLetter_23 rfl (by decide) ?_
    refine ev_if_eq (tgt := 40) dX9_manOfLetter_26 (by decide) (fun h26 => ?_) (fun h26 => ?_)
    · refine ev_iconst_0 dX9_manOfLetter_40 ?_
      exact ev_iret dX9_manOfLetter_41 (by simp_all [mlR, b2i_0]) rfl
    · refine ev_iconst_1 dX9_manOfLetter_29 ?_
      refine ev_iload_0 dX9_manOfLetter_30 ?_
      refine ev_bipush_97 dX9_manOfLetter_31 ?_
      refine ev_isub dX9_manOfLetter_33 ?_
      refine cl_X9_366 c_manOf dX9_manOfLetter_34 rfl (by decide) ?_
      refine ev_goto (tgt := 41) dX9_manOfLetter_37 (by decide) ?_
      exact ev_iret dX9_manOfLetter_41 (by simp_all [mlR, b2i_0]) rfl
  · refine ev_iconst_0 dX9_manOfLetter_10 ?_
    refine ev_iload_0 dX9_manOfLetter_11 ?_
    refine ev_bipush_65 dX9_manOfLetter_12 ?_
    refine ev_isub dX9_manOfLetter_14 ?_
    refine cl_X9_366 c_manOf dX9_manOfLetter_15 rfl (by decide) ?_
    exact ev_iret dX9_manOfLetter_18 (by simp_all [mlR, b2i_0]) rfl
set_option maxRecDepth 100000 in
set_option maxHeartbeats 4000000 in
theorem c_coded {ae ad : Nat → Nat} {sh : mSh} {σ : mSt} {x y z : Int32} : Ct yX9_coded cX9_coded 3 (some .int) 0 0 0 [.int x, .int y, .int z] ae ad sh σ (mEq (some (.int (coR x y z))) ad sh σ) := by
  refine Ct.ofL (own := RX9) (ini := false) (ls := [some (.int x), some (.int y), some (.int z)]) (by decide +kernel) rfl (fun h => by cases h) (Nat.le_of_ble_eq_true rfl) rfl ?_
  refine ev_iload_0 dX9_coded_0 ?_
  refine ev_bipush_12 dX9_coded_1 ?_
  refine ev_ishl dX9_coded_3 ?_
  refine ev_iload_1 dX9_coded_4 ?_
  refine ev_bipush_6 dX9_coded_5 ?_
  refine ev_ishl dX9_coded_7 ?_
  refine ev_ior dX9_coded_8 ?_
  refine ev_iload_2 dX9_coded_9 ?_
  refine ev_ior dX9_coded_10 ?_
  exact ev_iret dX9_coded_11 rfl rfl
set_option maxRecDepth 100000 in
set_option maxHeartbeats 4000000 in
theorem c_kindOf {ae ad : Nat → Nat} {sh : mSh} {σ : mSt} {x : Int32} : Ct yX9_kindOf cX9_kindOf 1 (some .int) 0 0 0 [.int x] ae ad sh σ (mEq (some (.int (kiR x))) ad sh σ) := by
  refine Ct.ofL (own := RX9) (ini := false) (ls := [some (.int x)]) (by decide +kernel) rfl (fun h => by cases h) (Nat.le_of_ble_eq_true rfl) rfl ?_
  refine ev_iload_0 dX9_kindOf_0 ?_
  refine ev_bipush_12 dX9_kindOf_1 ?_
  refine ev_ishr dX9_kindOf_3 ?_
  exact ev_iret dX9_kindOf_4 rfl rfl
set_option maxRecDepth 100000 in
set_option maxHeartbeats 4000000 in
theorem c_firstOf {ae ad : Nat → Nat} {sh : mSh} {σ : mSt} {x : Int32} : Ct yX9_firstOf cX9_firstOf 1 (some .int) 0 0 0 [.int x] ae ad sh σ (mEq (some (.int (fiR x))) ad sh σ) := by
  refine Ct.ofL (own := RX9) (ini := false) (ls := [some (.int x)]) (by decide +kernel) rfl (fun h => by cases h) (Nat.le_of_ble_eq_true rfl) rfl ?_
  refine ev_iload_0 dX9_firstOf_0 ?_
  refine ev_bipush_6 dX9_firstOf_1 ?_
  refine ev_ishr dX9_firstOf_3 ?_
  refine ev_bipush_63 dX9_firstOf_4 ?_
  refine ev_iand dX9_firstOf_6 ?_
  exact ev_iret dX9_firstOf_7 rfl rfl
set_option maxRecDepth 100000 in
set_option maxHeartbeats 4000000 in
theorem c_secondOf {ae ad : Nat → Nat} {sh : mSh} {σ : mSt} {x : Int32} : Ct yX9_secondOf cX9_secondOf 1 (some .int) 0 0 0 [.int x] ae ad sh σ (mEq (some (.int (seR x))) ad sh σ) := by
  refine Ct.ofL (own := RX9) (ini := false) (ls := [some (.int x)]) (by decide +kernel) rfl (fun h => by cases h) (Nat.le_of_ble_eq_true rfl) rfl ?_
  refine ev_iload_0 dX9_secondOf_0 ?_
  refine ev_bipush_63 dX9_secondOf_1 ?_
  refine ev_iand dX9_secondOf_3 ?_
  exact ev_iret dX9_secondOf_4 rfl rfl
set_option maxRecDepth 100000 in
set_option maxHeartbeats 4000000 in
theorem c_fill_2 {ae ad : Nat → Nat} {sh : mSh} {σ : mSt} {q len : Nat} {v : Int32} (hq : sh[q]? = some (.inl len)) (hl : len < 2 ^ 31) : ∀ (n i : Nat), len - i = n → i ≤ len → Ev RX9 cX9_fill 3 false none (mRm 0 0 0) ae (mEq none ad sh (mr σ.1 q (fa_fill (fun _ => v) (σ.1 q) len), σ.2)) 2 [some (.ref (ad q)), some (.int v), some (.int (nI i))] [] 0 0 ad sh (mr σ.1 q (fa_fill (fun _ => v) (σ.1 q) i), σ.2) := by
  intro n
  induction n with
  | zero =>
    intro i hn hi
    have e : i = len := by omega
    subst e
    refine ev_iload_2 dX9_fill_2 ?_
    refine ev_aload_0 dX9_fill_3 ?_
    refine ev_alen hq rfl dX9_fill_4 ?_
    refine ev_icmp_ge (tgt := 18) dX9_fill_5 (by decide) (fun h5 => ?_) (fun h5 => absurd (Int32.le_refl _) h5)
    exact ev_vret dX9_fill_18 rfl
  | succ n ih =>
    intro i hn hi
    have g5 : ¬ Int32.ofNat len ≤ nI i := nI_ge (by omega) hl
    refine ev_iload_2 dX9_fill_2 ?_
    refine ev_aload_0 dX9_fill_3 ?_
    refine ev_alen hq rfl dX9_fill_4 ?_
    refine ev_icmp_ge (tgt := 18) dX9_fill_5 (by decide) (fun h5 => absurd h5 g5) (fun h5 => ?_)
    refine ev_aload_0 dX9_fill_8 ?_
    refine ev_iload_2 dX9_fill_9 ?_
    refine ev_iload_1 dX9_fill_10 ?_
    refine ev_iast hq (vp_of hl (nI_pos (by omega)) g5) dX9_fill_11 ?_
    refine ev_iinc_2 (v := 1) dX9_fill_12 (by decide) rfl rfl ?_
    refine ev_goto (tgt := 2) dX9_fill_15 (by decide) ?_
    exact Ev.to (by rw [nI_1]) rfl (by rw [mu_mr, nI_clamp (by omega)]; exact congrArg (fun f => (mr σ.1 q f, σ.2)) (fa_fill_succ (fun _ => v) (σ.1 q) i)) (ih (i + 1) (by omega) (by omega))
set_option maxRecDepth 100000 in
set_option maxHeartbeats 4000000 in
theorem c_fill {ae ad : Nat → Nat} {sh : mSh} {σ : mSt} {q len : Nat} {v : Int32} (hq : sh[q]? = some (.inl len)) (hl : len < 2 ^ 31) : Ct yX9_fill cX9_fill 3 none 0 0 0 [.ref (ad q), .int v] ae ad sh σ (mEq none ad sh (mr σ.1 q (fa_fill (fun _ => v) (σ.1 q) len), σ.2)) := by
  refine Ct.ofL (own := RX9) (ini := false) (ls := [some (.ref (ad q)), some (.int v), none]) (by decide +kernel) rfl (fun h => by cases h) (Nat.le_of_ble_eq_true rfl) rfl ?_
  refine ev_iconst_0 dX9_fill_0 ?_
  refine ev_istore_2 dX9_fill_1 rfl rfl ?_
  exact Ev.to rfl rfl (by rw [fa_fill_0, mr_self]) (c_fill_2 hq hl len 0 rfl (Nat.zero_le _))
set_option maxRecDepth 100000 in
set_option maxHeartbeats 4000000 in
theorem c_copy_2 {ae ad : Nat → Nat} {sh : mSh} {σ : mSt} {q1 q2 len : Nat} (h1 : sh[q1]? = some (.inl len)) (h2 : sh[q2]? = some (.inl len)) (hne : q1 ≠ q2) (hl : len < 2 ^ 31) : ∀ (n i : Nat), len - i = n → i ≤ len → Ev RX9 cX9_copy 3 false none (mRm 0 0 0) ae (mEq none ad sh (mr σ.1 q2 (fa_fill (σ.1 q1) (σ.1 q2) len), σ.2)) 2 [some (.ref (ad q1)), some (.ref (ad q2)), some (.int (nI i))] [] 0 0 ad sh (mr σ.1 q2 (fa_fill (σ.1 q1) (σ.1 q2) i), σ.2) := by
  intro n
  induction n with
  | zero =>
    intro i hn hi
    have e : i = len := by omega
    subst e
    refine ev_iload_2 dX9_copy_2 ?_
    refine ev_aload_0 dX9_copy_3 ?_
    refine ev_alen h1 rfl dX9_copy_4 ?_
    refine ev_icmp_ge (tgt := 26) dX9_copy_5 (by decide) (fun h5 => ?_) (fun h5 => absurd (Int32.le_refl _) h5)
    exact ev_vret dX9_copy_26 rfl
  | succ n ih =>
    intro i hn hi
    have g5 : ¬ Int32.ofNat len ≤ nI i := nI_ge (by omega) hl
    refine ev_iload_2 dX9_copy_2 ?_
    refine ev_aload_0 dX9_copy_3 ?_
    refine ev_alen h1 rfl dX9_copy_4 ?_
    refine ev_icmp_ge (tgt := 26) dX9_copy_5 (by decide) (fun h5 => absurd h5 g5) (fun h5 => ?_)
    refine ev_iload_2 dX9_copy_8 ?_
    refine ev_aload_1 dX9_copy_9 ?_
    refine ev_alen h2 rfl dX9_copy_10 ?_
    refine ev_icmp_ge (tgt := 26) dX9_copy_11 (by decide) (fun h11 => absurd h11 g5) (fun h11 => ?_)
    refine ev_aload_1 dX9_copy_14 ?_
    refine ev_iload_2 dX9_copy_15 ?_
    refine ev_aload_0 dX9_copy_16 ?_
    refine ev_iload_2 dX9_copy_17 ?_
    refine ev_iald h1 (vp_of hl (nI_pos (by omega)) g5) dX9_copy_18 ?_
    refine ev_iast h2 (vp_of hl (nI_pos (by omega)) g5) dX9_copy_19 ?_
    refine ev_iinc_2 (v := 1) dX9_copy_20 (by decide) rfl rfl ?_
    refine ev_goto (tgt := 2) dX9_copy_23 (by decide) ?_
    exact Ev.to (by rw [nI_1]) rfl (by dsimp only; rw [mu_mr, nI_clamp (by omega), mr_ne _ _ hne]; exact congrArg (fun f => (mr σ.1 q2 f, σ.2)) (fa_fill_succ (σ.1 q1) (σ.1 q2) i)) (ih (i + 1) (by omega) (by omega))
set_option maxRecDepth 100000 in
set_option maxHeartbeats 4000000 in
theorem c_copy {ae ad : Nat → Nat} {sh : mSh} {σ : mSt} {q1 q2 len : Nat} (h1 : sh[q1]? = some (.inl len)) (h2 : sh[q2]? = some (.inl len)) (hne : q1 ≠ q2) (hl : len < 2 ^ 31) : Ct yX9_copy cX9_copy 3 none 0 0 0 [.ref (ad q1), .ref (ad q2)] ae ad sh σ (mEq none ad sh (mr σ.1 q2 (fa_fill (σ.1 q1) (σ.1 q2) len), σ.2)) := by
  refine Ct.ofL (own := RX9) (ini := false) (ls := [some (.ref (ad q1)), some (.ref (ad q2)), none]) (by decide +kernel) rfl (fun h => by cases h) (Nat.le_of_ble_eq_true rfl) rfl ?_
  refine ev_iconst_0 dX9_copy_0 ?_
  refine ev_istore_2 dX9_copy_1 rfl rfl ?_
  exact Ev.to rfl rfl (by rw [fa_fill_0, mr_self]) (c_copy_2 h1 h2 hne hl len 0 rfl (Nat.zero_le _))
