abbrev fPos (a b : Nat) : List Value := [.ref a, .ref b, .int 0, .int 0, .int 0, .int 0, .long 0, .long 0]
def mPos (ad : Nat → Nat) (sh : mSh) (p : Nat) : Prop := sh[p]? = some (.inr (6, fPos (ad (p + 1)) (ad (p + 2)))) ∧ sh[p + 1]? = some (.inl 36) ∧ sh[p + 2]? = some (.inl 12)
abbrev fLine (a : Nat) : List Value := [.ref a, .int 0]
def mLine (ad : Nat → Nat) (sh : mSh) (p : Nat) : Prop := sh[p]? = some (.inr (2, fLine (ad (p + 1)))) ∧ sh[p + 1]? = some (.inl 60)
def mList (ad : Nat → Nat) (sh : mSh) (p : Nat) : Prop := sh[p]? = some (.inr (3, fLine (ad (p + 1)))) ∧ sh[p + 1]? = some (.inl 445)
abbrev fLaws (ad : Nat → Nat) (p : Nat) : List Value := [.ref (ad (p + 1)), .ref (ad (p + 2)), .ref (ad (p + 3)), .ref (ad (p + 4)), .ref (ad (p + 5)), .ref (ad (p + 6)), .ref (ad (p + 7)), .ref (ad (p + 8)), .ref (ad (p + 9)), .int 0, .int 0]
def mLaws (ad : Nat → Nat) (sh : mSh) (p : Nat) : Prop := sh[p]? = some (.inr (1, fLaws ad p)) ∧ sh[p + 1]? = some (.inl 6) ∧ sh[p + 2]? = some (.inl 36) ∧ sh[p + 3]? = some (.inl 36) ∧ sh[p + 4]? = some (.inl 36) ∧ sh[p + 5]? = some (.inl 36) ∧ sh[p + 6]? = some (.inl 6) ∧ sh[p + 7]? = some (.inl 6) ∧ sh[p + 8]? = some (.inl 4) ∧ sh[p + 9]? = some (.inl 16)
def mTrail (ad : Nat → Nat) (sh : mSh) (p : Nat) : Prop := sh[p]? = some (.inr (8, [.ref (ad (p + 1)), .ref (ad (p + 2)), .ref (ad (p + 3)), .int 0])) ∧ sh[p + 1]? = some (.inl 40) ∧ sh[p + 2]? = some (.inl 40) ∧ sh[p + 3]? = some (.inl 41)
def mReader (ad : Nat → Nat) (sh : mSh) (p : Nat) : Prop := sh[p]? = some (.inr (4, [.ref (ad (p + 1)), .ref (ad (p + 2)), .ref (ad (p + 3)), .int 0])) ∧ sh[p + 1]? = some (.inl 6) ∧ sh[p + 2]? = some (.inl 6) ∧ sh[p + 3]? = some (.inl 6)
def mPlay (ad : Nat → Nat) (sh : mSh) (y p : Nat) : Prop := sh[y]? = some (.inr (5, [.ref (ad p)])) ∧ mLaws ad sh p
/-- 31 * d + v over a row -/
def dgF (f : Nat → Int32) : Nat → Int32 → Int32
  | 0, d => d
  | n + 1, d => 31 * dgF f n d + f n
def dgP (men hands : Nat → Int32) (n : Nat) (turn : Int32) (rt : Nat → Int32) : Int32 := dgF rt 4 (31 * dgF hands 12 (dgF men n 17) + turn)
def cntF (c : Nat → Bool) : Nat → Nat
  | 0 => 0
  | n + 1 => cntF c n + (if c n then 1 else 0)

set_option maxRecDepth 100000 in
set_option maxHeartbeats 4000000 in
theorem c_squares {ae ad : Nat → Nat} {sh : mSh} {σ : mSt} {p : Nat} (hp : mPos ad sh p) : Ct yX6_squares cX6_squares 1 (some .int) 0 0 0 [.ref (ad p)] ae ad sh σ (mEq (some (.int (σ.1 p 2 * σ.1 p 3))) ad sh σ) := by
  refine Ct.ofL (own := RX6) (ini := false) (ls := [some (.ref (ad p))]) (by decide +kernel) rfl (fun h => by cases h) (Nat.le_of_ble_eq_true rfl) rfl ?_
  refine ev_aload_0 dX6_squares_0 ?_
  refine gf_X6_18 dX6_squares_1 hp.1 rfl ?_
  refine ev_aload_0 dX6_squares_4 ?_
  refine gf_X6_22 dX6_squares_5 hp.1 rfl ?_
  refine ev_imul dX6_squares_8 ?_
  exact ev_ireturn dX6_squares_9
set_option maxRecDepth 100000 in
set_option maxHeartbeats 4000000 in
theorem c_columnOf {ae ad : Nat → Nat} {sh : mSh} {σ : mSt} {p : Nat} (hp : mPos ad sh p) {q : Int32} : Ct yX6_columnOf cX6_columnOf 2 (some .int) 0 0 0 [.ref (ad p), .int q] ae ad sh σ (mEq (some (.int (if σ.1 p 2 ≤ 0 then 0 else q - q / σ.1 p 2 * σ.1 p 2))) ad sh σ) := by
  refine Ct.ofL (own := RX6) (ini := false) (ls := [some (.ref (ad p)), some (.int q)]) (by decide +kernel) rfl (fun h => by cases h) (Nat.le_of_ble_eq_true rfl) rfl ?_
  refine ev_aload_0 dX6_columnOf_0 ?_
  refine gf_X6_18 dX6_columnOf_1 hp.1 rfl ?_
  refine ev_if_le (tgt := 16) dX6_columnOf_4 (by decide) (fun h4 => ?_) (fun h4 => ?_)
  · refine ev_iconst_0 dX6_columnOf_16 ?_
    exact ev_iret dX6_columnOf_17 (by first | exact (if_neg h4).symm | exact (if_pos h4).symm) rfl
  · refine ev_iload_1 dX6_columnOf_7 ?_
    refine ev_aload_0 dX6_columnOf_8 ?_
    refine gf_X6_18 dX6_columnOf_9 hp.1 rfl ?_
    refine ev_irem dX6_columnOf_12 (fun e => h4 (by rw [e]; exact Int32.le_refl _)) ?_
    refine ev_goto (tgt := 17) dX6_columnOf_13 (by decide) ?_
    exact ev_iret dX6_columnOf_17 (by first | exact (if_neg h4).symm | exact (if_pos h4).symm) rfl
set_option maxRecDepth 100000 in
set_option maxHeartbeats 4000000 in
theorem c_rowOf {ae ad : Nat → Nat} {sh : mSh} {σ : mSt} {p : Nat} (hp : mPos ad sh p) {q : Int32} : Ct yX6_rowOf cX6_rowOf 2 (some .int) 0 0 0 [.ref (ad p), .int q] ae ad sh σ (mEq (some (.int (if σ.1 p 2 ≤ 0 then 0 else q / σ.1 p 2))) ad sh σ) := by
  refine Ct.ofL (own := RX6) (ini := false) (ls := [some (.ref (ad p)), some (.int q)]) (by decide +kernel) rfl (fun h => by cases h) (Nat.le_of_ble_eq_true rfl) rfl ?_
  refine ev_aload_0 dX6_rowOf_0 ?_
  refine gf_X6_18 dX6_rowOf_1 hp.1 rfl ?_
  refine ev_if_le (tgt := 16) dX6_rowOf_4 (by decide) (fun h4 => ?_) (fun h4 => ?_)
  · refine ev_iconst_0 dX6_rowOf_16 ?_
    exact ev_iret dX6_rowOf_17 (by first | exact (if_neg h4).symm | exact (if_pos h4).symm) rfl
  · refine ev_iload_1 dX6_rowOf_7 ?_
    refine ev_aload_0 dX6_rowOf_8 ?_
    refine gf_X6_18 dX6_rowOf_9 hp.1 rfl ?_
    refine ev_idiv dX6_rowOf_12 (fun e => h4 (by rw [e]; exact Int32.le_refl _)) ?_
    refine ev_goto (tgt := 17) dX6_rowOf_13 (by decide) ?_
    exact ev_iret dX6_rowOf_17 (by first | exact (if_neg h4).symm | exact (if_pos h4).symm) rfl
set_option maxRecDepth 100000 in
set_option maxHeartbeats 4000000 in
theorem c_isFarRow {ae ad : Nat → Nat} {sh : mSh} {σ : mSt} {p : Nat} (hp : mPos ad sh p) {s q : Int32} : Ct yX6_isFarRow cX6_isFarRow 3 (some .boolean) 1 0 0 [.ref (ad p), .int s, .int q] ae ad sh σ (mEq (some (.int (b2i (decide ((if σ.1 p 2 ≤ 0 then 0 else q / σ.1 p 2) = if s = 0 then σ.1 p 3 - 1 else 0))))) ad sh σ) := by
  refine Ct.ofL (own := RX6) (ini := false) (ls := [some (.ref (ad p)), some (.int s), some (.int q)]) (by decide +kernel) rfl (fun h => by cases h) (Nat.le_of_ble_eq_true rfl) rfl ?_
  refine ev_aload_0 dX6_isFarRow_0 ?_
  refine ev_iload_2 dX6_isFarRow_1 ?_
  refine cl_X6_46 (c_rowOf hp) hp.1 dX6_isFarRow_2 rfl (Nat.le_of_ble_eq_true rfl) ?_
  refine ev_iload_1 dX6_isFarRow_5 ?_
  refine ev_if_ne (tgt := 18) dX6_isFarRow_6 (by decide) (fun h6 => ?_) (fun h6 => ?_)
  · refine ev_iconst_0 dX6_isFarRow_18 ?_
    refine ev_icmp_ne (tgt := 26) dX6_isFarRow_19 (by decide) (fun h19 => ?_) (fun h19 => ?_)
    · refine ev_iconst_0 dX6_isFarRow_26 ?_
      exact ev_zret (b2i_nar _) dX6_isFarRow_27 (by first | (rw [if_neg h6, decide_eq_true h19]; rfl) | (rw [if_neg h6, decide_eq_false h19]; rfl) | (rw [if_pos (Decidable.not_not.mp h6), decide_eq_true h19]; rfl) | (rw [if_pos (Decidable.not_not.mp h6), decide_eq_false h19]; rfl) | simp_all [b2i]) rfl
    · refine ev_iconst_1 dX6_isFarRow_22 ?_
      refine ev_goto (tgt := 27) dX6_isFarRow_23 (by decide) ?_
      exact ev_zret (b2i_nar _) dX6_isFarRow_27 (by first | (rw [if_neg h6, decide_eq_true h19]; rfl) | (rw [if_neg h6, decide_eq_false h19]; rfl) | (rw [if_pos (Decidable.not_not.mp h6), decide_eq_true h19]; rfl) | (rw [if_pos (Decidable.not_not.mp h6), decide_eq_false h19]; rfl) | simp_all [b2i]) rfl
  · refine ev_aload_0 dX6_isFarRow_9 ?_
    refine gf_X6_22 dX6_isFarRow_10 hp.1 rfl ?_
    refine ev_iconst_1 dX6_isFarRow_13 ?_
    refine ev_isub dX6_isFarRow_14 ?_
    refine ev_goto (tgt := 19) dX6_isFarRow_15 (by decide) ?_
    refine ev_icmp_ne (tgt := 26) dX6_isFarRow_19 (by decide) (fun h19 => ?_) (fun h19 => ?_)
    · refine ev_iconst_0 dX6_isFarRow_26 ?_
      exact ev_zret (b2i_nar _) dX6_isFarRow_27 (by first | (rw [if_neg h6, decide_eq_true h19]; rfl) | (rw [if_neg h6, decide_eq_false h19]; rfl) | (rw [if_pos (Decidable.not_not.mp h6), decide_eq_true h19]; rfl) | (rw [if_pos (Decidable.not_not.mp h6), decide_eq_false h19]; rfl) | simp_all [b2i]) rfl
    · refine ev_iconst_1 dX6_isFarRow_22 ?_
      refine ev_goto (tgt := 27) dX6_isFarRow_23 (by decide) ?_
      exact ev_zret (b2i_nar _) dX6_isFarRow_27 (by first | (rw [if_neg h6, decide_eq_true h19]; rfl) | (rw [if_neg h6, decide_eq_false h19]; rfl) | (rw [if_pos (Decidable.not_not.mp h6), decide_eq_true h19]; rfl) | (rw [if_pos (Decidable.not_not.mp h6), decide_eq_false h19]; rfl) | simp_all [b2i]) rfl
set_option maxRecDepth 100000 in
set_option maxHeartbeats 4000000 in
theorem c_manOn {ae ad : Nat → Nat} {sh : mSh} {σ : mSt} {p : Nat} (hp : mPos ad sh p) {q : Int32} : Ct yX6_manOn cX6_manOn 2 (some .int) 0 0 0 [.ref (ad p), .int q] ae ad sh σ (mEq (some (.int (cellV (σ.1 (p + 1)) 36 q))) ad sh σ) := by
  refine Ct.ofL (own := RX6) (ini := false) (ls := [some (.ref (ad p)), some (.int q)]) (by decide +kernel) rfl (fun h => by cases h) (Nat.le_of_ble_eq_true rfl) rfl ?_
  refine ev_iload_1 dX6_manOn_0 ?_
  refine ev_if_lt (tgt := 22) dX6_manOn_1 (by decide) (fun h1 => ?_) (fun h1 => ?_)
  · refine ev_iconst_0 dX6_manOn_22 ?_
    exact ev_iret dX6_manOn_23 (by first | exact (if_neg (vp_of (by decide) h1 h10)).symm | exact (if_pos (vp_not (by decide) h1 h10)).symm | exact (if_pos (Or.inl h1)).symm) rfl
  · refine ev_iload_1 dX6_manOn_4 ?_
    refine ev_aload_0 dX6_manOn_5 ?_
    refine gf_X6_9 dX6_manOn_6 hp.1 rfl ?_
    refine ev_alen hp.2.1 rfl dX6_manOn_9 ?_
    refine ev_icmp_ge (tgt := 22) dX6_manOn_10 (by decide) (fun h10 => ?_) (fun h10 => ?_)
    · refine ev_iconst_0 dX6_manOn_22 ?_
      exact ev_iret dX6_manOn_23 (by first | exact (if_neg (vp_of (by decide) h1 h10)).symm | exact (if_pos (vp_not (by decide) h1 h10)).symm | exact (if_pos (Or.inl h1)).symm) rfl
    · refine ev_aload_0 dX6_manOn_13 ?_
      refine gf_X6_9 dX6_manOn_14 hp.1 rfl ?_
      refine ev_iload_1 dX6_manOn_17 ?_
      refine ev_iald hp.2.1 (vp_of (by decide) h1 h10) dX6_manOn_18 ?_
      refine ev_goto (tgt := 23) dX6_manOn_19 (by decide) ?_
      exact ev_iret dX6_manOn_23 (by first | exact (if_neg (vp_of (by decide) h1 h10)).symm | exact (if_pos (vp_not (by decide) h1 h10)).symm | exact (if_pos (Or.inl h1)).symm) rfl
set_option maxRecDepth 100000 in
set_option maxHeartbeats 4000000 in
theorem c_menOf {ae ad : Nat → Nat} {sh : mSh} {σ : mSt} {p : Nat} (hp : mPos ad sh p) {s : Int32} : Ct yX6_menOf cX6_menOf 2 (some .long) 0 0 0 [.ref (ad p), .int s] ae ad sh σ (mEq (some (.long (if s = 0 then σ.2 p 6 else σ.2 p 7))) ad sh σ) := by
  refine Ct.ofL (own := RX6) (ini := false) (ls := [some (.ref (ad p)), some (.int s)]) (by decide +kernel) rfl (fun h => by cases h) (Nat.le_of_ble_eq_true rfl) rfl ?_
  refine ev_iload_1 dX6_menOf_0 ?_
  refine ev_if_ne (tgt := 11) dX6_menOf_1 (by decide) (fun h1 => ?_) (fun h1 => ?_)
  · refine ev_aload_0 dX6_menOf_11 ?_
    refine gf_X6_39 dX6_menOf_12 hp.1 rfl ?_
    exact ev_lret dX6_menOf_15 (by simp [*]) rfl
  · refine ev_aload_0 dX6_menOf_4 ?_
    refine gf_X6_35 dX6_menOf_5 hp.1 rfl ?_
    refine ev_goto (tgt := 15) dX6_menOf_8 (by decide) ?_
    exact ev_lret dX6_menOf_15 (by simp [*]) rfl
set_option maxRecDepth 100000 in
set_option maxHeartbeats 4000000 in
theorem c_inHand {ae ad : Nat → Nat} {sh : mSh} {σ : mSt} {p : Nat} (hp : mPos ad sh p) {s t : Int32} : Ct yX6_inHand cX6_inHand 3 (some .int) 1 0 0 [.ref (ad p), .int s, .int t] ae ad sh σ (mEq (some (.int (cellV (σ.1 (p + 2)) 12 (s * 6 + t)))) ad sh σ) := by
  refine Ct.ofL (own := RX6) (ini := false) (ls := [some (.ref (ad p)), some (.int s), some (.int t)]) (by decide +kernel) rfl (fun h => by cases h) (Nat.le_of_ble_eq_true rfl) rfl ?_
  refine ev_aload_0 dX6_inHand_0 ?_
  refine gf_X6_15 dX6_inHand_1 hp.1 rfl ?_
  refine ev_iload_1 dX6_inHand_4 ?_
  refine ev_bipush_6 dX6_inHand_5 ?_
  refine ev_imul dX6_inHand_7 ?_
  refine ev_iload_2 dX6_inHand_8 ?_
  refine ev_iadd dX6_inHand_9 ?_
  refine cl_X6_61 (c_cell hp.2.2 (by decide)) dX6_inHand_10 rfl (Nat.le_of_ble_eq_true rfl) ?_
  exact ev_ireturn dX6_inHand_13
set_option maxRecDepth 100000 in
set_option maxHeartbeats 4000000 in
theorem c_addToHand {ae ad : Nat → Nat} {sh : mSh} {σ : mSt} {p : Nat} (hp : mPos ad sh p) {s t n : Int32} : Ct yX6_addToHand cX6_addToHand 5 none 1 0 0 [.ref (ad p), .int s, .int t, .int n] ae ad sh σ (mEq none ad sh (mr σ.1 (p + 2) (setV (σ.1 (p + 2)) 12 (s * 6 + t) (cellV (σ.1 (p + 2)) 12 (s * 6 + t) + n)), σ.2)) := by
  refine Ct.ofL (own := RX6) (ini := false) (ls := [some (.ref (ad p)), some (.int s), some (.int t), some (.int n), none]) (by decide +kernel) rfl (fun h => by cases h) (Nat.le_of_ble_eq_true rfl) rfl ?_
  refine ev_iload_1 dX6_addToHand_0 ?_
  refine ev_bipush_6 dX6_addToHand_1 ?_
  refine ev_imul dX6_addToHand_3 ?_
  refine ev_iload_2 dX6_addToHand_4 ?_
  refine ev_iadd dX6_addToHand_5 ?_
  refine ev_istore_4 dX6_addToHand_6 rfl rfl ?_
  refine ev_aload_0 dX6_addToHand_8 ?_
  refine gf_X6_15 dX6_addToHand_9 hp.1 rfl ?_
  refine ev_iload_4 dX6_addToHand_12 ?_
  refine ev_aload_0 dX6_addToHand_14 ?_
  refine gf_X6_15 dX6_addToHand_15 hp.1 rfl ?_
  refine ev_iload_4 dX6_addToHand_18 ?_
  refine cl_X6_61 (c_cell hp.2.2 (by decide)) dX6_addToHand_20 rfl (Nat.le_of_ble_eq_true rfl) ?_
  refine ev_iload_3 dX6_addToHand_23 ?_
  refine ev_iadd dX6_addToHand_24 ?_
  refine cl_X6_65 (c_setCell hp.2.2 (by decide)) dX6_addToHand_25 rfl (Nat.le_of_ble_eq_true rfl) ?_
  exact ev_return dX6_addToHand_28
set_option maxRecDepth 100000 in
set_option maxHeartbeats 4000000 in
theorem c_digestNow_71 {ae ad : Nat → Nat} {sh : mSh} {σ : mSt} {p N : Nat} (hp : mPos ad sh p) (hN : σ.1 p 2 * σ.1 p 3 = nI N) (hN2 : N ≤ 36) : ∀ (n i : Nat), 4 - i = n → i ≤ 4 → Ev RX6 cX6_digestNow 3 false (some .int) (mRm 1 0 0) ae (mEq (some (.int (dgP (σ.1 (p + 1)) (σ.1 (p + 2)) N (σ.1 p 4) (fun k => σ.1 p 5 >>> (nI k &&& 31) &&& 1)))) ad sh σ) 71 [some (.ref (ad p)), some (.int (dgF (fun k => σ.1 p 5 >>> (nI k &&& 31) &&& 1) i (31 * dgF (σ.1 (p + 2)) 12 (dgF (σ.1 (p + 1)) N 17) + σ.1 p 4))), some (.int (nI i))] [] 0 0 ad sh σ := by
  intro n
  induction n with
  | zero =>
    intro i hn hi
    have e : i = 4 := by omega
    subst e
    refine ev_iload_2 dX6_digestNow_71 ?_
    refine ev_iconst_4 dX6_digestNow_72 ?_
    refine ev_icmp_ge (tgt := 96) dX6_digestNow_73 (by decide) (fun h73 => ?_) (fun h73 => absurd (by decide) h73)
    refine ev_iload_1 dX6_digestNow_96 ?_
    exact ev_iret dX6_digestNow_97 rfl rfl
  | succ n ih =>
    intro i hn hi
    have hlt : i < 4 := by omega
    refine ev_iload_2 dX6_digestNow_71 ?_
    refine ev_iconst_4 dX6_digestNow_72 ?_
    refine ev_icmp_ge (tgt := 96) dX6_digestNow_73 (by decide) (fun h73 => absurd h73 (by intro h; exact absurd ((nI_leI (a := 4) (by decide) (by omega)).mp h) (by omega))) (fun h73 => ?_)
    refine ev_bipush_31 dX6_digestNow_76 ?_
    refine ev_iload_1 dX6_digestNow_78 ?_
    refine ev_imul dX6_digestNow_79 ?_
    refine ev_aload_0 dX6_digestNow_80 ?_
    refine gf_X6_32 dX6_digestNow_81 hp.1 rfl ?_
    refine ev_iload_2 dX6_digestNow_84 ?_
    refine ev_ishr dX6_digestNow_85 ?_
    refine ev_iconst_1 dX6_digestNow_86 ?_
    refine ev_iand dX6_digestNow_87 ?_
    refine ev_iadd dX6_digestNow_88 ?_
    refine ev_istore_1 dX6_digestNow_89 rfl rfl ?_
    refine ev_iinc_2 (v := 1) dX6_digestNow_90 (by decide) rfl rfl ?_
    refine ev_goto (tgt := 71) dX6_digestNow_93 (by decide) ?_
    exact Ev.to (by rw [nI_1]; rfl) rfl rfl (ih (i + 1) (by omega) (by omega))
set_option maxRecDepth 100000 in
set_option maxHeartbeats 4000000 in
theorem c_digestNow_32 {ae ad : Nat → Nat} {sh : mSh} {σ : mSt} {p N : Nat} (hp : mPos ad sh p) (hN : σ.1 p 2 * σ.1 p 3 = nI N) (hN2 : N ≤ 36) : ∀ (n i : Nat), 12 - i = n → i ≤ 12 → Ev RX6 cX6_digestNow 3 false (some .int) (mRm 1 0 0) ae (mEq (some (.int (dgP (σ.1 (p + 1)) (σ.1 (p + 2)) N (σ.1 p 4) (fun k => σ.1 p 5 >>> (nI k &&& 31) &&& 1)))) ad sh σ) 32 [some (.ref (ad p)), some (.int (dgF (σ.1 (p + 2)) i (dgF (σ.1 (p + 1)) N 17))), some (.int (nI i))] [] 0 0 ad sh σ := by
  intro n
  induction n with
  | zero =>
    intro i hn hi
    have e : i = 12 := by omega
    subst e
    refine ev_iload_2 dX6_digestNow_32 ?_
    refine ev_aload_0 dX6_digestNow_33 ?_
    refine gf_X6_15 dX6_digestNow_34 hp.1 rfl ?_
    refine ev_alen hp.2.2 rfl dX6_digestNow_37 ?_
    refine ev_icmp_ge (tgt := 59) dX6_digestNow_38 (by decide) (fun h38 => ?_) (fun h38 => absurd (by decide) h38)
    refine ev_bipush_31 dX6_digestNow_59 ?_
    refine ev_iload_1 dX6_digestNow_61 ?_
    refine ev_imul dX6_digestNow_62 ?_
    refine ev_aload_0 dX6_digestNow_63 ?_
    refine gf_X6_29 dX6_digestNow_64 hp.1 rfl ?_
    refine ev_iadd dX6_digestNow_67 ?_
    refine ev_istore_1 dX6_digestNow_68 rfl rfl ?_
    refine ev_iconst_0 dX6_digestNow_69 ?_
    refine ev_istore_2 dX6_digestNow_70 rfl rfl ?_
    exact c_digestNow_71 hp hN hN2 4 0 rfl (by decide)
  | succ n ih =>
    intro i hn hi
    have hlt : i < 12 := by omega
    refine ev_iload_2 dX6_digestNow_32 ?_
    refine ev_aload_0 dX6_digestNow_33 ?_
    refine gf_X6_15 dX6_digestNow_34 hp.1 rfl ?_
    refine ev_alen hp.2.2 rfl dX6_digestNow_37 ?_
    refine ev_icmp_ge (tgt := 59) dX6_digestNow_38 (by decide) (fun h38 => absurd h38 (nI_ge (b := 12) hlt (by decide))) (fun h38 => ?_)
    refine ev_bipush_31 dX6_digestNow_41 ?_
    refine ev_iload_1 dX6_digestNow_43 ?_
    refine ev_imul dX6_digestNow_44 ?_
    refine ev_aload_0 dX6_digestNow_45 ?_
    refine gf_X6_15 dX6_digestNow_46 hp.1 rfl ?_
    refine ev_iload_2 dX6_digestNow_49 ?_
    refine ev_iald hp.2.2 (vp_in_nI hlt (by decide)) dX6_digestNow_50 ?_
    refine ev_iadd dX6_digestNow_51 ?_
    refine ev_istore_1 dX6_digestNow_52 rfl rfl ?_
    refine ev_iinc_2 (v := 1) dX6_digestNow_53 (by decide) rfl rfl ?_
    refine ev_goto (tgt := 32) dX6_digestNow_56 (by decide) ?_
    exact Ev.to (by rw [nI_1, nI_clamp (by omega)]; rfl) rfl rfl (ih (i + 1) (by omega) (by omega))
set_option maxRecDepth 100000 in
set_option maxHeartbeats 4000000 in
theorem c_digestNow_5 {ae ad : Nat → Nat} {sh : mSh} {σ : mSt} {p N : Nat} (hp : mPos ad sh p) (hN : σ.1 p 2 * σ.1 p 3 = nI N) (hN2 : N ≤ 36) : ∀ (n i : Nat), N - i = n → i ≤ N → Ev RX6 cX6_digestNow 3 false (some .int) (mRm 1 0 0) ae (mEq (some (.int (dgP (σ.1 (p + 1)) (σ.1 (p + 2)) N (σ.1 p 4) (fun k => σ.1 p 5 >>> (nI k &&& 31) &&& 1)))) ad sh σ) 5 [some (.ref (ad p)), some (.int (dgF (σ.1 (p + 1)) i 17)), some (.int (nI i))] [] 0 0 ad sh σ := by
  intro n
  induction n with
  | zero =>
    intro i hn hi
    have e : i = N := by omega
    subst e
    refine ev_iload_2 dX6_digestNow_5 ?_
    refine ev_aload_0 dX6_digestNow_6 ?_
    refine cl_X6_69 (c_squares hp) hp.1 dX6_digestNow_7 rfl (Nat.le_of_ble_eq_true rfl) ?_
    refine ev_icmp_ge (tgt := 30) dX6_digestNow_10 (by decide) (fun h10 => ?_) (fun h10 => absurd (by rw [hN]; exact Int32.le_refl _) h10)
    refine ev_iconst_0 dX6_digestNow_30 ?_
    refine ev_istore_2 dX6_digestNow_31 rfl rfl ?_
    exact c_digestNow_32 hp hN hN2 12 0 rfl (by decide)
  | succ n ih =>
    intro i hn hi
    have hlt : i < N := by omega
    refine ev_iload_2 dX6_digestNow_5 ?_
    refine ev_aload_0 dX6_digestNow_6 ?_
    refine cl_X6_69 (c_squares hp) hp.1 dX6_digestNow_7 rfl (Nat.le_of_ble_eq_true rfl) ?_
    refine ev_icmp_ge (tgt := 30) dX6_digestNow_10 (by decide) (fun h10 => absurd h10 (by rw [hN]; exact nI_ge hlt (by omega))) (fun h10 => ?_)
    refine ev_bipush_31 dX6_digestNow_13 ?_
    refine ev_iload_1 dX6_digestNow_15 ?_
    refine ev_imul dX6_digestNow_16 ?_
    refine ev_aload_0 dX6_digestNow_17 ?_
    refine ev_iload_2 dX6_digestNow_18 ?_
    refine cl_X6_73 (c_manOn hp) hp.1 dX6_digestNow_19 rfl (Nat.le_of_ble_eq_true rfl) ?_
    refine ev_iadd dX6_digestNow_22 ?_
    refine ev_istore_1 dX6_digestNow_23 rfl rfl ?_
    refine ev_iinc_2 (v := 1) dX6_digestNow_24 (by decide) rfl rfl ?_
    refine ev_goto (tgt := 5) dX6_digestNow_27 (by decide) ?_
    exact Ev.to (by rw [nI_1, cellV_nI (by omega) (by omega)]; rfl) rfl rfl (ih (i + 1) (by omega) (by omega))
set_option maxRecDepth 100000 in
set_option maxHeartbeats 4000000 in
theorem c_digestNow {ae ad : Nat → Nat} {sh : mSh} {σ : mSt} {p N : Nat} (hp : mPos ad sh p) (hN : σ.1 p 2 * σ.1 p 3 = nI N) (hN2 : N ≤ 36) : Ct yX6_digestNow cX6_digestNow 3 (some .int) 1 0 0 [.ref (ad p)] ae ad sh σ (mEq (some (.int (dgP (σ.1 (p + 1)) (σ.1 (p + 2)) N (σ.1 p 4) (fun k => σ.1 p 5 >>> (nI k &&& 31) &&& 1)))) ad sh σ) := by
  refine Ct.ofL (own := RX6) (ini := false) (ls := [some (.ref (ad p)), none, none]) (by decide +kernel) rfl (fun h => by cases h) (Nat.le_of_ble_eq_true rfl) rfl ?_
  refine ev_bipush_17 dX6_digestNow_0 ?_
  refine ev_istore_1 dX6_digestNow_2 rfl rfl ?_
  refine ev_iconst_0 dX6_digestNow_3 ?_
  refine ev_istore_2 dX6_digestNow_4 rfl rfl ?_
  exact c_digestNow_5 hp hN hN2 N 0 rfl (Nat.zero_le _)
set_option maxRecDepth 100000 in
set_option maxHeartbeats 4000000 in
theorem c_menOfType_4 {ae ad : Nat → Nat} {sh : mSh} {σ : mSt} {p : Nat} (hp : mPos ad sh p) {t : Int32} : ∀ (n i : Nat), 36 - i = n → i ≤ 36 → Ev RX6 cX6_menOfType 4 false (some .int) (mRm 1 0 0) ae (mEq (some (.int (nI (cntF (fun k => decide (¬ σ.1 (p + 1) k = 0 ∧ tyR (σ.1 (p + 1) k) = t)) 36)))) ad sh σ) 4 [some (.ref (ad p)), some (.int t), some (.int (nI (cntF (fun k => decide (¬ σ.1 (p + 1) k = 0 ∧ tyR (σ.1 (p + 1) k) = t)) i))), some (.int (nI i))] [] 0 0 ad sh σ := by
  intro n
  induction n with
  | zero =>
    intro i hn hi
    have e : i = 36 := by omega
    subst e
    refine ev_iload_3 dX6_menOfType_4 ?_
    refine ev_aload_0 dX6_menOfType_5 ?_
    refine gf_X6_9 dX6_menOfType_6 hp.1 rfl ?_
    refine ev_alen hp.2.1 rfl dX6_menOfType_9 ?_
    refine ev_icmp_ge (tgt := 44) dX6_menOfType_10 (by decide) (fun h10 => ?_) (fun h10 => absurd (by decide) h10)
    refine ev_iload_2 dX6_menOfType_44 ?_
    exact ev_iret dX6_menOfType_45 rfl rfl
  | succ n ih =>
    intro i hn hi
    have hlt : i < 36 := by omega
    refine ev_iload_3 dX6_menOfType_4 ?_
    refine ev_aload_0 dX6_menOfType_5 ?_
    refine gf_X6_9 dX6_menOfType_6 hp.1 rfl ?_
    refine ev_alen hp.2.1 rfl dX6_menOfType_9 ?_
    refine ev_icmp_ge (tgt := 44) dX6_menOfType_10 (by decide) (fun h10 => absurd h10 (nI_ge (b := 36) hlt (by decide))) (fun h10 => ?_)
    refine ev_aload_0 dX6_menOfType_13 ?_
    refine gf_X6_9 dX6_menOfType_14 hp.1 rfl ?_
    refine ev_iload_3 dX6_menOfType_17 ?_
    refine ev_iald hp.2.1 (vp_in_nI hlt (by decide)) dX6_menOfType_18 ?_
    refine ev_if_eq (tgt := 38) dX6_menOfType_19 (by decide) (fun h19 => ?_) (fun h19 => ?_)
    · refine ev_iinc_3 (v := 1) dX6_menOfType_38 (by decide) rfl rfl ?_
      refine ev_goto (tgt := 4) dX6_menOfType_41 (by decide) ?_
      exact Ev.to (by rw [nI_clamp (by omega)] at *; simp_all [cntF, nI_1]) rfl rfl (ih (i + 1) (by omega) (by omega))
    · refine ev_aload_0 dX6_menOfType_22 ?_
      refine gf_X6_9 dX6_menOfType_23 hp.1 rfl ?_
      refine ev_iload_3 dX6_menOfType_26 ?_
      refine ev_iald hp.2.1 (vp_in_nI hlt (by decide)) dX6_menOfType_27 ?_
      refine cl_X6_58 c_typeOf dX6_menOfType_28 rfl (Nat.le_of_ble_eq_true rfl) ?_
      refine ev_iload_1 dX6_menOfType_31 ?_
      refine ev_icmp_ne (tgt := 38) dX6_menOfType_32 (by decide) (fun h32 => ?_) (fun h32 => ?_)
      · refine ev_iinc_3 (v := 1) dX6_menOfType_38 (by decide) rfl rfl ?_
        refine ev_goto (tgt := 4) dX6_menOfType_41 (by decide) ?_
        exact Ev.to (by rw [nI_clamp (by omega)] at *; simp_all [cntF, nI_1]) rfl rfl (ih (i + 1) (by omega) (by omega))
      · refine ev_iinc_2 (v := 1) dX6_menOfType_35 (by decide) rfl rfl ?_
        refine ev_iinc_3 (v := 1) dX6_menOfType_38 (by decide) rfl rfl ?_
        refine ev_goto (tgt := 4) dX6_menOfType_41 (by decide) ?_
        exact Ev.to (by rw [nI_clamp (by omega)] at *; simp_all [cntF, nI_1]) rfl rfl (ih (i + 1) (by omega) (by omega))
set_option maxRecDepth 100000 in
set_option maxHeartbeats 4000000 in
theorem c_menOfType {ae ad : Nat → Nat} {sh : mSh} {σ : mSt} {p : Nat} (hp : mPos ad sh p) {t : Int32} : Ct yX6_menOfType cX6_menOfType 4 (some .int) 1 0 0 [.ref (ad p), .int t] ae ad sh σ (mEq (some (.int (nI (cntF (fun k => decide (¬ σ.1 (p + 1) k = 0 ∧ tyR (σ.1 (p + 1) k) = t)) 36)))) ad sh σ) := by
  refine Ct.ofL (own := RX6) (ini := false) (ls := [some (.ref (ad p)), some (.int t), none, none]) (by decide +kernel) rfl (fun h => by cases h) (Nat.le_of_ble_eq_true rfl) rfl ?_
  refine ev_iconst_0 dX6_menOfType_0 ?_
  refine ev_istore_2 dX6_menOfType_1 rfl rfl ?_
  refine ev_iconst_0 dX6_menOfType_2 ?_
  refine ev_istore_3 dX6_menOfType_3 rfl rfl ?_
  exact c_menOfType_4 hp 36 0 rfl (by decide)
set_option maxRecDepth 100000 in
set_option maxHeartbeats 4000000 in
theorem c_empty {ae ad : Nat → Nat} {sh : mSh} {σ : mSt} {p : Nat} (hp : mPos ad sh p) {c r : Int32} : Ct yX6_empty cX6_empty 3 none 1 0 0 [.ref (ad p), .int c, .int r] ae ad sh σ (mEq none ad sh (mu (mu (mu (mu (mr (mr σ.1 (p + 1) (fa_fill (fun _ => 0) (σ.1 (p + 1)) 36)) (p + 2) (fa_fill (fun _ => 0) (σ.1 (p + 2)) 12)) p 2 c) p 3 r) p 4 0) p 5 0, mul (mul σ.2 p 6 0) p 7 0)) := by
  refine Ct.ofL (own := RX6) (ini := false) (ls := [some (.ref (ad p)), some (.int c), some (.int r)]) (by decide +kernel) rfl (fun h => by cases h) (Nat.le_of_ble_eq_true rfl) rfl ?_
  refine ev_aload_0 dX6_empty_0 ?_
  refine gf_X6_9 dX6_empty_1 hp.1 rfl ?_
  refine ev_iconst_0 dX6_empty_4 ?_
  refine cl_X6_42 (c_fill hp.2.1 (by decide)) dX6_empty_5 rfl (Nat.le_of_ble_eq_true rfl) ?_
  refine ev_aload_0 dX6_empty_8 ?_
  refine gf_X6_15 dX6_empty_9 hp.1 rfl ?_
  refine ev_iconst_0 dX6_empty_12 ?_
  refine cl_X6_42 (c_fill hp.2.2 (by decide)) dX6_empty_13 rfl (Nat.le_of_ble_eq_true rfl) ?_
  refine ev_aload_0 dX6_empty_16 ?_
  refine ev_iload_1 dX6_empty_17 ?_
  refine pf_X6_18 dX6_empty_18 hp.1 rfl ?_
  refine ev_aload_0 dX6_empty_21 ?_
  refine ev_iload_2 dX6_empty_22 ?_
  refine pf_X6_22 dX6_empty_23 hp.1 rfl ?_
  refine ev_aload_0 dX6_empty_26 ?_
  refine ev_iconst_0 dX6_empty_27 ?_
  refine pf_X6_29 dX6_empty_28 hp.1 rfl ?_
  refine ev_aload_0 dX6_empty_31 ?_
  refine ev_iconst_0 dX6_empty_32 ?_
  refine pf_X6_32 dX6_empty_33 hp.1 rfl ?_
  refine ev_aload_0 dX6_empty_36 ?_
  refine ev_lconst_0 dX6_empty_37 ?_
  refine pf_X6_35 dX6_empty_38 hp.1 rfl ?_
  refine ev_aload_0 dX6_empty_41 ?_
  refine ev_lconst_0 dX6_empty_42 ?_
  refine pf_X6_39 dX6_empty_43 hp.1 rfl ?_
  exact ev_vret dX6_empty_46 (by dsimp only; rw [mr_ne _ _ (show p + 2 ≠ p + 1 by omega)])
set_option maxRecDepth 100000 in
set_option maxHeartbeats 4000000 in
theorem c_posCopy {ae ad : Nat → Nat} {sh : mSh} {σ : mSt} {p q : Nat} (hp : mPos ad sh p) (hq : mPos ad sh q) (hne : p + 2 < q ∨ q + 2 < p) : Ct yX6_copyFrom cX6_copyFrom 2 none 1 0 0 [.ref (ad p), .ref (ad q)] ae ad sh σ (mEq none ad sh (mu (mu (mu (mu (mr (mr σ.1 (p + 1) (fa_fill (σ.1 (q + 1)) (σ.1 (p + 1)) 36)) (p + 2) (fa_fill (σ.1 (q + 2)) (σ.1 (p + 2)) 12)) p 2 (σ.1 q 2)) p 3 (σ.1 q 3)) p 4 (σ.1 q 4)) p 5 (σ.1 q 5), mul (mul σ.2 p 6 (σ.2 q 6)) p 7 (σ.2 q 7))) := by
  refine Ct.ofL (own := RX6) (ini := false) (ls := [some (.ref (ad p)), some (.ref (ad q))]) (by decide +kernel) rfl (fun h => by cases h) (Nat.le_of_ble_eq_true rfl) rfl ?_
  refine ev_aload_1 dX6_copyFrom_0 ?_
  refine gf_X6_9 dX6_copyFrom_1 hq.1 rfl ?_
  refine ev_aload_0 dX6_copyFrom_4 ?_
  refine gf_X6_9 dX6_copyFrom_5 hp.1 rfl ?_
  refine cl_X6_25 (c_copy hq.2.1 hp.2.1 (by omega) (by decide)) dX6_copyFrom_8 rfl (Nat.le_of_ble_eq_true rfl) ?_
  refine ev_aload_1 dX6_copyFrom_11 ?_
  refine gf_X6_15 dX6_copyFrom_12 hq.1 rfl ?_
  refine ev_aload_0 dX6_copyFrom_15 ?_
  refine gf_X6_15 dX6_copyFrom_16 hp.1 rfl ?_
  refine cl_X6_25 (c_copy hq.2.2 hp.2.2 (by omega) (by decide)) dX6_copyFrom_19 rfl (Nat.le_of_ble_eq_true rfl) ?_
  refine ev_aload_0 dX6_copyFrom_22 ?_
  refine ev_aload_1 dX6_copyFrom_23 ?_
  refine gf_X6_18 dX6_copyFrom_24 hq.1 rfl ?_
  refine pf_X6_18 dX6_copyFrom_27 hp.1 rfl ?_
  refine ev_aload_0 dX6_copyFrom_30 ?_
  refine ev_aload_1 dX6_copyFrom_31 ?_
  refine gf_X6_22 dX6_copyFrom_32 hq.1 rfl ?_
  refine pf_X6_22 dX6_copyFrom_35 hp.1 rfl ?_
  refine ev_aload_0 dX6_copyFrom_38 ?_
  refine ev_aload_1 dX6_copyFrom_39 ?_
  refine gf_X6_29 dX6_copyFrom_40 hq.1 rfl ?_
  refine pf_X6_29 dX6_copyFrom_43 hp.1 rfl ?_
  refine ev_aload_0 dX6_copyFrom_46 ?_
  refine ev_aload_1 dX6_copyFrom_47 ?_
  refine gf_X6_32 dX6_copyFrom_48 hq.1 rfl ?_
  refine pf_X6_32 dX6_copyFrom_51 hp.1 rfl ?_
  refine ev_aload_0 dX6_copyFrom_54 ?_
  refine ev_aload_1 dX6_copyFrom_55 ?_
  refine gf_X6_35 dX6_copyFrom_56 hq.1 rfl ?_
  refine pf_X6_35 dX6_copyFrom_59 hp.1 rfl ?_
  refine ev_aload_0 dX6_copyFrom_62 ?_
  refine ev_aload_1 dX6_copyFrom_63 ?_
  refine gf_X6_39 dX6_copyFrom_64 hq.1 rfl ?_
  refine pf_X6_39 dX6_copyFrom_67 hp.1 rfl ?_
  exact ev_vret dX6_copyFrom_70 (by simp only [mu, mul, mr, mSt_eta, show ¬ q = p + 1 by omega, show ¬ q = p + 2 by omega, show ¬ q = p by omega, show ¬ q + 2 = p + 1 by omega, show ¬ p + 2 = p + 1 by omega, if_false])
def mBit (q : Int32) : Int64 := 1 <<< (q.toInt64 &&& 63)
/-- the squares of the men of a side, behind a put -/
def whR (s : Int64) (q m : Int32) : Int64 := if m ≤ 6 ∧ ¬ m ≤ 0 then s &&& (mBit q ^^^ (-1)) ||| mBit q else s &&& (mBit q ^^^ (-1))
def blR (s : Int64) (q m : Int32) : Int64 := if m ≤ 6 then s &&& (mBit q ^^^ (-1)) else s &&& (mBit q ^^^ (-1)) ||| mBit q
def putS (σ : mSt) (p : Nat) (q m : Int32) : mSt := if q < 0 ∨ 36 ≤ q.toNatClampNeg then σ else (mr σ.1 (p + 1) (upd (σ.1 (p + 1)) q.toNatClampNeg m), mul (mul σ.2 p 6 (whR (σ.2 p 6) q m)) p 7 (blR (σ.2 p 7) q m))
theorem mul_mul (h : Nat → Nat → Int64) (i j : Nat) (x y : Int64) : mul (mul h i j x) i j y = mul h i j y := by
  funext k a; simp only [mul]; split
  · simp only [if_true]; split <;> rfl
  · rfl
theorem mul_676 (h : Nat → Nat → Int64) (i : Nat) (x y z : Int64) : mul (mul (mul h i 6 x) i 7 y) i 6 z = mul (mul h i 6 z) i 7 y := by
  funext k a; simp only [mul]; split
  · simp only [if_true]
    by_cases h1 : a = 6
    · subst h1; simp
    · simp [h1]
  · rfl
theorem mul_at (h : Nat → Nat → Int64) (i j : Nat) (x : Int64) : mul h i j x i j = x := by simp [mul]
theorem mul_at2 (h : Nat → Nat → Int64) (i : Nat) {j j' : Nat} (hj : j' ≠ j) (x : Int64) : mul h i j x i j' = h i j' := by simp [mul, hj]

set_option maxRecDepth 100000 in
set_option maxHeartbeats 4000000 in
theorem c_put {ae ad : Nat → Nat} {sh : mSh} {σ : mSt} {p : Nat} (hp : mPos ad sh p) {q m : Int32} : Ct yX6_put cX6_put 5 none 0 0 0 [.ref (ad p), .int q, .int m] ae ad sh σ (mEq none ad sh (putS σ p q m)) := by
  refine Ct.ofL (own := RX6) (ini := false) (ls := [some (.ref (ad p)), some (.int q), some (.int m), none, none]) (by decide +kernel) rfl (fun h => by cases h) (Nat.le_of_ble_eq_true rfl) rfl ?_
  refine ev_iload_1 dX6_put_0 ?_
  refine ev_if_lt (tgt := 13) dX6_put_1 (by decide) (fun h1 => ?_) (fun h1 => ?_)
  · exact ev_vret dX6_put_13 (by first | (rw [putS, if_pos (Or.inl h1)]; done) | (rw [putS, if_pos (vp_not (by decide) h1 (fa_of_nlt h10))]; done))
  · refine ev_iload_1 dX6_put_4 ?_
    refine ev_aload_0 dX6_put_5 ?_
    refine gf_X6_9 dX6_put_6 hp.1 rfl ?_
    refine ev_alen hp.2.1 rfl dX6_put_9 ?_
    refine ev_icmp_lt (tgt := 14) dX6_put_10 (by decide) (fun h10 => ?_) (fun h10 => ?_)
    · refine ev_aload_0 dX6_put_14 ?_
      refine gf_X6_9 dX6_put_15 hp.1 rfl ?_
      refine ev_iload_1 dX6_put_18 ?_
      refine ev_iload_2 dX6_put_19 ?_
      refine ev_iast hp.2.1 (vp_of (by decide) h1 (fa_of_lt h10).2.1) dX6_put_20 ?_
      refine ev_lconst_1 dX6_put_21 ?_
      refine ev_iload_1 dX6_put_22 ?_
      refine ev_lshl dX6_put_23 ?_
      refine ev_lstore_3 dX6_put_24 rfl rfl ?_
      refine ev_aload_0 dX6_put_25 ?_
      refine ev_dup dX6_put_26 rfl ?_
      refine gf_X6_35 dX6_put_27 hp.1 rfl ?_
      refine ev_lload_3 dX6_put_30 ?_
      refine ev_ldc2 kc_X6_50 dX6_put_31 ?_
      refine ev_lxor dX6_put_34 ?_
      refine ev_land dX6_put_35 ?_
      refine pf_X6_35 dX6_put_36 hp.1 rfl ?_
      refine ev_aload_0 dX6_put_39 ?_
      refine ev_dup dX6_put_40 rfl ?_
      refine gf_X6_39 dX6_put_41 hp.1 rfl ?_
      refine ev_lload_3 dX6_put_44 ?_
      refine ev_ldc2 kc_X6_50 dX6_put_45 ?_
      refine ev_lxor dX6_put_48 ?_
      refine ev_land dX6_put_49 ?_
      refine pf_X6_39 dX6_put_50 hp.1 rfl ?_
      refine ev_iload_2 dX6_put_53 ?_
      refine ev_bipush_6 dX6_put_54 ?_
      refine ev_icmp_le (tgt := 72) dX6_put_56 (by decide) (fun h56 => ?_) (fun h56 => ?_)
      · refine ev_iload_2 dX6_put_72 ?_
        refine ev_if_le (tgt := 86) dX6_put_73 (by decide) (fun h73 => ?_) (fun h73 => ?_)
        · exact ev_vret dX6_put_86 (by rw [putS, if_neg (vp_of (by decide) h1 (fa_of_lt h10).2.1)]; first | (simp [mu_eq, whR, blR, mBit, mul_at, mul_at2, mul_mul, mul_676, h56, h73]; done) | (simp [mu_eq, whR, blR, mBit, mul_at, mul_at2, mul_mul, mul_676, h56]; done))
        · refine ev_aload_0 dX6_put_76 ?_
          refine ev_dup dX6_put_77 rfl ?_
          refine gf_X6_35 dX6_put_78 hp.1 rfl ?_
          refine ev_lload_3 dX6_put_81 ?_
          refine ev_lor dX6_put_82 ?_
          refine pf_X6_35 dX6_put_83 hp.1 rfl ?_
          exact ev_vret dX6_put_86 (by rw [putS, if_neg (vp_of (by decide) h1 (fa_of_lt h10).2.1)]; first | (simp [mu_eq, whR, blR, mBit, mul_at, mul_at2, mul_mul, mul_676, h56, h73]; done) | (simp [mu_eq, whR, blR, mBit, mul_at, mul_at2, mul_mul, mul_676, h56]; done))
      · refine ev_aload_0 dX6_put_59 ?_
        refine ev_dup dX6_put_60 rfl ?_
        refine gf_X6_39 dX6_put_61 hp.1 rfl ?_
        refine ev_lload_3 dX6_put_64 ?_
        refine ev_lor dX6_put_65 ?_
        refine pf_X6_39 dX6_put_66 hp.1 rfl ?_
        refine ev_goto (tgt := 86) dX6_put_69 (by decide) ?_
        exact ev_vret dX6_put_86 (by rw [putS, if_neg (vp_of (by decide) h1 (fa_of_lt h10).2.1)]; first | (simp [mu_eq, whR, blR, mBit, mul_at, mul_at2, mul_mul, mul_676, h56, h73]; done) | (simp [mu_eq, whR, blR, mBit, mul_at, mul_at2, mul_mul, mul_676, h56]; done))
    · exact ev_vret dX6_put_13 (by first | (rw [putS, if_pos (Or.inl h1)]; done) | (rw [putS, if_pos (vp_not (by decide) h1 (fa_of_nlt h10))]; done))
