theorem sh0 (x : Int32) : x >>> ((0 : Int32) &&& 31) = x := by
  rw [show (0 : Int32) &&& 31 = 0 from rfl]
  exact Int32.shiftRight_zero
/-- sign j of the string i -/
def sgn (i j : Nat) : Int32 := (mByt.getD i []).getD j 0
def slen (i : Nat) : Nat := mLen.getD i 0
theorem slen_le : ∀ i, i < 20 → slen i < 100 := by decide +kernel
theorem sgn_ch : ∀ i, i < 20 → ∀ j, j < slen i → ((sgn i j &&& 255).toUInt32 % 65536).toInt32 = sgn i j := by decide +kernel
theorem nar_sgn {i : Nat} (hi : i < 20) {j : Nat} (hj : j < slen i) : narrow .char (.int (sgn i j)) = .int (sgn i j) := by
  have h : ∀ i, i < 20 → ∀ j, j < slen i → (match narrow .char (.int (sgn i j)) with | .int x => decide (x = sgn i j) | _ => false) = true := by decide +kernel
  have h2 := h i hi j hj
  cases e : narrow .char (.int (sgn i j)) <;> rw [e] at h2 <;> simp_all
/-- the first of n places from f on where L holds c -/
def ixF (L : Nat → Int32) (c : Int32) : Nat → Nat → Int32
  | _, 0 => -1
  | f, n + 1 => if L f = c then nI f else ixF L c (f + 1) n
def encB (c : Int32) : Bool := decide (¬ c < 0 ∧ ¬ 255 < c)
def indF (i : Nat) (c : Int32) (f : Nat) : Int32 := if encB c then ixF (sgn i) c.toInt8.toInt32 f (slen i - f) else -1

set_option maxRecDepth 100000 in
set_option maxHeartbeats 4000000 in
theorem c_coder {ae ad : Nat → Nat} {sh : mSh} {σ : mSt} {i : Nat} (hi : i < 20) : Ct yJ0_coder_7d493 cJ0_coder_7d493 1 (some .byte) 0 0 0 [.ref (ae (100 + i))] ae ad sh σ (mEq (some (.int 0)) ad sh σ) := by
  refine Ct.ofL (own := RJ0) (ini := false) (ls := [some (.ref (ae (100 + i)))]) (by decide +kernel) rfl (fun h => by cases h) (Nat.le_of_ble_eq_true rfl) rfl ?_
  refine ev_getsC fw_J0_38 dJ0_coder_7d493_0 ?_
  refine ev_if_eq (tgt := 13) dJ0_coder_7d493_3 (by decide) (fun h3 => absurd h3 (by decide)) (fun h3 => ?_)
  refine ev_aload_0 dJ0_coder_7d493_6 ?_
  refine ev_scoder hi dJ0_coder_7d493_7 ?_
  refine ev_goto (tgt := 14) dJ0_coder_7d493_10 (by decide) ?_
  exact ev_zreturn (by decide) dJ0_coder_7d493_14
set_option maxRecDepth 100000 in
set_option maxHeartbeats 4000000 in
theorem c_isLatin1 {ae ad : Nat → Nat} {sh : mSh} {σ : mSt} {i : Nat} (hi : i < 20) : Ct yJ0_isLatin1_aae02 cJ0_isLatin1_aae02 1 (some .boolean) 0 0 0 [.ref (ae (100 + i))] ae ad sh σ (mEq (some (.int 1)) ad sh σ) := by
  refine Ct.ofL (own := RJ0) (ini := false) (ls := [some (.ref (ae (100 + i)))]) (by decide +kernel) rfl (fun h => by cases h) (Nat.le_of_ble_eq_true rfl) rfl ?_
  refine ev_getsC fw_J0_38 dJ0_isLatin1_aae02_0 ?_
  refine ev_if_eq (tgt := 17) dJ0_isLatin1_aae02_3 (by decide) (fun h3 => absurd h3 (by decide)) (fun h3 => ?_)
  refine ev_aload_0 dJ0_isLatin1_aae02_6 ?_
  refine ev_scoder hi dJ0_isLatin1_aae02_7 ?_
  refine ev_if_ne (tgt := 17) dJ0_isLatin1_aae02_10 (by decide) (fun h10 => absurd h10 (by decide)) (fun h10 => ?_)
  refine ev_iconst_1 dJ0_isLatin1_aae02_13 ?_
  refine ev_goto (tgt := 18) dJ0_isLatin1_aae02_14 (by decide) ?_
  exact ev_zreturn (by decide) dJ0_isLatin1_aae02_18
set_option maxRecDepth 100000 in
set_option maxHeartbeats 4000000 in
theorem c_strlen {ae ad : Nat → Nat} {sh : mSh} {σ : mSt} {i : Nat} (hi : i < 20) : Ct yJ0_length_8abf5 cJ0_length_8abf5 1 (some .int) 1 0 0 [.ref (ae (100 + i))] ae ad sh σ (mEq (some (.int (nI (slen i)))) ad sh σ) := by
  refine Ct.ofL (own := RJ0) (ini := false) (ls := [some (.ref (ae (100 + i)))]) (by decide +kernel) rfl (fun h => by cases h) (Nat.le_of_ble_eq_true rfl) rfl ?_
  refine ev_aload_0 dJ0_length_8abf5_0 ?_
  refine ev_svalue hi dJ0_length_8abf5_1 ?_
  refine ev_sulen hi rfl dJ0_length_8abf5_4 ?_
  refine ev_aload_0 dJ0_length_8abf5_5 ?_
  refine ct_J0_335 (c_coder hi) hi dJ0_length_8abf5_6 rfl (Nat.le_of_ble_eq_true rfl) ?_
  refine ev_ishr dJ0_length_8abf5_9 ?_
  exact ev_iret dJ0_length_8abf5_10 (sh0 _) rfl
set_option maxRecDepth 100000 in
set_option maxHeartbeats 4000000 in
theorem c_chk3n {ae ad : Nat → Nat} {sh : mSh} {σ : mSt} {x y : Int32} (g0 : ¬ x < 0) (g1 : x < y) : Ct yJ3_checkIndex_8e157 cJ3_checkIndex_8e157 3 (some .int) 0 0 0 [.int x, .int y, .null] ae ad sh σ (mEq (some (.int x)) ad sh σ) := by
  refine Ct.ofL (own := RJ3) (ini := false) (ls := [some (.int x), some (.int y), some (.null)]) (by decide +kernel) rfl (fun h => by cases h) (Nat.le_of_ble_eq_true rfl) rfl ?_
  refine ev_iload_0 dJ3_checkIndex_8e157_0 ?_
  refine ev_if_lt (tgt := 9) dJ3_checkIndex_8e157_1 (by decide) (fun h1 => absurd h1 g0) (fun h1 => ?_)
  refine ev_iload_0 dJ3_checkIndex_8e157_4 ?_
  refine ev_iload_1 dJ3_checkIndex_8e157_5 ?_
  refine ev_icmp_lt (tgt := 16) dJ3_checkIndex_8e157_6 (by decide) (fun h6 => ?_) (fun h6 => absurd g1 h6)
  refine ev_iload_0 dJ3_checkIndex_8e157_16 ?_
  exact ev_ireturn dJ3_checkIndex_8e157_17
set_option maxRecDepth 100000 in
set_option maxHeartbeats 4000000 in
theorem c_chk3r {ae ad : Nat → Nat} {sh : mSh} {σ : mSt} {z : Nat} {x y : Int32} (g0 : ¬ x < 0) (g1 : x < y) : Ct yJ3_checkIndex_8e157 cJ3_checkIndex_8e157 3 (some .int) 0 0 0 [.int x, .int y, .ref z] ae ad sh σ (mEq (some (.int x)) ad sh σ) := by
  refine Ct.ofL (own := RJ3) (ini := false) (ls := [some (.int x), some (.int y), some (.ref z)]) (by decide +kernel) rfl (fun h => by cases h) (Nat.le_of_ble_eq_true rfl) rfl ?_
  refine ev_iload_0 dJ3_checkIndex_8e157_0 ?_
  refine ev_if_lt (tgt := 9) dJ3_checkIndex_8e157_1 (by decide) (fun h1 => absurd h1 g0) (fun h1 => ?_)
  refine ev_iload_0 dJ3_checkIndex_8e157_4 ?_
  refine ev_iload_1 dJ3_checkIndex_8e157_5 ?_
  refine ev_icmp_lt (tgt := 16) dJ3_checkIndex_8e157_6 (by decide) (fun h6 => ?_) (fun h6 => absurd g1 h6)
  refine ev_iload_0 dJ3_checkIndex_8e157_16 ?_
  exact ev_ireturn dJ3_checkIndex_8e157_17
theorem c_chk3 {ae ad : Nat → Nat} {sh : mSh} {σ : mSt} {x y : Int32} (g0 : ¬ x < 0) (g1 : x < y) : Ct yJ3_checkIndex_8e157 cJ3_checkIndex_8e157 3 (some .int) 0 0 0 [.int x, .int y, mFmt ae] ae ad sh σ (mEq (some (.int x)) ad sh σ) := by
  unfold mFmt
  split
  · exact c_chk3n g0 g1
  · exact c_chk3r g0 g1
set_option maxRecDepth 100000 in
set_option maxHeartbeats 4000000 in
theorem c_chk {ae ad : Nat → Nat} {sh : mSh} {σ : mSt} {x y : Int32} (g0 : ¬ x < 0) (g1 : x < y) : Ct yJ0_checkIndex_df160 cJ0_checkIndex_df160 2 none 1 0 0 [.int x, .int y] ae ad sh σ (mEq none ad sh σ) := by
  refine Ct.ofL (own := RJ0) (ini := false) (ls := [some (.int x), some (.int y)]) (by decide +kernel) rfl (fun h => by cases h) (Nat.le_of_ble_eq_true rfl) rfl ?_
  refine ev_iload_0 dJ0_checkIndex_df160_0 ?_
  refine ev_iload_1 dJ0_checkIndex_df160_1 ?_
  refine ev_getsF fw_J0_1053 dJ0_checkIndex_df160_2 ?_
  refine cl_J0_1059 (c_chk3 g0 g1) dJ0_checkIndex_df160_5 rfl (Nat.le_of_ble_eq_true rfl) ?_
  refine ev_pop dJ0_checkIndex_df160_8 rfl ?_
  exact ev_return dJ0_checkIndex_df160_9
set_option maxRecDepth 100000 in
set_option maxHeartbeats 4000000 in
theorem c_charAt1 {ae ad : Nat → Nat} {sh : mSh} {σ : mSt} {i : Nat} (hi : i < 20) {j : Nat} (hj : j < slen i) : Ct yJ1_charAt_3b067 cJ1_charAt_3b067 2 (some .char) 2 0 0 [.ref (ae (200 + i)), .int (nI j)] ae ad sh σ (mEq (some (.int (sgn i j))) ad sh σ) := by
  refine Ct.ofL (own := RJ1) (ini := false) (ls := [some (.ref (ae (200 + i))), some (.int (nI j))]) (by decide +kernel) rfl (fun h => by cases h) (Nat.le_of_ble_eq_true rfl) rfl ?_
  have h100 : mLen.getD i 0 < 100 := slen_le i hi
  have hj2 : j < mLen.getD i 0 := hj
  refine ev_iload_1 dJ1_charAt_3b067_0 ?_
  refine ev_aload_0 dJ1_charAt_3b067_1 ?_
  refine ev_sulen hi rfl dJ1_charAt_3b067_2 ?_
  refine cl_J1_9 (c_chk (nI_pos (by omega)) (nI_lt hj2 (by omega))) dJ1_charAt_3b067_3 rfl (Nat.le_of_ble_eq_true rfl) ?_
  refine ev_aload_0 dJ1_charAt_3b067_6 ?_
  refine ev_iload_1 dJ1_charAt_3b067_7 ?_
  refine ev_sbald hi (vp_in_nI hj2 (by omega)) dJ1_charAt_3b067_8 ?_
  refine ev_sipush_255 dJ1_charAt_3b067_9 ?_
  refine ev_iand dJ1_charAt_3b067_12 ?_
  refine ev_i2c dJ1_charAt_3b067_13 ?_
  exact ev_zret (nar_sgn hi hj) dJ1_charAt_3b067_14 (by rw [nI_clamp (by omega)]; exact sgn_ch i hi j hj) rfl
set_option maxRecDepth 100000 in
set_option maxHeartbeats 4000000 in
theorem c_charAt {ae ad : Nat → Nat} {sh : mSh} {σ : mSt} {i : Nat} (hi : i < 20) {j : Nat} (hj : j < slen i) : Ct yJ0_charAt_5068e cJ0_charAt_5068e 2 (some .char) 3 0 0 [.ref (ae (100 + i)), .int (nI j)] ae ad sh σ (mEq (some (.int (sgn i j))) ad sh σ) := by
  refine Ct.ofL (own := RJ0) (ini := false) (ls := [some (.ref (ae (100 + i))), some (.int (nI j))]) (by decide +kernel) rfl (fun h => by cases h) (Nat.le_of_ble_eq_true rfl) rfl ?_
  refine ev_aload_0 dJ0_charAt_5068e_0 ?_
  refine ct_J0_492 (c_isLatin1 hi) hi dJ0_charAt_5068e_1 rfl (Nat.le_of_ble_eq_true rfl) ?_
  refine ev_if_eq (tgt := 16) dJ0_charAt_5068e_4 (by decide) (fun h4 => absurd h4 (by decide)) (fun h4 => ?_)
  refine ev_aload_0 dJ0_charAt_5068e_7 ?_
  refine ev_svalue hi dJ0_charAt_5068e_8 ?_
  refine ev_iload_1 dJ0_charAt_5068e_11 ?_
  refine cl_J0_495 (c_charAt1 hi hj) dJ0_charAt_5068e_12 rfl (Nat.le_of_ble_eq_true rfl) ?_
  exact ev_zret (nar_sgn hi hj) dJ0_charAt_5068e_15 rfl rfl
