/-- signs laid into a row one behind the other -/
def wrL (W : Nat → Int32) : Nat → List Int32 → Nat → Int32
  | _, [] => W
  | n, x :: L => wrL (upd W n x) (n + 1) L
theorem wrL_app (W : Nat → Int32) : ∀ (L : List Int32) (n : Nat) (L2 : List Int32), wrL W n (L ++ L2) = wrL (wrL W n L) (n + L.length) L2
  | [], n, L2 => by rw [List.nil_append, wrL]; rfl
  | x :: L, n, L2 => by
    rw [List.cons_append, wrL, wrL, wrL_app _ L (n + 1) L2, List.length_cons, show n + 1 + L.length = n + (L.length + 1) by omega]
theorem wrL_snoc (W : Nat → Int32) (L : List Int32) (x : Int32) : upd (wrL W 0 L) L.length x = wrL W 0 (L ++ [x]) := by
  rw [wrL_app, wrL, wrL, Nat.zero_add]
theorem wrL_lo (W : Nat → Int32) : ∀ (L : List Int32) (n i : Nat), i < n → wrL W n L i = W i
  | [], _, _, _ => rfl
  | x :: L, n, i, h => by rw [wrL, wrL_lo _ L (n + 1) i (by omega), upd_ne (by omega)]
theorem wrL_at (W : Nat → Int32) : ∀ (L : List Int32) (n i : Nat) (x : Int32), L[i]? = some x → wrL W n L (n + i) = x
  | [], _, _, _, h => by simp at h
  | y :: L, n, 0, x, h => by
    simp at h
    rw [wrL]
    show wrL (upd W n y) (n + 1) L n = x
    rw [wrL_lo _ _ _ _ (Nat.lt_succ_self n), upd_at, h]
  | y :: L, n, i + 1, x, h => by
    rw [wrL, show n + (i + 1) = n + 1 + i by omega]
    exact wrL_at _ L (n + 1) i x (by simpa using h)
theorem inL {len : Nat} (hl : len < 2 ^ 30) (i : Int32) : (inB i 0 (nI len - 1) = true ∧ ∃ k, k < len ∧ i = nI k) ∨ (inB i 0 (nI len - 1) = false ∧ (i < 0 ∨ len ≤ i.toNatClampNeg)) := by
  by_cases h0 : i < 0
  · exact Or.inr ⟨inB_f (Or.inl h0), Or.inl h0⟩
  · obtain ⟨k, hk, e⟩ := nI_of h0
    subst e
    by_cases h : k < len
    · refine Or.inl ⟨?_, k, h, rfl⟩
      rw [lI1, nI_sub (by omega)]
      exact inB_n (b := 0) rfl rfl (Nat.zero_le _) (by omega) (by omega)
    · refine Or.inr ⟨inB_f (Or.inr ?_), Or.inr (by rw [nI_clamp hk]; omega)⟩
      rcases Nat.eq_zero_or_pos len with z | z
      · rw [z, Int32.lt_iff_toInt_lt, nI_toInt hk]
        have : (nI 0 - 1 : Int32).toInt = -1 := by decide
        omega
      · rw [lI1, nI_sub z]; exact nI_lt (by omega) hk

set_option maxRecDepth 100000 in
set_option maxHeartbeats 4000000 in
theorem c_mLet {ae ad : Nat → Nat} {sh : mSh} {σ : mSt} {m : Nat} (h1 : 1 ≤ m) (h2 : m ≤ 12) : Ct yX10_letterOf cX10_letterOf 1 (some .int) 0 0 0 [.int (nI (m - 1))] ae ad sh σ (mEq (some (.int (nI (leN m)))) ad sh σ) := by
  refine Ct.ofL (own := RX10) (ini := false) (ls := [some (.int (nI (m - 1)))]) (by decide +kernel) rfl (fun h => by cases h) (Nat.le_of_ble_eq_true rfl) rfl ?_
  refine ev_iload_0 dX10_letterOf_0 ?_
  refine ev_bipush_6 dX10_letterOf_1 ?_
  refine ev_icmp_ge (tgt := 13) dX10_letterOf_3 (by decide) (fun h3 => ?_) (fun h3 => ?_)
  · refine ev_bipush_97 dX10_letterOf_13 ?_
    refine ev_iload_0 dX10_letterOf_15 ?_
    refine ev_iadd dX10_letterOf_16 ?_
    rw [show (97 : Int32) + nI ((m - 1)) = nI (97 + ((m - 1))) from nI_add (97) ((m - 1))]
    refine ev_bipush_6 dX10_letterOf_17 ?_
    refine ev_isub dX10_letterOf_19 ?_
    exact ev_iret dX10_letterOf_20 (by
      unfold leN
      first
      | (have h6 : m ≤ 6 := by have := (nI_ltI (by omega) (b := 6) (by decide)).mp (Int32.not_le.mp h3); omega
         rw [if_pos h6]; congr 1; omega)
      | (have h6 : ¬ m ≤ 6 := fun z => absurd h3 (nI_ge (b := 6) (by omega) (by decide))
         rw [if_neg h6, show (6 : Int32) = nI 6 from rfl, nI_sub (by omega)]; congr 1; omega)) rfl
  · refine ev_bipush_65 dX10_letterOf_6 ?_
    refine ev_iload_0 dX10_letterOf_8 ?_
    refine ev_iadd dX10_letterOf_9 ?_
    rw [show (65 : Int32) + nI ((m - 1)) = nI (65 + ((m - 1))) from nI_add (65) ((m - 1))]
    refine ev_goto (tgt := 20) dX10_letterOf_10 (by decide) ?_
    exact ev_iret dX10_letterOf_20 (by
      unfold leN
      first
      | (have h6 : m ≤ 6 := by have := (nI_ltI (by omega) (b := 6) (by decide)).mp (Int32.not_le.mp h3); omega
         rw [if_pos h6]; congr 1; omega)
      | (have h6 : ¬ m ≤ 6 := fun z => absurd h3 (nI_ge (b := 6) (by omega) (by decide))
         rw [if_neg h6, show (6 : Int32) = nI 6 from rfl, nI_sub (by omega)]; congr 1; omega)) rfl
set_option maxRecDepth 100000 in
set_option maxHeartbeats 4000000 in
theorem c_mAns0 {ae ad : Nat → Nat} {sh : mSh} {σ : mSt} (hm : mModel ad sh) {W : Nat → Int32} {L : List Int32} (hw : σ.1 75 = wrL W 0 L) (hl : L.length ≤ 60) : Ct yX10_answers cX10_answers 3 (some .int) 1 0 0 [.ref (ad 61), .int (-1), .int (nI L.length)] ae ad sh σ (mEq (some (.int (ansL L (-1)))) ad sh σ) := by
  refine Ct.ofL (own := RX10) (ini := false) (ls := [some (.ref (ad 61)), some (.int (-1)), some (.int (nI L.length))]) (by decide +kernel) rfl (fun h => by cases h) (Nat.le_of_ble_eq_true rfl) rfl ?_
  refine ev_iload_1 dX10_answers_0 ?_
  refine ev_iconst_m1 dX10_answers_1 ?_
  refine ev_icmp_ne (tgt := 9) dX10_answers_2 (by decide) (fun h2 => absurd h2 (fun z => z rfl)) (fun h2 => ?_)
  refine ev_iload_2 dX10_answers_5 ?_
  refine ev_goto (tgt := 30) dX10_answers_6 (by decide) ?_
  exact ev_iret dX10_answers_30 rfl rfl
set_option maxRecDepth 100000 in
set_option maxHeartbeats 4000000 in
theorem c_mAnsS {ae ad : Nat → Nat} {sh : mSh} {σ : mSt} (hm : mModel ad sh) {W : Nat → Int32} {L : List Int32} (hw : σ.1 75 = wrL W 0 L) (hl : L.length ≤ 60) {k : Nat} (hk : k < L.length) : Ct yX10_answers cX10_answers 3 (some .int) 1 0 0 [.ref (ad 61), .int (nI k), .int (nI L.length)] ae ad sh σ (mEq (some (.int (ansL L (nI k)))) ad sh σ) := by
  refine Ct.ofL (own := RX10) (ini := false) (ls := [some (.ref (ad 61)), some (.int (nI k)), some (.int (nI L.length))]) (by decide +kernel) rfl (fun h => by cases h) (Nat.le_of_ble_eq_true rfl) rfl ?_
  have hk1 : ¬ nI k = -1 := fun z => nI_pos (n := k) (by omega) (by rw [z]; decide)
  have hin : inB (nI k) 0 (nI L.length - 1) = true := by
    rcases inL (len := L.length) (by omega) (nI k) with z | z
    · exact z.1
    · exact absurd z.2 (fun y => y.elim (nI_pos (by omega)) (fun q => by rw [nI_clamp (by omega)] at q; omega))
  refine ev_iload_1 dX10_answers_0 ?_
  refine ev_iconst_m1 dX10_answers_1 ?_
  refine ev_icmp_ne (tgt := 9) dX10_answers_2 (by decide) (fun h2 => ?_) (fun h2 => ?_)
  · refine ev_iload_1 dX10_answers_9 ?_
    refine ev_iconst_0 dX10_answers_10 ?_
    refine ev_iload_2 dX10_answers_11 ?_
    refine ev_iconst_1 dX10_answers_12 ?_
    refine ev_isub dX10_answers_13 ?_
    refine cl_X10_61 c_mIn dX10_answers_14 rfl (Nat.le_of_ble_eq_true rfl) ?_
    rw [hin]
    refine ev_if_eq (tgt := 29) dX10_answers_17 (by decide) (fun h17 => absurd h17 (by decide)) (fun h17 => ?_)
    refine ev_aload_0 dX10_answers_20 ?_
    refine gf_X10_51 dX10_answers_21 hm.1 rfl ?_
    refine ev_iload_1 dX10_answers_24 ?_
    refine ev_ldk (k := k) hm.2.2.2.2.2.2.2.2.2.2.2.2.2.2 hw rfl (by omega) (by decide) dX10_answers_25 ?_
    refine ev_goto (tgt := 30) dX10_answers_26 (by decide) ?_
    have e : L[k]? = some L[k] := List.getElem?_eq_getElem hk
    have ea := wrL_at W L 0 k _ e
    rw [Nat.zero_add] at ea
    exact ev_iret dX10_answers_30 (by rw [ea, ansL, if_neg hk1, if_neg (nI_pos (by omega)), nI_clamp (by omega), e]; rfl) rfl
  · exact absurd h2 hk1
set_option maxRecDepth 100000 in
set_option maxHeartbeats 4000000 in
theorem c_mAnsN {ae ad : Nat → Nat} {sh : mSh} {σ : mSt} (hm : mModel ad sh) {W : Nat → Int32} {L : List Int32} (hw : σ.1 75 = wrL W 0 L) (hl : L.length ≤ 60) {i : Int32} (hi1 : ¬ i = -1) (hi : i < 0 ∨ L.length ≤ i.toNatClampNeg) : Ct yX10_answers cX10_answers 3 (some .int) 1 0 0 [.ref (ad 61), .int i, .int (nI L.length)] ae ad sh σ (mEq (some (.int (ansL L i))) ad sh σ) := by
  refine Ct.ofL (own := RX10) (ini := false) (ls := [some (.ref (ad 61)), some (.int i), some (.int (nI L.length))]) (by decide +kernel) rfl (fun h => by cases h) (Nat.le_of_ble_eq_true rfl) rfl ?_
  have hin : inB i 0 (nI L.length - 1) = false := by
    rcases inL (len := L.length) (by omega) i with z | z
    · obtain ⟨z1, k, hk, e⟩ := z
      subst e
      exact absurd hi (fun y => y.elim (nI_pos (by omega)) (fun q => by rw [nI_clamp (by omega)] at q; omega))
    · exact z.1
  refine ev_iload_1 dX10_answers_0 ?_
  refine ev_iconst_m1 dX10_answers_1 ?_
  refine ev_icmp_ne (tgt := 9) dX10_answers_2 (by decide) (fun h2 => ?_) (fun h2 => ?_)
  · refine ev_iload_1 dX10_answers_9 ?_
    refine ev_iconst_0 dX10_answers_10 ?_
    refine ev_iload_2 dX10_answers_11 ?_
    refine ev_iconst_1 dX10_answers_12 ?_
    refine ev_isub dX10_answers_13 ?_
    refine cl_X10_61 c_mIn dX10_answers_14 rfl (Nat.le_of_ble_eq_true rfl) ?_
    rw [hin]
    refine ev_if_eq (tgt := 29) dX10_answers_17 (by decide) (fun h17 => ?_) (fun h17 => absurd rfl h17)
    refine ev_iconst_m1 dX10_answers_29 ?_
    exact ev_iret dX10_answers_30 (by
      unfold ansL
      rw [if_neg hi1]
      split
      · rfl
      · rename_i h0
        rw [List.getElem?_eq_none (hi.resolve_left h0)]; rfl) rfl
  · exact absurd h2 hi1
theorem c_mAns {ae ad : Nat → Nat} {sh : mSh} {σ : mSt} (hm : mModel ad sh) {W : Nat → Int32} {L : List Int32} (hw : σ.1 75 = wrL W 0 L) (hl : L.length ≤ 60) {i : Int32} : Ct yX10_answers cX10_answers 3 (some .int) 1 0 0 [.ref (ad 61), .int i, .int (nI L.length)] ae ad sh σ (mEq (some (.int (ansL L i))) ad sh σ) := by
  by_cases h : i = -1
  · subst h; exact c_mAns0 hm hw hl
  · rcases inL (len := L.length) (by omega) i with ⟨_, k, hk, e⟩ | ⟨_, z⟩
    · subst e; exact c_mAnsS hm hw hl hk
    · exact c_mAnsN hm hw hl h z
set_option maxRecDepth 100000 in
set_option maxHeartbeats 4000000 in
theorem c_mSquare {ae ad : Nat → Nat} {sh : mSh} {σ : mSt} (hm : mModel ad sh) {g : Nat → Int32} (hg : σ.1 62 = g) (hG : wfP g) {W : Nat → Int32} (hw : σ.1 75 = W) {n q : Nat} (hn : n < 59) (hq : q < 36) : Ct yX10_square cX10_square 3 (some .int) 1 0 0 [.ref (ad 61), .int (nI n), .int (nI q)] ae ad sh σ (mPi ad sh (fun x σ' => x = nI (n + 2) ∧ σ'.1 75 = upd (upd W n (nI (97 + q % cN g))) (n + 1) (nI (49 + q / cN g)) ∧ (∀ j, j ≠ 75 → σ'.1 j = σ.1 j) ∧ σ'.2 = σ.2)) := by
  refine Ct.ofL (own := RX10) (ini := false) (ls := [some (.ref (ad 61)), some (.int (nI n)), some (.int (nI q))]) (by decide +kernel) rfl (fun h => by cases h) (Nat.le_of_ble_eq_true rfl) rfl ?_
  have hc := hG.1.2
  refine ev_aload_0 dX10_square_0 ?_
  refine gf_X10_51 dX10_square_1 hm.1 rfl ?_
  refine ev_iload_1 dX10_square_4 ?_
  refine ev_bipush_97 dX10_square_5 ?_
  refine ev_iload_2 dX10_square_7 ?_
  refine ev_aload_0 dX10_square_8 ?_
  refine gf_X10_11 dX10_square_9 hm.1 rfl ?_
  refine ev_bipush_53 dX10_square_12 ?_
  refine ev_ldk (k := 53) hm.2.1 hg rfl (by omega) (by decide) dX10_square_14 ?_
  rw [hG.1.1]
  refine ev_irem dX10_square_15 (nI_ne0 (by omega) (by omega)) ?_
  rw [remI (by omega) (by omega) (by omega), iI_nat]
  refine ev_iadd dX10_square_16 ?_
  rw [show (97 : Int32) + nI ((q % cN g)) = nI (97 + ((q % cN g))) from nI_add (97) ((q % cN g))]
  refine ev_stk (k := n) hm.2.2.2.2.2.2.2.2.2.2.2.2.2.2 hw rfl (by omega) (by decide) dX10_square_17 (fun σ17 hw17 hf17 hl17 => ?_)
  have znow_17 := (hf17 62 (by decide)).trans hg
  refine ev_aload_0 dX10_square_18 ?_
  refine gf_X10_51 dX10_square_19 hm.1 rfl ?_
  refine ev_iload_1 dX10_square_22 ?_
  refine ev_iconst_1 dX10_square_23 ?_
  refine ev_iadd dX10_square_24 ?_
  rw [show nI n + (1 : Int32) = nI (n + 1) from nI_add (n) (1)]
  refine ev_bipush_49 dX10_square_25 ?_
  refine ev_aload_0 dX10_square_27 ?_
  refine ev_iload_2 dX10_square_28 ?_
  refine cl_X10_152 (c_mRow hm znow_17 hG (q := (q)) (by omega)) hm.1 dX10_square_29 rfl (Nat.le_of_ble_eq_true rfl) ?_
  skip
  refine ev_iadd dX10_square_32 ?_
  rw [show (49 : Int32) + nI ((q / cN g)) = nI (49 + ((q / cN g))) from nI_add (49) ((q / cN g))]
  refine ev_stk (k := n + 1) hm.2.2.2.2.2.2.2.2.2.2.2.2.2.2 hw17 rfl (by omega) (by decide) dX10_square_33 (fun σ33 hw33 hf33 hl33 => ?_)
  have znow_33 := (hf33 62 (by decide)).trans znow_17
  refine ev_iload_1 dX10_square_34 ?_
  refine ev_iconst_2 dX10_square_35 ?_
  refine ev_iadd dX10_square_36 ?_
  rw [show nI n + (2 : Int32) = nI (n + 2) from nI_add (n) (2)]
  exact ev_pi dX10_square_37 ⟨rfl, hw33, fun j x75 => by rw [hf33 j x75, hf17 j x75], by rw [hl33, hl17]⟩
/-- what the reference has written of a row after i squares -/
def preF (g : Nat → Int32) (y i : Nat) : List Int32 := (rowF g y i).1 ++ (if i = cN g ∨ 1 ≤ mN g (y * cN g + i) then emL (rowF g y i).2 else [])
theorem preF_len (g : Nat → Int32) (y i : Nat) : (preF g y i).length ≤ i := by
  have := (rowF_len g y i).1
  unfold preF
  rw [List.length_append]
  split
  · rw [emL_len]; omega
  · simp; omega
theorem preF_man {g : Nat → Int32} {y i : Nat} (h : 1 ≤ mN g (y * cN g + i)) : preF g y (i + 1) = preF g y i ++ [nI (leN (mN g (y * cN g + i)))] := by
  have e : rowF g y (i + 1) = ((rowF g y i).1 ++ emL (rowF g y i).2 ++ [nI (leN (mN g (y * cN g + i)))], 0) := by rw [rowF, if_neg (by omega)]
  unfold preF
  rw [e, if_pos (Or.inr h)]
  dsimp only
  split <;> simp [emL]
theorem preF_dig {g : Nat → Int32} {y i : Nat} (hi : i < cN g) (h : mN g (y * cN g + i) = 0) (hl : i + 1 = cN g ∨ 1 ≤ mN g (y * cN g + (i + 1))) : preF g y (i + 1) = preF g y i ++ [nI (48 + ((rowF g y i).2 + 1))] := by
  have e : rowF g y (i + 1) = ((rowF g y i).1, (rowF g y i).2 + 1) := by rw [rowF, if_pos h]
  unfold preF
  rw [e, if_pos hl, if_neg (by omega), List.append_nil]
  rfl
theorem preF_no {g : Nat → Int32} {y i : Nat} (hi : i < cN g) (h : mN g (y * cN g + i) = 0) (hl : ¬ (i + 1 = cN g ∨ 1 ≤ mN g (y * cN g + (i + 1)))) : preF g y (i + 1) = preF g y i := by
  have e : rowF g y (i + 1) = ((rowF g y i).1, (rowF g y i).2 + 1) := by rw [rowF, if_pos h]
  unfold preF
  rw [e, if_neg hl, if_neg (by omega)]
theorem preF_all (g : Nat → Int32) (y : Nat) : preF g y (cN g) = rowL g y := by
  unfold preF rowL
  rw [if_pos (Or.inl rfl)]
/-- the reference's text is L -/
def wsR (σ σ' : mSt) (L : List Int32) : Prop := σ'.1 75 = wrL (σ.1 75) 0 L ∧ (∀ j, j ≠ 75 → σ'.1 j = σ.1 j) ∧ σ'.2 = σ.2
theorem wsR.add {σ σ2 σ3 : mSt} {L : List Int32} {x : Int32} (h : wsR σ σ2 L) (e : σ3.1 75 = upd (wrL (σ.1 75) 0 L) L.length x) (f : ∀ j, j ≠ 75 → σ3.1 j = σ2.1 j) (f2 : σ3.2 = σ2.2) : wsR σ σ3 (L ++ [x]) := ⟨e.trans (wrL_snoc _ _ _), fun j hj => (f j hj).trans (h.2.1 j hj), f2.trans h.2.2⟩
theorem len_s {L : List Int32} {x : Int32} : nI (L.length + 1) = nI (L ++ [x]).length := by rw [List.length_append]; rfl

set_option maxRecDepth 100000 in
set_option maxHeartbeats 4000000 in
theorem c_wr_21 {ae ad : Nat → Nat} {sh : mSh} {σ : mSt} (hm : mModel ad sh) {g : Nat → Int32} (hg : σ.1 62 = g) (hG : wfP g) {L0 : List Int32} {Y : Nat} (hY : Y < rN g) (hl0 : L0.length + cN g ≤ 60) {Post : mPost} (K : ∀ σ3 : mSt, wsR σ σ3 (L0 ++ rowL g Y) → Ev RX10 cX10_writes 7 false (some .int) (mRm 2 0 0) ae Post 152 [some (.ref (ad 61)), some (.int (nI (L0 ++ rowL g Y).length)), some (.int (nI Y)), none, none, none, none] [] 0 0 ad sh σ3) : ∀ (n i : Nat), cN g - i = n → i ≤ cN g → ∀ (L : List Int32) (σ2 : mSt), L = L0 ++ preF g Y i → wsR σ σ2 L → Ev RX10 cX10_writes 7 false (some .int) (mRm 2 0 0) ae Post 21 [some (.ref (ad 61)), some (.int (nI L.length)), some (.int (nI Y)), some (.int (nI (rowF g Y i).2)), some (.int (nI i)), none, none] [] 0 0 ad sh σ2 := by
  have hc := hG.1.2
  intro n
  induction n with
  | zero =>
    intro i hn hi L σ2 hL hws
    have e : i = cN g := by omega
    subst e
    rw [preF_all] at hL
    subst hL
    have hg2 : σ2.1 62 = g := (hws.2.1 62 (by decide)).trans hg
    refine ev_iload_4 dX10_writes_21 ?_
    refine ev_aload_0 dX10_writes_23 ?_
    refine gf_X10_11 dX10_writes_24 hm.1 rfl ?_
    refine ev_bipush_53 dX10_writes_27 ?_
    refine ev_ldk (k := 53) hm.2.1 hg2 rfl (by omega) (by decide) dX10_writes_29 ?_
    rw [hG.1.1]
    refine ev_icmp_ge (tgt := 152) dX10_writes_30 (by decide) (fun h30 => ?_) (fun h30 => absurd (Int32.le_refl _) h30)
    refine ev_drop_3 ?_
    refine ev_drop_4 ?_
    exact K _ hws
  | succ n ih =>
    intro i hn hi L σ2 hL hws
    have hlt : i < cN g := by omega
    have hg2 : σ2.1 62 = g := (hws.2.1 62 (by decide)).trans hg
    have hq := row36 hG hY hlt
    have hmc : cN g * Y + i = Y * cN g + i := by rw [Nat.mul_comm]
    have h12 := wf_m hG hq
    have e0 := m1_neg h12
    have hpl := preF_len g Y i
    have hLl : L.length < 60 := by rw [hL, List.length_append]; omega
    refine ev_iload_4 dX10_writes_21 ?_
    refine ev_aload_0 dX10_writes_23 ?_
    refine gf_X10_11 dX10_writes_24 hm.1 rfl ?_
    refine ev_bipush_53 dX10_writes_27 ?_
    refine ev_ldk (k := 53) hm.2.1 hg2 rfl (by omega) (by decide) dX10_writes_29 ?_
    rw [hG.1.1]
    refine ev_icmp_ge (tgt := 152) dX10_writes_30 (by decide) (fun h30 => absurd h30 (nI_ge hlt (by omega))) (fun h30 => ?_)
    refine ev_aload_0 dX10_writes_33 ?_
    refine ev_aload_0 dX10_writes_34 ?_
    refine gf_X10_11 dX10_writes_35 hm.1 rfl ?_
    refine ev_bipush_53 dX10_writes_38 ?_
    refine ev_ldk (k := 53) hm.2.1 hg2 rfl (by omega) (by decide) dX10_writes_40 ?_
    rw [hG.1.1]
    refine ev_iload_2 dX10_writes_41 ?_
    refine ev_imul dX10_writes_42 ?_
    rw [show nI (cN g) * nI Y = nI ((cN g) * Y) from nI_mul (cN g) (Y)]
    refine ev_iload_4 dX10_writes_43 ?_
    refine ev_iadd dX10_writes_45 ?_
    rw [show nI ((cN g) * Y) + nI i = nI ((cN g) * Y + i) from nI_add ((cN g) * Y) (i)]
    rw [hmc]
    refine cl_X10_69 (c_mMan hm hg2 hG (q := ((Y * cN g + i))) (by omega)) hm.1 dX10_writes_46 rfl (Nat.le_of_ble_eq_true rfl) ?_
    refine ev_istore_5 dX10_writes_49 rfl rfl ?_
    refine ev_iload_5 dX10_writes_51 ?_
    refine ev_if_ge (tgt := 62) dX10_writes_53 (by decide) (fun h53 => ?_) (fun h53 => ?_)
    · skip
      refine ev_iconst_0 dX10_writes_62 ?_
      refine ev_istore_3 dX10_writes_63 rfl rfl ?_
      refine ev_iload_4 dX10_writes_64 ?_
      refine ev_aload_0 dX10_writes_66 ?_
      refine gf_X10_11 dX10_writes_67 hm.1 rfl ?_
      refine ev_bipush_53 dX10_writes_70 ?_
      refine ev_ldk (k := 53) hm.2.1 hg2 rfl (by omega) (by decide) dX10_writes_72 ?_
      rw [hG.1.1]
      refine ev_iconst_1 dX10_writes_73 ?_
      refine ev_isub dX10_writes_74 ?_
      rw [show nI (cN g) - 1 = nI (cN g - 1) from nI_sub (b := 1) (by omega)]
      refine ev_icmp_eq (tgt := 99) dX10_writes_75 (by decide) (fun h75 => ?_) (fun h75 => ?_)
      · refine ev_iconst_1 dX10_writes_99 ?_
        refine ev_goto (tgt := 104) dX10_writes_100 (by decide) ?_
        refine ev_istore_6 dX10_writes_104 rfl rfl ?_
        refine ev_iload_5 dX10_writes_106 ?_
        refine ev_if_lt (tgt := 128) dX10_writes_108 (by decide) (fun h108 => absurd h108 (Int32.not_lt.mpr h53)) (fun h108 => ?_)
        have hm1 : 1 ≤ mN g (Y * cN g + i) := Nat.pos_of_ne_zero (fun z => h108 (e0.mpr z))
        refine ev_aload_0 dX10_writes_111 ?_
        refine gf_X10_51 dX10_writes_112 hm.1 rfl ?_
        refine ev_iload_1 dX10_writes_115 ?_
        refine ev_iinc_1 (v := 1) dX10_writes_116 (by decide) rfl rfl ?_
        rw [show nI (L.length) + 1 = nI (L.length + 1) from nI_add (L.length) 1]
        refine ev_iload_5 dX10_writes_119 ?_
        rw [show nI (mN g (Y * cN g + i)) - 1 = nI (mN g (Y * cN g + i) - 1) from nI_sub hm1]
        refine cl_X10_260 (c_mLet hm1 h12) dX10_writes_121 rfl (Nat.le_of_ble_eq_true rfl) ?_
        refine ev_stk (k := L.length) hm.2.2.2.2.2.2.2.2.2.2.2.2.2.2 hws.1 rfl (by omega) (by decide) dX10_writes_124 (fun σ124 hw124 hf124 hl124 => ?_)
        have znow_124 := (hf124 62 (by decide)).trans hg2
        refine ev_goto (tgt := 146) dX10_writes_125 (by decide) ?_
        refine ev_iinc_4 (v := 1) dX10_writes_146 (by decide) rfl rfl ?_
        rw [show nI i + 1 = nI (i + 1) from nI_add (i) 1]
        refine ev_goto (tgt := 21) dX10_writes_149 (by decide) ?_
        refine ev_drop_5 ?_
        refine ev_drop_6 ?_
        have er : (rowF g Y (i + 1)).2 = 0 := by rw [rowF, if_neg (by omega)]
        exact Ev.to (by rw [er, len_s]; rfl) rfl rfl (ih (i + 1) (by omega) (by omega) (L ++ [nI (leN (mN g (Y * cN g + i)))]) _ (by rw [hL, preF_man hm1, List.append_assoc]) (hws.add hw124 hf124 hl124))
      · have hx1 : ¬ i + 1 = cN g := fun z => h75 (by congr 1; omega)
        have h36b := row36 hG hY (show i + 1 < cN g by omega)
        have hmc2 : cN g * Y + i + 1 = Y * cN g + (i + 1) := by rw [Nat.mul_comm]; omega
        refine ev_aload_0 dX10_writes_78 ?_
        refine ev_aload_0 dX10_writes_79 ?_
        refine gf_X10_11 dX10_writes_80 hm.1 rfl ?_
        refine ev_bipush_53 dX10_writes_83 ?_
        refine ev_ldk (k := 53) hm.2.1 hg2 rfl (by omega) (by decide) dX10_writes_85 ?_
        rw [hG.1.1]
        refine ev_iload_2 dX10_writes_86 ?_
        refine ev_imul dX10_writes_87 ?_
        rw [show nI (cN g) * nI Y = nI ((cN g) * Y) from nI_mul (cN g) (Y)]
        refine ev_iload_4 dX10_writes_88 ?_
        refine ev_iadd dX10_writes_90 ?_
        rw [show nI ((cN g) * Y) + nI i = nI ((cN g) * Y + i) from nI_add ((cN g) * Y) (i)]
        refine ev_iconst_1 dX10_writes_91 ?_
        refine ev_iadd dX10_writes_92 ?_
        rw [show nI ((cN g) * Y + i) + (1 : Int32) = nI ((cN g) * Y + i + 1) from nI_add ((cN g) * Y + i) (1)]
        rw [hmc2]
        refine cl_X10_69 (c_mMan hm hg2 hG (q := ((Y * cN g + (i + 1)))) (by omega)) hm.1 dX10_writes_93 rfl (Nat.le_of_ble_eq_true rfl) ?_
        refine ev_if_lt (tgt := 103) dX10_writes_96 (by decide) (fun h96 => ?_) (fun h96 => ?_)
        · refine ev_iconst_0 dX10_writes_103 ?_
          refine ev_istore_6 dX10_writes_104 rfl rfl ?_
          refine ev_iload_5 dX10_writes_106 ?_
          refine ev_if_lt (tgt := 128) dX10_writes_108 (by decide) (fun h108 => absurd h108 (Int32.not_lt.mpr h53)) (fun h108 => ?_)
          have hm1 : 1 ≤ mN g (Y * cN g + i) := Nat.pos_of_ne_zero (fun z => h108 (e0.mpr z))
          refine ev_aload_0 dX10_writes_111 ?_
          refine gf_X10_51 dX10_writes_112 hm.1 rfl ?_
          refine ev_iload_1 dX10_writes_115 ?_
          refine ev_iinc_1 (v := 1) dX10_writes_116 (by decide) rfl rfl ?_
          rw [show nI (L.length) + 1 = nI (L.length + 1) from nI_add (L.length) 1]
          refine ev_iload_5 dX10_writes_119 ?_
          rw [show nI (mN g (Y * cN g + i)) - 1 = nI (mN g (Y * cN g + i) - 1) from nI_sub hm1]
          refine cl_X10_260 (c_mLet hm1 h12) dX10_writes_121 rfl (Nat.le_of_ble_eq_true rfl) ?_
          refine ev_stk (k := L.length) hm.2.2.2.2.2.2.2.2.2.2.2.2.2.2 hws.1 rfl (by omega) (by decide) dX10_writes_124 (fun σ124 hw124 hf124 hl124 => ?_)
          have znow_124 := (hf124 62 (by decide)).trans hg2
          refine ev_goto (tgt := 146) dX10_writes_125 (by decide) ?_
          refine ev_iinc_4 (v := 1) dX10_writes_146 (by decide) rfl rfl ?_
          rw [show nI i + 1 = nI (i + 1) from nI_add (i) 1]
          refine ev_goto (tgt := 21) dX10_writes_149 (by decide) ?_
          refine ev_drop_5 ?_
          refine ev_drop_6 ?_
          have er : (rowF g Y (i + 1)).2 = 0 := by rw [rowF, if_neg (by omega)]
          exact Ev.to (by rw [er, len_s]; rfl) rfl rfl (ih (i + 1) (by omega) (by omega) (L ++ [nI (leN (mN g (Y * cN g + i)))]) _ (by rw [hL, preF_man hm1, List.append_assoc]) (hws.add hw124 hf124 hl124))
        · refine ev_iconst_1 dX10_writes_99 ?_
          refine ev_goto (tgt := 104) dX10_writes_100 (by decide) ?_
          refine ev_istore_6 dX10_writes_104 rfl rfl ?_
          refine ev_iload_5 dX10_writes_106 ?_
          refine ev_if_lt (tgt := 128) dX10_writes_108 (by decide) (fun h108 => absurd h108 (Int32.not_lt.mpr h53)) (fun h108 => ?_)
          have hm1 : 1 ≤ mN g (Y * cN g + i) := Nat.pos_of_ne_zero (fun z => h108 (e0.mpr z))
          refine ev_aload_0 dX10_writes_111 ?_
          refine gf_X10_51 dX10_writes_112 hm.1 rfl ?_
          refine ev_iload_1 dX10_writes_115 ?_
          refine ev_iinc_1 (v := 1) dX10_writes_116 (by decide) rfl rfl ?_
          rw [show nI (L.length) + 1 = nI (L.length + 1) from nI_add (L.length) 1]
          refine ev_iload_5 dX10_writes_119 ?_
          rw [show nI (mN g (Y * cN g + i)) - 1 = nI (mN g (Y * cN g + i) - 1) from nI_sub hm1]
          refine cl_X10_260 (c_mLet hm1 h12) dX10_writes_121 rfl (Nat.le_of_ble_eq_true rfl) ?_
          refine ev_stk (k := L.length) hm.2.2.2.2.2.2.2.2.2.2.2.2.2.2 hws.1 rfl (by omega) (by decide) dX10_writes_124 (fun σ124 hw124 hf124 hl124 => ?_)
          have znow_124 := (hf124 62 (by decide)).trans hg2
          refine ev_goto (tgt := 146) dX10_writes_125 (by decide) ?_
          refine ev_iinc_4 (v := 1) dX10_writes_146 (by decide) rfl rfl ?_
          rw [show nI i + 1 = nI (i + 1) from nI_add (i) 1]
          refine ev_goto (tgt := 21) dX10_writes_149 (by decide) ?_
          refine ev_drop_5 ?_
          refine ev_drop_6 ?_
          have er : (rowF g Y (i + 1)).2 = 0 := by rw [rowF, if_neg (by omega)]
          exact Ev.to (by rw [er, len_s]; rfl) rfl rfl (ih (i + 1) (by omega) (by omega) (L ++ [nI (leN (mN g (Y * cN g + i)))]) _ (by rw [hL, preF_man hm1, List.append_assoc]) (hws.add hw124 hf124 hl124))
    · skip
      refine ev_iload_3 dX10_writes_56 ?_
      refine ev_iconst_1 dX10_writes_57 ?_
      refine ev_iadd dX10_writes_58 ?_
      rw [show nI ((rowF g Y i).2) + (1 : Int32) = nI ((rowF g Y i).2 + 1) from nI_add ((rowF g Y i).2) (1)]
      refine ev_goto (tgt := 63) dX10_writes_59 (by decide) ?_
      refine ev_istore_3 dX10_writes_63 rfl rfl ?_
      refine ev_iload_4 dX10_writes_64 ?_
      refine ev_aload_0 dX10_writes_66 ?_
      refine gf_X10_11 dX10_writes_67 hm.1 rfl ?_
      refine ev_bipush_53 dX10_writes_70 ?_
      refine ev_ldk (k := 53) hm.2.1 hg2 rfl (by omega) (by decide) dX10_writes_72 ?_
      rw [hG.1.1]
      refine ev_iconst_1 dX10_writes_73 ?_
      refine ev_isub dX10_writes_74 ?_
      rw [show nI (cN g) - 1 = nI (cN g - 1) from nI_sub (b := 1) (by omega)]
      refine ev_icmp_eq (tgt := 99) dX10_writes_75 (by decide) (fun h75 => ?_) (fun h75 => ?_)
      · refine ev_iconst_1 dX10_writes_99 ?_
        refine ev_goto (tgt := 104) dX10_writes_100 (by decide) ?_
        refine ev_istore_6 dX10_writes_104 rfl rfl ?_
        refine ev_iload_5 dX10_writes_106 ?_
        refine ev_if_lt (tgt := 128) dX10_writes_108 (by decide) (fun h108 => ?_) (fun h108 => absurd (Int32.not_le.mp h53) h108)
        have hm0 : mN g (Y * cN g + i) = 0 := e0.mp h108
        refine ev_iload_6 dX10_writes_128 ?_
        refine ev_if_eq (tgt := 146) dX10_writes_130 (by decide) (fun h130 => absurd h130 (by decide)) (fun h130 => ?_)
        skip
        refine ev_aload_0 dX10_writes_133 ?_
        refine gf_X10_51 dX10_writes_134 hm.1 rfl ?_
        refine ev_iload_1 dX10_writes_137 ?_
        refine ev_iinc_1 (v := 1) dX10_writes_138 (by decide) rfl rfl ?_
        rw [show nI (L.length) + 1 = nI (L.length + 1) from nI_add (L.length) 1]
        refine ev_bipush_48 dX10_writes_141 ?_
        refine ev_iload_3 dX10_writes_143 ?_
        refine ev_iadd dX10_writes_144 ?_
        rw [show (48 : Int32) + nI ((rowF g Y i).2 + 1) = nI (48 + ((rowF g Y i).2 + 1)) from nI_add (48) ((rowF g Y i).2 + 1)]
        refine ev_stk (k := L.length) hm.2.2.2.2.2.2.2.2.2.2.2.2.2.2 hws.1 rfl (by omega) (by decide) dX10_writes_145 (fun σ145 hw145 hf145 hl145 => ?_)
        have znow_145 := (hf145 62 (by decide)).trans hg2
        refine ev_iinc_4 (v := 1) dX10_writes_146 (by decide) rfl rfl ?_
        rw [show nI i + 1 = nI (i + 1) from nI_add (i) 1]
        refine ev_goto (tgt := 21) dX10_writes_149 (by decide) ?_
        refine ev_drop_5 ?_
        refine ev_drop_6 ?_
        have er : (rowF g Y (i + 1)).2 = (rowF g Y i).2 + 1 := by rw [rowF, if_pos hm0]
        have hlast : (i + 1 = cN g ∨ 1 ≤ mN g (Y * cN g + (i + 1))) := by
          first
          | (refine Or.inl ?_
             have := (nI_eq (by omega) (by omega)).mp h75
             omega)
          | (refine Or.inr ?_
             have hx : ¬ i + 1 = cN g := fun z => h75 (by congr 1; omega)
             have h36b := row36 hG hY (show i + 1 < cN g by omega)
             exact Nat.pos_of_ne_zero (fun z => h96 ((m1_neg (wf_m hG h36b)).mpr z)))
          | (intro z
             have hx : ¬ i + 1 = cN g := fun z => h75 (by congr 1; omega)
             have h36b := row36 hG hY (show i + 1 < cN g by omega)
             have := (m1_neg (wf_m hG h36b)).mp h96
             omega)
        exact Ev.to (by rw [er, len_s (x := nI (48 + ((rowF g Y i).2 + 1)))]) rfl rfl (ih (i + 1) (by omega) (by omega) (L ++ [nI (48 + ((rowF g Y i).2 + 1))]) _ (by rw [hL, preF_dig hlt hm0 hlast, List.append_assoc]) (hws.add hw145 hf145 hl145))
      · have hx1 : ¬ i + 1 = cN g := fun z => h75 (by congr 1; omega)
        have h36b := row36 hG hY (show i + 1 < cN g by omega)
        have hmc2 : cN g * Y + i + 1 = Y * cN g + (i + 1) := by rw [Nat.mul_comm]; omega
        refine ev_aload_0 dX10_writes_78 ?_
        refine ev_aload_0 dX10_writes_79 ?_
        refine gf_X10_11 dX10_writes_80 hm.1 rfl ?_
        refine ev_bipush_53 dX10_writes_83 ?_
        refine ev_ldk (k := 53) hm.2.1 hg2 rfl (by omega) (by decide) dX10_writes_85 ?_
        rw [hG.1.1]
        refine ev_iload_2 dX10_writes_86 ?_
        refine ev_imul dX10_writes_87 ?_
        rw [show nI (cN g) * nI Y = nI ((cN g) * Y) from nI_mul (cN g) (Y)]
        refine ev_iload_4 dX10_writes_88 ?_
        refine ev_iadd dX10_writes_90 ?_
        rw [show nI ((cN g) * Y) + nI i = nI ((cN g) * Y + i) from nI_add ((cN g) * Y) (i)]
        refine ev_iconst_1 dX10_writes_91 ?_
        refine ev_iadd dX10_writes_92 ?_
        rw [show nI ((cN g) * Y + i) + (1 : Int32) = nI ((cN g) * Y + i + 1) from nI_add ((cN g) * Y + i) (1)]
        rw [hmc2]
        refine cl_X10_69 (c_mMan hm hg2 hG (q := ((Y * cN g + (i + 1)))) (by omega)) hm.1 dX10_writes_93 rfl (Nat.le_of_ble_eq_true rfl) ?_
        refine ev_if_lt (tgt := 103) dX10_writes_96 (by decide) (fun h96 => ?_) (fun h96 => ?_)
        · refine ev_iconst_0 dX10_writes_103 ?_
          refine ev_istore_6 dX10_writes_104 rfl rfl ?_
          refine ev_iload_5 dX10_writes_106 ?_
          refine ev_if_lt (tgt := 128) dX10_writes_108 (by decide) (fun h108 => ?_) (fun h108 => absurd (Int32.not_le.mp h53) h108)
          have hm0 : mN g (Y * cN g + i) = 0 := e0.mp h108
          refine ev_iload_6 dX10_writes_128 ?_
          refine ev_if_eq (tgt := 146) dX10_writes_130 (by decide) (fun h130 => ?_) (fun h130 => (by exfalso; revert h130; decide))
          refine ev_iinc_4 (v := 1) dX10_writes_146 (by decide) rfl rfl ?_
          rw [show nI i + 1 = nI (i + 1) from nI_add (i) 1]
          refine ev_goto (tgt := 21) dX10_writes_149 (by decide) ?_
          refine ev_drop_5 ?_
          refine ev_drop_6 ?_
          have er : (rowF g Y (i + 1)).2 = (rowF g Y i).2 + 1 := by rw [rowF, if_pos hm0]
          have hlast : ¬ (i + 1 = cN g ∨ 1 ≤ mN g (Y * cN g + (i + 1))) := by
            first
            | (refine Or.inl ?_
               have := (nI_eq (by omega) (by omega)).mp h75
               omega)
            | (refine Or.inr ?_
               have hx : ¬ i + 1 = cN g := fun z => h75 (by congr 1; omega)
               have h36b := row36 hG hY (show i + 1 < cN g by omega)
               exact Nat.pos_of_ne_zero (fun z => h96 ((m1_neg (wf_m hG h36b)).mpr z)))
            | (intro z
               have hx : ¬ i + 1 = cN g := fun z => h75 (by congr 1; omega)
               have h36b := row36 hG hY (show i + 1 < cN g by omega)
               have := (m1_neg (wf_m hG h36b)).mp h96
               omega)
          exact Ev.to (by rw [er]) rfl rfl (ih (i + 1) (by omega) (by omega) L _ (by rw [hL, preF_no hlt hm0 hlast]) hws)
        · refine ev_iconst_1 dX10_writes_99 ?_
          refine ev_goto (tgt := 104) dX10_writes_100 (by decide) ?_
          refine ev_istore_6 dX10_writes_104 rfl rfl ?_
          refine ev_iload_5 dX10_writes_106 ?_
          refine ev_if_lt (tgt := 128) dX10_writes_108 (by decide) (fun h108 => ?_) (fun h108 => absurd (Int32.not_le.mp h53) h108)
          have hm0 : mN g (Y * cN g + i) = 0 := e0.mp h108
          refine ev_iload_6 dX10_writes_128 ?_
          refine ev_if_eq (tgt := 146) dX10_writes_130 (by decide) (fun h130 => absurd h130 (by decide)) (fun h130 => ?_)
          skip
          refine ev_aload_0 dX10_writes_133 ?_
          refine gf_X10_51 dX10_writes_134 hm.1 rfl ?_
          refine ev_iload_1 dX10_writes_137 ?_
          refine ev_iinc_1 (v := 1) dX10_writes_138 (by decide) rfl rfl ?_
          rw [show nI (L.length) + 1 = nI (L.length + 1) from nI_add (L.length) 1]
          refine ev_bipush_48 dX10_writes_141 ?_
          refine ev_iload_3 dX10_writes_143 ?_
          refine ev_iadd dX10_writes_144 ?_
          rw [show (48 : Int32) + nI ((rowF g Y i).2 + 1) = nI (48 + ((rowF g Y i).2 + 1)) from nI_add (48) ((rowF g Y i).2 + 1)]
          refine ev_stk (k := L.length) hm.2.2.2.2.2.2.2.2.2.2.2.2.2.2 hws.1 rfl (by omega) (by decide) dX10_writes_145 (fun σ145 hw145 hf145 hl145 => ?_)
          have znow_145 := (hf145 62 (by decide)).trans hg2
          refine ev_iinc_4 (v := 1) dX10_writes_146 (by decide) rfl rfl ?_
          rw [show nI i + 1 = nI (i + 1) from nI_add (i) 1]
          refine ev_goto (tgt := 21) dX10_writes_149 (by decide) ?_
          refine ev_drop_5 ?_
          refine ev_drop_6 ?_
          have er : (rowF g Y (i + 1)).2 = (rowF g Y i).2 + 1 := by rw [rowF, if_pos hm0]
          have hlast : (i + 1 = cN g ∨ 1 ≤ mN g (Y * cN g + (i + 1))) := by
            first
            | (refine Or.inl ?_
               have := (nI_eq (by omega) (by omega)).mp h75
               omega)
            | (refine Or.inr ?_
               have hx : ¬ i + 1 = cN g := fun z => h75 (by congr 1; omega)
               have h36b := row36 hG hY (show i + 1 < cN g by omega)
               exact Nat.pos_of_ne_zero (fun z => h96 ((m1_neg (wf_m hG h36b)).mpr z)))
            | (intro z
               have hx : ¬ i + 1 = cN g := fun z => h75 (by congr 1; omega)
               have h36b := row36 hG hY (show i + 1 < cN g by omega)
               have := (m1_neg (wf_m hG h36b)).mp h96
               omega)
          exact Ev.to (by rw [er, len_s (x := nI (48 + ((rowF g Y i).2 + 1)))]) rfl rfl (ih (i + 1) (by omega) (by omega) (L ++ [nI (48 + ((rowF g Y i).2 + 1))]) _ (by rw [hL, preF_dig hlt hm0 hlast, List.append_assoc]) (hws.add hw145 hf145 hl145))
set_option maxRecDepth 100000 in
set_option maxHeartbeats 4000000 in
theorem c_wr_12 {ae ad : Nat → Nat} {sh : mSh} {σ : mSt} (hm : mModel ad sh) {g : Nat → Int32} (hg : σ.1 62 = g) (hG : wfP g) : ∀ (n j : Nat), rN g - j = n → j ≤ rN g → ∀ σ2 : mSt, wsR σ σ2 (texF g j) → Ev RX10 cX10_writes 7 false (some .int) (mRm 2 0 0) ae (mPi ad sh (fun x σ' => x = nI (texF g (rN g)).length ∧ wsR σ σ' (texF g (rN g)))) 12 [some (.ref (ad 61)), some (.int (nI (texF g j).length)), some (.int (nI (rN g - j) - 1)), none, none, none, none] [] 0 0 ad sh σ2 := by
  have hr6 := hG.2.1.2
  have hc6 := hG.1.2
  intro n
  induction n with
  | zero =>
    intro j hn hj σ2 hws
    have e : j = rN g := by omega
    subst e
    rw [Nat.sub_self]
    refine ev_iload_2 dX10_writes_12 ?_
    refine ev_if_lt (tgt := 173) dX10_writes_13 (by decide) (fun h13 => ?_) (fun h13 => absurd (by decide) h13)
    refine ev_iload_1 dX10_writes_173 ?_
    exact ev_pi dX10_writes_174 ⟨rfl, hws⟩
  | succ n ih =>
    intro j hn hj σ2 hws
    have hlt : j < rN g := by omega
    have hl := texF_len hG j
    have hrl := rowL_len g (rN g - 1 - j)
    have e : nI (rN g - j) - 1 = nI (rN g - 1 - j) := by
      rw [lI1, nI_sub (by omega)]; congr 1; omega
    have e3 : nI (rN g - 1 - j) + -1 = nI (rN g - (j + 1)) - 1 := by
      rw [show rN g - 1 - j = rN g - (j + 1) by omega]
      exact (Int32.sub_eq_add_neg _ _).symm
    have hg2 : σ2.1 62 = g := (hws.2.1 62 (by decide)).trans hg
    rw [e]
    refine ev_iload_2 dX10_writes_12 ?_
    refine ev_if_lt (tgt := 173) dX10_writes_13 (by decide) (fun h13 => absurd h13 (nI_pos (by omega))) (fun h13 => ?_)
    refine ev_iconst_0 dX10_writes_16 ?_
    refine ev_istore_3 dX10_writes_17 rfl rfl ?_
    refine ev_iconst_0 dX10_writes_18 ?_
    refine ev_istore_4 dX10_writes_19 rfl rfl ?_
    refine Ev.to (by rfl) rfl rfl (c_wr_21 (σ := σ) hm hg hG (L0 := texF g j) (Y := rN g - 1 - j) (by omega) (by omega) (fun σ3 hws3 => ?_) _ 0 rfl (Nat.zero_le _) (texF g j) σ2 (by unfold preF; rw [rowF]; dsimp only; split <;> simp [emL]) hws)
    have hl60 : (texF g j ++ rowL g (rN g - 1 - j)).length < 60 := by rw [List.length_append]; omega
    refine ev_iload_2 dX10_writes_152 ?_
    refine ev_if_le (tgt := 167) dX10_writes_153 (by decide) (fun h153 => ?_) (fun h153 => ?_)
    · have h0 : ¬ 0 < rN g - 1 - j := fun z => nI_nle z (by omega) h153
      have et : texF g (j + 1) = texF g j ++ rowL g (rN g - 1 - j) := by rw [texF, if_neg h0, List.append_nil]
      refine ev_iinc_2 (v := (-1)) dX10_writes_167 (by decide) rfl rfl ?_
      refine ev_goto (tgt := 12) dX10_writes_170 (by decide) ?_
      exact Ev.to (by rw [e3, et]) rfl rfl (ih (j + 1) (by omega) (by omega) _ (by rw [et]; exact hws3))
    · have h0 : 0 < rN g - 1 - j := Nat.pos_of_ne_zero (fun z => h153 (by rw [z]; decide))
      have et : texF g (j + 1) = texF g j ++ rowL g (rN g - 1 - j) ++ [47] := by rw [texF, if_pos h0]
      refine ev_aload_0 dX10_writes_156 ?_
      refine gf_X10_51 dX10_writes_157 hm.1 rfl ?_
      refine ev_iload_1 dX10_writes_160 ?_
      refine ev_iinc_1 (v := 1) dX10_writes_161 (by decide) rfl rfl ?_
      rw [show nI ((texF g j ++ rowL g (rN g - 1 - j)).length) + 1 = nI ((texF g j ++ rowL g (rN g - 1 - j)).length + 1) from nI_add ((texF g j ++ rowL g (rN g - 1 - j)).length) 1]
      refine ev_bipush_47 dX10_writes_164 ?_
      refine ev_stk (k := (texF g j ++ rowL g (rN g - 1 - j)).length) hm.2.2.2.2.2.2.2.2.2.2.2.2.2.2 hws3.1 rfl (by omega) (by decide) dX10_writes_166 (fun σ166 hw166 hf166 hl166 => ?_)
      skip
      refine ev_iinc_2 (v := (-1)) dX10_writes_167 (by decide) rfl rfl ?_
      refine ev_goto (tgt := 12) dX10_writes_170 (by decide) ?_
      exact Ev.to (by rw [e3, et, len_s]) rfl rfl (ih (j + 1) (by omega) (by omega) _ (by rw [et]; exact hws3.add hw166 hf166 hl166))
set_option maxRecDepth 100000 in
set_option maxHeartbeats 4000000 in
theorem c_mWrites {ae ad : Nat → Nat} {sh : mSh} {σ : mSt} (hm : mModel ad sh) {g : Nat → Int32} (hg : σ.1 62 = g) (hG : wfP g) : Ct yX10_writes cX10_writes 7 (some .int) 2 0 0 [.ref (ad 61)] ae ad sh σ (mPi ad sh (fun x σ' => x = nI (texF g (rN g)).length ∧ wsR σ σ' (texF g (rN g)))) := by
  refine Ct.ofL (own := RX10) (ini := false) (ls := [some (.ref (ad 61)), none, none, none, none, none, none]) (by decide +kernel) rfl (fun h => by cases h) (Nat.le_of_ble_eq_true rfl) rfl ?_
  refine ev_iconst_0 dX10_writes_0 ?_
  refine ev_istore_1 dX10_writes_1 rfl rfl ?_
  refine ev_aload_0 dX10_writes_2 ?_
  refine gf_X10_11 dX10_writes_3 hm.1 rfl ?_
  refine ev_bipush_54 dX10_writes_6 ?_
  refine ev_ldk (k := 54) hm.2.1 hg rfl (by omega) (by decide) dX10_writes_8 ?_
  rw [hG.2.1.1]
  refine ev_iconst_1 dX10_writes_9 ?_
  refine ev_isub dX10_writes_10 ?_
  refine ev_istore_2 dX10_writes_11 rfl rfl ?_
  exact Ev.to (by rfl) rfl rfl (c_wr_12 hm hg hG _ 0 rfl (Nat.zero_le _) σ ⟨rfl, fun _ _ => rfl, rfl⟩)
set_option maxRecDepth 100000 in
set_option maxHeartbeats 4000000 in
theorem c_mText {ae ad : Nat → Nat} {sh : mSh} {σ : mSt} (hm : mModel ad sh) {g : Nat → Int32} (hg : σ.1 62 = g) (hG : wfP g) {i : Int32} : Ct yX10_text cX10_text 2 (some .int) 3 0 0 [.ref (ad 61), .int i] ae ad sh σ (mPi ad sh (fun x σ' => x = ansL (texF g (rN g)) i ∧ (∀ j, j ≠ 75 → σ'.1 j = σ.1 j) ∧ σ'.2 = σ.2)) := by
  refine Ct.ofL (own := RX10) (ini := false) (ls := [some (.ref (ad 61)), some (.int i)]) (by decide +kernel) rfl (fun h => by cases h) (Nat.le_of_ble_eq_true rfl) rfl ?_
  have h42 := texF_len hG (rN g)
  have hr6 := hG.2.1.2
  refine ev_aload_0 dX10_text_0 ?_
  refine ev_iload_1 dX10_text_1 ?_
  refine ev_aload_0 dX10_text_2 ?_
  refine cg_X10_263 (c_mWrites hm hg hG) hm.1 dX10_text_3 rfl (Nat.le_of_ble_eq_true rfl) (fun r1 σ1 h13 => ?_)
  obtain ⟨e1, hws⟩ := h13
  subst e1
  have znow_3 := (hws.2.1 62 (by decide)).trans hg
  refine cl_X10_266 (c_mAns hm hws.1 (by omega)) hm.1 dX10_text_6 rfl (Nat.le_of_ble_eq_true rfl) ?_
  exact ev_pi dX10_text_9 ⟨rfl, hws.2.1, hws.2.2⟩
