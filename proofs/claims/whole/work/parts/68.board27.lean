/-- the reference's row after castle -/
def casS (g : Nat → Int32) (k sd r s p q : Nat) : Nat → Int32 := fun i => if i = 49 + k then 1 else if 184 + 6 * k ≤ i ∧ i < 190 + 6 * k then (if i = 184 + 6 * k then 1 else if i = 185 + 6 * k then nI sd else if i = 186 + 6 * k then nI r else if i = 187 + 6 * k then nI s else if i = 188 + 6 * k then nI p else nI q) else g i
section CS
variable {g : Nat → Int32} {k sd r s p q : Nat}
theorem cs_ne {i : Nat} (h : i ≠ 49 + k) (h2 : i < 184 + 6 * k ∨ 190 + 6 * k ≤ i) : casS g k sd r s p q i = g i := by
  unfold casS
  rw [if_neg h, if_neg (by omega)]
theorem cs_ri : casS g k sd r s p q (49 + k) = 1 := if_pos rfl
theorem cs_0 (hk : k < 4) : casS g k sd r s p q (184 + 6 * k) = 1 := by
  unfold casS
  rw [if_neg (by omega), if_pos (by omega), if_pos rfl]
theorem cs_1 (hk : k < 4) : casS g k sd r s p q (185 + 6 * k) = nI sd := by
  unfold casS
  rw [if_neg (by omega), if_pos (by omega), if_neg (by omega), if_pos rfl]
theorem cs_2 (hk : k < 4) : casS g k sd r s p q (186 + 6 * k) = nI r := by
  unfold casS
  rw [if_neg (by omega), if_pos (by omega), if_neg (by omega), if_neg (by omega), if_pos rfl]
theorem cs_3 (hk : k < 4) : casS g k sd r s p q (187 + 6 * k) = nI s := by
  unfold casS
  rw [if_neg (by omega), if_pos (by omega), if_neg (by omega), if_neg (by omega), if_neg (by omega), if_pos rfl]
theorem cs_4 (hk : k < 4) : casS g k sd r s p q (188 + 6 * k) = nI p := by
  unfold casS
  rw [if_neg (by omega), if_pos (by omega), if_neg (by omega), if_neg (by omega), if_neg (by omega), if_neg (by omega), if_pos rfl]
theorem cs_5 (hk : k < 4) : casS g k sd r s p q (189 + 6 * k) = nI q := by
  unfold casS
  rw [if_neg (by omega), if_pos (by omega), if_neg (by omega), if_neg (by omega), if_neg (by omega), if_neg (by omega), if_neg (by omega)]
theorem cs_i {i : Nat} (h : i < 49 ∨ 53 ≤ i) (hk : k < 4) (h2 : i < 184) : casS g k sd r s p q i = g i := cs_ne (by omega) (by omega)
theorem cs_ci {i : Nat} (h : i < 49 ∨ 53 ≤ i) (hk : k < 4) (h2 : i < 184) : clN (casS g k sd r s p q) i = clN g i := by rw [clN, clN, cs_i h hk h2]
theorem cs_wfP (hG : wfP g) (hk : k < 4) : wfP (casS g k sd r s p q) := by
  obtain ⟨h1, h2, h3, h4, h5, h6, h7⟩ := hG
  unfold wfP cN rN tuN at *
  rw [cs_ci (by omega) hk (by omega), cs_ci (by omega) hk (by omega), cs_ci (by omega) hk (by omega), cs_i (by omega) hk (by omega), cs_i (by omega) hk (by omega), cs_i (by omega) hk (by omega)]
  refine ⟨h1, h2, fun q hq => ?_, fun j hj => ?_, fun j hj => ?_, h6, h7⟩
  · unfold mN at *
    rw [cs_ci (by omega) hk (by omega), cs_i (by omega) hk (by omega)]; exact h3 q hq
  · unfold hN at *
    rw [cs_ci (by omega) hk (by omega), cs_i (by omega) hk (by omega)]; exact h4 j hj
  · unfold riN at *
    by_cases z : j = k
    · subst z
      rw [clN_nI (m := 1) cs_ri (by decide), cs_ri]; exact ⟨rfl, by decide⟩
    · have e : casS g k sd r s p q (49 + j) = g (49 + j) := cs_ne (by omega) (by omega)
      rw [clN, e]; exact h5 j hj
theorem cs_wfL (hG : wfP g) (hW : wfL g) (hk : k < 4) (hsd : sd ≤ 1) (hr : r < cN g * rN g) (hs : s < cN g * rN g) (hp : p < cN g * rN g) (hq : q < cN g * rN g) (hrp : r ≠ p) (hsq : s ≠ q) : wfL (casS g k sd r s p q) := by
  have h36 := sq36 hG
  refine wfL_mk hW (eqT_of (fun i h1 h2 h3 h4 => cs_ne (by omega) (by omega))) ?_ ?_ (fun t ht => ?_) (fun t ht => ?_) (fun j hj => ?_)
  · rw [cs_ci (by omega) hk (by omega), cs_i (by omega) hk (by omega)]; exact hW.1
  · rw [cs_ci (by omega) hk (by omega), cs_i (by omega) hk (by omega)]; exact hW.2.1
  · rw [cs_ci (by omega) hk (by omega), cs_i (by omega) hk (by omega)]; exact hW.2.2.1 t ht
  · rw [cs_ci (by omega) hk (by omega), cs_i (by omega) hk (by omega)]; exact hW.2.2.2.1 t ht
  · have e1 : cN (casS g k sd r s p q) = cN g := cs_ci (by omega) hk (by omega)
    have e2 : rN (casS g k sd r s p q) = rN g := cs_ci (by omega) hk (by omega)
    rw [e1, e2]
    by_cases z : j = k
    · subst z
      have ex : exN (casS g j sd r s p q) j = 1 := clN_nI (m := 1) (cs_0 hk) (by decide)
      have c1 : caN (casS g j sd r s p q) j 1 = sd := clN_nI (by rw [show 184 + 6 * j + 1 = 185 + 6 * j by omega]; exact cs_1 hk) (by omega)
      have c2 : caN (casS g j sd r s p q) j 2 = r := clN_nI (by rw [show 184 + 6 * j + 2 = 186 + 6 * j by omega]; exact cs_2 hk) (by omega)
      have c3 : caN (casS g j sd r s p q) j 3 = s := clN_nI (by rw [show 184 + 6 * j + 3 = 187 + 6 * j by omega]; exact cs_3 hk) (by omega)
      have c4 : caN (casS g j sd r s p q) j 4 = p := clN_nI (by rw [show 184 + 6 * j + 4 = 188 + 6 * j by omega]; exact cs_4 hk) (by omega)
      have c5 : caN (casS g j sd r s p q) j 5 = q := clN_nI (by rw [show 184 + 6 * j + 5 = 189 + 6 * j by omega]; exact cs_5 hk) (by omega)
      rw [ex, cs_0 hk]
      refine ⟨⟨rfl, by decide⟩, fun i h1 h5 => ?_, fun _ => ⟨by rw [c1]; exact hsd, fun i h2 h5 => ?_, by rw [c2, c4]; exact hrp, by rw [c3, c5]; exact hsq⟩, fun _ => rfl⟩
      · rcases (show i = 1 ∨ i = 2 ∨ i = 3 ∨ i = 4 ∨ i = 5 by omega) with e | e | e | e | e <;> subst e
        · rw [c1, show 184 + 6 * j + 1 = 185 + 6 * j by omega, cs_1 hk]; exact ⟨rfl, by omega⟩
        · rw [c2, show 184 + 6 * j + 2 = 186 + 6 * j by omega, cs_2 hk]; exact ⟨rfl, by omega⟩
        · rw [c3, show 184 + 6 * j + 3 = 187 + 6 * j by omega, cs_3 hk]; exact ⟨rfl, by omega⟩
        · rw [c4, show 184 + 6 * j + 4 = 188 + 6 * j by omega, cs_4 hk]; exact ⟨rfl, by omega⟩
        · rw [c5, show 184 + 6 * j + 5 = 189 + 6 * j by omega, cs_5 hk]; exact ⟨rfl, by omega⟩
      · rcases (show i = 2 ∨ i = 3 ∨ i = 4 ∨ i = 5 by omega) with e | e | e | e <;> subst e
        · rw [c2]; exact hr
        · rw [c3]; exact hs
        · rw [c4]; exact hp
        · rw [c5]; exact hq
    · have hn : ∀ i, i ≤ 5 → casS g k sd r s p q (184 + 6 * j + i) = g (184 + 6 * j + i) := fun i hi => cs_ne (by omega) (by omega)
      have ec : ∀ i, i ≤ 5 → caN (casS g k sd r s p q) j i = caN g j i := fun i hi => by unfold caN clN; rw [hn i hi]
      have ex : exN (casS g k sd r s p q) j = exN g j := ec 0 (by decide)
      have er : riN (casS g k sd r s p q) j = riN g j := by unfold riN clN; rw [cs_ne (by omega) (by omega)]
      obtain ⟨a1, a2, a3, a4⟩ := hW.2.2.2.2.2.2 j hj
      rw [ex, er, show casS g k sd r s p q (184 + 6 * j) = g (184 + 6 * j) from hn 0 (by decide)]
      refine ⟨a1, fun i h1 h5 => by rw [ec i h5, hn i h5]; exact a2 i h1 h5, fun y => ?_, a4⟩
      obtain ⟨b1, b2, b3, b4⟩ := a3 y
      exact ⟨by rw [ec 1 (by decide)]; exact b1, fun i h2 h5 => by rw [ec i h5]; exact b2 i h2 h5, by rw [ec 2 (by decide), ec 4 (by decide)]; exact b3, by rw [ec 3 (by decide), ec 5 (by decide)]; exact b4⟩
end CS
theorem bt_set {x : Int32} {n j : Nat} (hn : n < 31) (hj : j < 32) : bt (x ||| 1 <<< (nI n &&& 31)) j = (bt x j || decide (j = n)) := by
  have e1 : bt ((1 : Int32) <<< (nI n &&& 31)) j = decide (j = n) := by
    rw [b_shl n (by omega) _ hj]
    have h1 : ∀ i, i < 32 → bt (1 : Int32) i = decide (i = 0) := by decide +kernel
    rw [h1 (j - n) (by omega)]
    by_cases h : j = n
    · subst h; simp
    · simp [h]; omega
  rw [b_or, e1]
theorem posR_lx {σ : mSt} {p : Nat} {g g' : Nat → Int32} (h : ∀ i, i < 55 → (i < 49 ∨ 53 ≤ i) → g' i = g i) (hP : posR σ p g) : posR σ p g' := by
  have eO : ∀ q s, isOfG g' q s = isOfG g q s := fun q s => by
    unfold isOfG
    by_cases hq : q < 36
    · have : mN g' q = mN g q := by unfold mN clN; rw [h _ (by omega) (by omega)]
      rw [this]
    · simp [hq]
  obtain ⟨a1, a2, a3, a4, a5, a6, a7, a8⟩ := hP
  exact ⟨fun q hq => (a1 q hq).trans (h _ (by omega) (by omega)).symm, fun i hi => (a2 i hi).trans (h _ (by omega) (by omega)).symm, a3.trans (h _ (by decide) (by decide)).symm, a4.trans (h _ (by decide) (by decide)).symm, a5.trans (h _ (by decide) (by decide)).symm, trivial, fun q hq => by rw [eO]; exact a7 q hq, fun q hq => by rw [eO]; exact a8 q hq⟩
theorem c_setCellG {ae ad : Nat → Nat} {sh : mSh} {σ : mSt} {q len j : Nat} {x : Int32} (hq : sh[q]? = some (.inl len)) (hl : len < 2 ^ 31) (hj : j < len) : Ct yX9_setCell cX9_setCell 3 none 0 0 0 [.ref (ad q), .int (nI j), .int x] ae ad sh σ (mPv ad sh (fun σ' => σ'.1 q = upd (σ.1 q) j x ∧ (∀ k, k ≠ q → σ'.1 k = σ.1 k) ∧ σ'.2 = σ.2)) := by
  refine Ct.mono (fun v ad' sh' σ' e => ⟨e.1, e.2.1, e.2.2.1, ?_⟩) (c_setCell hq hl)
  rw [e.2.2.2, setV_nI (by omega) hj]
  exact ⟨mr_at _ _ _, fun k hk => mr_ne _ _ hk, rfl⟩
def okC (g : Nat → Int32) (r s p q : Nat) : Prop := r / cN g = s / cN g ∧ r / cN g = p / cN g ∧ r / cN g = q / cN g ∧ r ≠ p ∧ s ≠ q

set_option maxRecDepth 100000 in
set_option maxHeartbeats 4000000 in
theorem c_castleNo {ae ad : Nat → Nat} {sh : mSh} {σ : mSt} {k d r s p q : Int32} {g : Nat → Int32} (hb : mBoard ad sh) (hG : wfP g) (hP : posR σ 20 g) (h : ¬ ((¬ k < 0 ∧ k < 4) ∧ isBt d = true ∧ sqB g r = true ∧ sqB g s = true ∧ sqB g p = true ∧ sqB g q = true)) : Ct yX9_castle cX9_castle 8 (some .int) 3 0 0 [.ref (ad 0), .int k, .int d, .int r, .int s, .int p, .int q] ae ad sh σ (mEq (some (.int (-1))) ad sh σ) := by
  refine Ct.ofL (own := RX9) (ini := false) (ls := [some (.ref (ad 0)), some (.int k), some (.int d), some (.int r), some (.int s), some (.int p), some (.int q), none]) (by decide +kernel) rfl (fun h => by cases h) (Nat.le_of_ble_eq_true rfl) rfl ?_
  refine ev_iload_1 dX9_castle_0 ?_
  refine ev_if_lt (tgt := 51) dX9_castle_1 (by decide) (fun h1 => ?_) (fun h1 => ?_)
  · refine ev_iconst_m1 dX9_castle_51 ?_
    exact ev_ireturn dX9_castle_52
  · refine ev_iload_1 dX9_castle_4 ?_
    refine ev_iconst_4 dX9_castle_5 ?_
    refine ev_icmp_ge (tgt := 51) dX9_castle_6 (by decide) (fun h6 => ?_) (fun h6 => ?_)
    · refine ev_iconst_m1 dX9_castle_51 ?_
      exact ev_ireturn dX9_castle_52
    · refine ev_iload_2 dX9_castle_9 ?_
      refine cl_X9_124 c_isBit dX9_castle_10 rfl (Nat.le_of_ble_eq_true rfl) ?_
      refine ev_if_eq (tgt := 51) dX9_castle_13 (by decide) (fun h13 => ?_) (fun h13 => ?_)
      · refine ev_iconst_m1 dX9_castle_51 ?_
        exact ev_ireturn dX9_castle_52
      · refine ev_aload_0 dX9_castle_16 ?_
        refine ev_iload_3 dX9_castle_17 ?_
        refine cl_X9_182 (c_isSq hb hG hP) hb.1 dX9_castle_18 rfl (Nat.le_of_ble_eq_true rfl) ?_
        refine ev_if_eq (tgt := 51) dX9_castle_21 (by decide) (fun h21 => ?_) (fun h21 => ?_)
        · refine ev_iconst_m1 dX9_castle_51 ?_
          exact ev_ireturn dX9_castle_52
        · refine ev_aload_0 dX9_castle_24 ?_
          refine ev_iload_4 dX9_castle_25 ?_
          refine cl_X9_182 (c_isSq hb hG hP) hb.1 dX9_castle_27 rfl (Nat.le_of_ble_eq_true rfl) ?_
          refine ev_if_eq (tgt := 51) dX9_castle_30 (by decide) (fun h30 => ?_) (fun h30 => ?_)
          · refine ev_iconst_m1 dX9_castle_51 ?_
            exact ev_ireturn dX9_castle_52
          · refine ev_aload_0 dX9_castle_33 ?_
            refine ev_iload_5 dX9_castle_34 ?_
            refine cl_X9_182 (c_isSq hb hG hP) hb.1 dX9_castle_36 rfl (Nat.le_of_ble_eq_true rfl) ?_
            refine ev_if_eq (tgt := 51) dX9_castle_39 (by decide) (fun h39 => ?_) (fun h39 => ?_)
            · refine ev_iconst_m1 dX9_castle_51 ?_
              exact ev_ireturn dX9_castle_52
            · refine ev_aload_0 dX9_castle_42 ?_
              refine ev_iload_6 dX9_castle_43 ?_
              refine cl_X9_182 (c_isSq hb hG hP) hb.1 dX9_castle_45 rfl (Nat.le_of_ble_eq_true rfl) ?_
              refine ev_if_ne (tgt := 53) dX9_castle_48 (by decide) (fun h48 => ?_) (fun h48 => ?_)
              · exact absurd ⟨⟨h1, Int32.not_le.mp h6⟩, b2i_t h13, b2i_t h21, b2i_t h30, b2i_t h39, b2i_t h48⟩ h
              · refine ev_iconst_m1 dX9_castle_51 ?_
                exact ev_ireturn dX9_castle_52
set_option maxRecDepth 100000 in
set_option maxHeartbeats 4000000 in
theorem c_castleBad {ae ad : Nat → Nat} {sh : mSh} {σ : mSt} {k d r s p q : Nat} {g : Nat → Int32} (hb : mBoard ad sh) (hG : wfP g) (hP : posR σ 20 g) (hk : k < 4) (hd : d ≤ 1) (hr : r < cN g * rN g) (hs : s < cN g * rN g) (hp : p < cN g * rN g) (hq : q < cN g * rN g) (h : ¬ okC g r s p q) : Ct yX9_castle cX9_castle 8 (some .int) 3 0 0 [.ref (ad 0), .int (nI k), .int (nI d), .int (nI r), .int (nI s), .int (nI p), .int (nI q)] ae ad sh σ (mEq (some (.int (-2))) ad sh σ) := by
  refine Ct.ofL (own := RX9) (ini := false) (ls := [some (.ref (ad 0)), some (.int (nI k)), some (.int (nI d)), some (.int (nI r)), some (.int (nI s)), some (.int (nI p)), some (.int (nI q)), none]) (by decide +kernel) rfl (fun h => by cases h) (Nat.le_of_ble_eq_true rfl) rfl ?_
  have h36 := sq36 hG
  have hc := hG.1.2
  have hdv : ∀ x, x < 36 → x / cN g < 2 ^ 31 := fun x hx => Nat.lt_of_le_of_lt (Nat.div_le_self _ _) (by omega)
  refine ev_iload_1 dX9_castle_0 ?_
  refine ev_if_lt (tgt := 51) dX9_castle_1 (by decide) (fun h1 => ?_) (fun h1 => ?_)
  · first
    | exact absurd ((b2i_0 _).mp h48) (by rw [sqB_of hG hq]; decide)
    | exact absurd ((b2i_0 _).mp h39) (by rw [sqB_of hG hp]; decide)
    | exact absurd ((b2i_0 _).mp h30) (by rw [sqB_of hG hs]; decide)
    | exact absurd ((b2i_0 _).mp h21) (by rw [sqB_of hG hr]; decide)
    | exact absurd ((b2i_0 _).mp h13) (by rw [isBt_of hd]; decide)
    | exact absurd h6 (nI_ge (b := 4) hk (by decide))
    | exact absurd h1 (nI_pos (by omega))
  · refine ev_iload_1 dX9_castle_4 ?_
    refine ev_iconst_4 dX9_castle_5 ?_
    refine ev_icmp_ge (tgt := 51) dX9_castle_6 (by decide) (fun h6 => ?_) (fun h6 => ?_)
    · first
      | exact absurd ((b2i_0 _).mp h48) (by rw [sqB_of hG hq]; decide)
      | exact absurd ((b2i_0 _).mp h39) (by rw [sqB_of hG hp]; decide)
      | exact absurd ((b2i_0 _).mp h30) (by rw [sqB_of hG hs]; decide)
      | exact absurd ((b2i_0 _).mp h21) (by rw [sqB_of hG hr]; decide)
      | exact absurd ((b2i_0 _).mp h13) (by rw [isBt_of hd]; decide)
      | exact absurd h6 (nI_ge (b := 4) hk (by decide))
      | exact absurd h1 (nI_pos (by omega))
    · refine ev_iload_2 dX9_castle_9 ?_
      refine cl_X9_124 c_isBit dX9_castle_10 rfl (Nat.le_of_ble_eq_true rfl) ?_
      refine ev_if_eq (tgt := 51) dX9_castle_13 (by decide) (fun h13 => ?_) (fun h13 => ?_)
      · first
        | exact absurd ((b2i_0 _).mp h48) (by rw [sqB_of hG hq]; decide)
        | exact absurd ((b2i_0 _).mp h39) (by rw [sqB_of hG hp]; decide)
        | exact absurd ((b2i_0 _).mp h30) (by rw [sqB_of hG hs]; decide)
        | exact absurd ((b2i_0 _).mp h21) (by rw [sqB_of hG hr]; decide)
        | exact absurd ((b2i_0 _).mp h13) (by rw [isBt_of hd]; decide)
        | exact absurd h6 (nI_ge (b := 4) hk (by decide))
        | exact absurd h1 (nI_pos (by omega))
      · refine ev_aload_0 dX9_castle_16 ?_
        refine ev_iload_3 dX9_castle_17 ?_
        refine cl_X9_182 (c_isSq hb hG hP) hb.1 dX9_castle_18 rfl (Nat.le_of_ble_eq_true rfl) ?_
        refine ev_if_eq (tgt := 51) dX9_castle_21 (by decide) (fun h21 => ?_) (fun h21 => ?_)
        · first
          | exact absurd ((b2i_0 _).mp h48) (by rw [sqB_of hG hq]; decide)
          | exact absurd ((b2i_0 _).mp h39) (by rw [sqB_of hG hp]; decide)
          | exact absurd ((b2i_0 _).mp h30) (by rw [sqB_of hG hs]; decide)
          | exact absurd ((b2i_0 _).mp h21) (by rw [sqB_of hG hr]; decide)
          | exact absurd ((b2i_0 _).mp h13) (by rw [isBt_of hd]; decide)
          | exact absurd h6 (nI_ge (b := 4) hk (by decide))
          | exact absurd h1 (nI_pos (by omega))
        · refine ev_aload_0 dX9_castle_24 ?_
          refine ev_iload_4 dX9_castle_25 ?_
          refine cl_X9_182 (c_isSq hb hG hP) hb.1 dX9_castle_27 rfl (Nat.le_of_ble_eq_true rfl) ?_
          refine ev_if_eq (tgt := 51) dX9_castle_30 (by decide) (fun h30 => ?_) (fun h30 => ?_)
          · first
            | exact absurd ((b2i_0 _).mp h48) (by rw [sqB_of hG hq]; decide)
            | exact absurd ((b2i_0 _).mp h39) (by rw [sqB_of hG hp]; decide)
            | exact absurd ((b2i_0 _).mp h30) (by rw [sqB_of hG hs]; decide)
            | exact absurd ((b2i_0 _).mp h21) (by rw [sqB_of hG hr]; decide)
            | exact absurd ((b2i_0 _).mp h13) (by rw [isBt_of hd]; decide)
            | exact absurd h6 (nI_ge (b := 4) hk (by decide))
            | exact absurd h1 (nI_pos (by omega))
          · refine ev_aload_0 dX9_castle_33 ?_
            refine ev_iload_5 dX9_castle_34 ?_
            refine cl_X9_182 (c_isSq hb hG hP) hb.1 dX9_castle_36 rfl (Nat.le_of_ble_eq_true rfl) ?_
            refine ev_if_eq (tgt := 51) dX9_castle_39 (by decide) (fun h39 => ?_) (fun h39 => ?_)
            · first
              | exact absurd ((b2i_0 _).mp h48) (by rw [sqB_of hG hq]; decide)
              | exact absurd ((b2i_0 _).mp h39) (by rw [sqB_of hG hp]; decide)
              | exact absurd ((b2i_0 _).mp h30) (by rw [sqB_of hG hs]; decide)
              | exact absurd ((b2i_0 _).mp h21) (by rw [sqB_of hG hr]; decide)
              | exact absurd ((b2i_0 _).mp h13) (by rw [isBt_of hd]; decide)
              | exact absurd h6 (nI_ge (b := 4) hk (by decide))
              | exact absurd h1 (nI_pos (by omega))
            · refine ev_aload_0 dX9_castle_42 ?_
              refine ev_iload_6 dX9_castle_43 ?_
              refine cl_X9_182 (c_isSq hb hG hP) hb.1 dX9_castle_45 rfl (Nat.le_of_ble_eq_true rfl) ?_
              refine ev_if_ne (tgt := 53) dX9_castle_48 (by decide) (fun h48 => ?_) (fun h48 => ?_)
              · refine ev_aload_0 dX9_castle_53 ?_
                refine gf_X9_47 dX9_castle_54 hb.1 rfl ?_
                refine ev_iload_3 dX9_castle_57 ?_
                refine cl_X9_185 (c_rowOf hb.2.2.2.2.2.2.1) hb.2.2.2.2.2.2.1.1 dX9_castle_58 rfl (Nat.le_of_ble_eq_true rfl) ?_
                rw [hP.2.2.1, hG.1.1, rowI (by omega) (by omega) (by omega), iI_nat]
                refine ev_istore_7 dX9_castle_61 rfl rfl ?_
                refine ev_iload_7 dX9_castle_63 ?_
                refine ev_aload_0 dX9_castle_65 ?_
                refine gf_X9_47 dX9_castle_66 hb.1 rfl ?_
                refine ev_iload_4 dX9_castle_69 ?_
                refine cl_X9_185 (c_rowOf hb.2.2.2.2.2.2.1) hb.2.2.2.2.2.2.1.1 dX9_castle_71 rfl (Nat.le_of_ble_eq_true rfl) ?_
                rw [hP.2.2.1, hG.1.1, rowI (by omega) (by omega) (by omega), iI_nat]
                refine ev_icmp_ne (tgt := 118) dX9_castle_74 (by decide) (fun h74 => ?_) (fun h74 => ?_)
                · refine ev_bipush_m2 dX9_castle_118 ?_
                  exact ev_ireturn dX9_castle_120
                · refine ev_iload_7 dX9_castle_77 ?_
                  refine ev_aload_0 dX9_castle_79 ?_
                  refine gf_X9_47 dX9_castle_80 hb.1 rfl ?_
                  refine ev_iload_5 dX9_castle_83 ?_
                  refine cl_X9_185 (c_rowOf hb.2.2.2.2.2.2.1) hb.2.2.2.2.2.2.1.1 dX9_castle_85 rfl (Nat.le_of_ble_eq_true rfl) ?_
                  rw [hP.2.2.1, hG.1.1, rowI (by omega) (by omega) (by omega), iI_nat]
                  refine ev_icmp_ne (tgt := 118) dX9_castle_88 (by decide) (fun h88 => ?_) (fun h88 => ?_)
                  · refine ev_bipush_m2 dX9_castle_118 ?_
                    exact ev_ireturn dX9_castle_120
                  · refine ev_iload_7 dX9_castle_91 ?_
                    refine ev_aload_0 dX9_castle_93 ?_
                    refine gf_X9_47 dX9_castle_94 hb.1 rfl ?_
                    refine ev_iload_6 dX9_castle_97 ?_
                    refine cl_X9_185 (c_rowOf hb.2.2.2.2.2.2.1) hb.2.2.2.2.2.2.1.1 dX9_castle_99 rfl (Nat.le_of_ble_eq_true rfl) ?_
                    rw [hP.2.2.1, hG.1.1, rowI (by omega) (by omega) (by omega), iI_nat]
                    refine ev_icmp_ne (tgt := 118) dX9_castle_102 (by decide) (fun h102 => ?_) (fun h102 => ?_)
                    · refine ev_bipush_m2 dX9_castle_118 ?_
                      exact ev_ireturn dX9_castle_120
                    · refine ev_iload_3 dX9_castle_105 ?_
                      refine ev_iload_5 dX9_castle_106 ?_
                      refine ev_icmp_eq (tgt := 118) dX9_castle_108 (by decide) (fun h108 => ?_) (fun h108 => ?_)
                      · refine ev_bipush_m2 dX9_castle_118 ?_
                        exact ev_ireturn dX9_castle_120
                      · refine ev_iload_4 dX9_castle_111 ?_
                        refine ev_iload_6 dX9_castle_113 ?_
                        refine ev_icmp_ne (tgt := 121) dX9_castle_115 (by decide) (fun h115 => ?_) (fun h115 => ?_)
                        · exact absurd ⟨(nI_eq (hdv _ (by omega)) (hdv _ (by omega))).mp h74, (nI_eq (hdv _ (by omega)) (hdv _ (by omega))).mp h88, (nI_eq (hdv _ (by omega)) (hdv _ (by omega))).mp h102, fun z => h108 (by rw [z]), fun z => h115 (by rw [z])⟩ h
                        · refine ev_bipush_m2 dX9_castle_118 ?_
                          exact ev_ireturn dX9_castle_120
              · first
                | exact absurd ((b2i_0 _).mp h48) (by rw [sqB_of hG hq]; decide)
                | exact absurd ((b2i_0 _).mp h39) (by rw [sqB_of hG hp]; decide)
                | exact absurd ((b2i_0 _).mp h30) (by rw [sqB_of hG hs]; decide)
                | exact absurd ((b2i_0 _).mp h21) (by rw [sqB_of hG hr]; decide)
                | exact absurd ((b2i_0 _).mp h13) (by rw [isBt_of hd]; decide)
                | exact absurd h6 (nI_ge (b := 4) hk (by decide))
                | exact absurd h1 (nI_pos (by omega))
set_option maxRecDepth 100000 in
set_option maxHeartbeats 4000000 in
theorem c_castle {ae ad : Nat → Nat} {sh : mSh} {σ : mSt} {k d r s p q : Nat} {g : Nat → Int32} (hb : mBoard ad sh) (hG : wfP g) (hP : posR σ 20 g) (hk : k < 4) (hd : d ≤ 1) (hr : r < cN g * rN g) (hs : s < cN g * rN g) (hp : p < cN g * rN g) (hq : q < cN g * rN g) (hR : ritR σ 20 g) (hW : wfL g) (hL : lawR σ 5 g) (hok : okC g r s p q) : Ct yX9_castle cX9_castle 8 (some .int) 3 0 0 [.ref (ad 0), .int (nI k), .int (nI d), .int (nI r), .int (nI s), .int (nI p), .int (nI q)] ae ad sh σ (mPi ad sh (fun x σ' => x = casG (casS g k d r s p q) ∧ setR σ σ' (casS g k d r s p q))) := by
  refine Ct.ofL (own := RX9) (ini := false) (ls := [some (.ref (ad 0)), some (.int (nI k)), some (.int (nI d)), some (.int (nI r)), some (.int (nI s)), some (.int (nI p)), some (.int (nI q)), none]) (by decide +kernel) rfl (fun h => by cases h) (Nat.le_of_ble_eq_true rfl) rfl ?_
  have h36 := sq36 hG
  have hc := hG.1.2
  have hdv : ∀ x, x < 36 → x / cN g < 2 ^ 31 := fun x hx => Nat.lt_of_le_of_lt (Nat.div_le_self _ _) (by omega)
  refine ev_iload_1 dX9_castle_0 ?_
  refine ev_if_lt (tgt := 51) dX9_castle_1 (by decide) (fun h1 => ?_) (fun h1 => ?_)
  · first
    | exact absurd ((b2i_0 _).mp h48) (by rw [sqB_of hG hq]; decide)
    | exact absurd ((b2i_0 _).mp h39) (by rw [sqB_of hG hp]; decide)
    | exact absurd ((b2i_0 _).mp h30) (by rw [sqB_of hG hs]; decide)
    | exact absurd ((b2i_0 _).mp h21) (by rw [sqB_of hG hr]; decide)
    | exact absurd ((b2i_0 _).mp h13) (by rw [isBt_of hd]; decide)
    | exact absurd h6 (nI_ge (b := 4) hk (by decide))
    | exact absurd h1 (nI_pos (by omega))
  · refine ev_iload_1 dX9_castle_4 ?_
    refine ev_iconst_4 dX9_castle_5 ?_
    refine ev_icmp_ge (tgt := 51) dX9_castle_6 (by decide) (fun h6 => ?_) (fun h6 => ?_)
    · first
      | exact absurd ((b2i_0 _).mp h48) (by rw [sqB_of hG hq]; decide)
      | exact absurd ((b2i_0 _).mp h39) (by rw [sqB_of hG hp]; decide)
      | exact absurd ((b2i_0 _).mp h30) (by rw [sqB_of hG hs]; decide)
      | exact absurd ((b2i_0 _).mp h21) (by rw [sqB_of hG hr]; decide)
      | exact absurd ((b2i_0 _).mp h13) (by rw [isBt_of hd]; decide)
      | exact absurd h6 (nI_ge (b := 4) hk (by decide))
      | exact absurd h1 (nI_pos (by omega))
    · refine ev_iload_2 dX9_castle_9 ?_
      refine cl_X9_124 c_isBit dX9_castle_10 rfl (Nat.le_of_ble_eq_true rfl) ?_
      refine ev_if_eq (tgt := 51) dX9_castle_13 (by decide) (fun h13 => ?_) (fun h13 => ?_)
      · first
        | exact absurd ((b2i_0 _).mp h48) (by rw [sqB_of hG hq]; decide)
        | exact absurd ((b2i_0 _).mp h39) (by rw [sqB_of hG hp]; decide)
        | exact absurd ((b2i_0 _).mp h30) (by rw [sqB_of hG hs]; decide)
        | exact absurd ((b2i_0 _).mp h21) (by rw [sqB_of hG hr]; decide)
        | exact absurd ((b2i_0 _).mp h13) (by rw [isBt_of hd]; decide)
        | exact absurd h6 (nI_ge (b := 4) hk (by decide))
        | exact absurd h1 (nI_pos (by omega))
      · refine ev_aload_0 dX9_castle_16 ?_
        refine ev_iload_3 dX9_castle_17 ?_
        refine cl_X9_182 (c_isSq hb hG hP) hb.1 dX9_castle_18 rfl (Nat.le_of_ble_eq_true rfl) ?_
        refine ev_if_eq (tgt := 51) dX9_castle_21 (by decide) (fun h21 => ?_) (fun h21 => ?_)
        · first
          | exact absurd ((b2i_0 _).mp h48) (by rw [sqB_of hG hq]; decide)
          | exact absurd ((b2i_0 _).mp h39) (by rw [sqB_of hG hp]; decide)
          | exact absurd ((b2i_0 _).mp h30) (by rw [sqB_of hG hs]; decide)
          | exact absurd ((b2i_0 _).mp h21) (by rw [sqB_of hG hr]; decide)
          | exact absurd ((b2i_0 _).mp h13) (by rw [isBt_of hd]; decide)
          | exact absurd h6 (nI_ge (b := 4) hk (by decide))
          | exact absurd h1 (nI_pos (by omega))
        · refine ev_aload_0 dX9_castle_24 ?_
          refine ev_iload_4 dX9_castle_25 ?_
          refine cl_X9_182 (c_isSq hb hG hP) hb.1 dX9_castle_27 rfl (Nat.le_of_ble_eq_true rfl) ?_
          refine ev_if_eq (tgt := 51) dX9_castle_30 (by decide) (fun h30 => ?_) (fun h30 => ?_)
          · first
            | exact absurd ((b2i_0 _).mp h48) (by rw [sqB_of hG hq]; decide)
            | exact absurd ((b2i_0 _).mp h39) (by rw [sqB_of hG hp]; decide)
            | exact absurd ((b2i_0 _).mp h30) (by rw [sqB_of hG hs]; decide)
            | exact absurd ((b2i_0 _).mp h21) (by rw [sqB_of hG hr]; decide)
            | exact absurd ((b2i_0 _).mp h13) (by rw [isBt_of hd]; decide)
            | exact absurd h6 (nI_ge (b := 4) hk (by decide))
            | exact absurd h1 (nI_pos (by omega))
          · refine ev_aload_0 dX9_castle_33 ?_
            refine ev_iload_5 dX9_castle_34 ?_
            refine cl_X9_182 (c_isSq hb hG hP) hb.1 dX9_castle_36 rfl (Nat.le_of_ble_eq_true rfl) ?_
            refine ev_if_eq (tgt := 51) dX9_castle_39 (by decide) (fun h39 => ?_) (fun h39 => ?_)
            · first
              | exact absurd ((b2i_0 _).mp h48) (by rw [sqB_of hG hq]; decide)
              | exact absurd ((b2i_0 _).mp h39) (by rw [sqB_of hG hp]; decide)
              | exact absurd ((b2i_0 _).mp h30) (by rw [sqB_of hG hs]; decide)
              | exact absurd ((b2i_0 _).mp h21) (by rw [sqB_of hG hr]; decide)
              | exact absurd ((b2i_0 _).mp h13) (by rw [isBt_of hd]; decide)
              | exact absurd h6 (nI_ge (b := 4) hk (by decide))
              | exact absurd h1 (nI_pos (by omega))
            · refine ev_aload_0 dX9_castle_42 ?_
              refine ev_iload_6 dX9_castle_43 ?_
              refine cl_X9_182 (c_isSq hb hG hP) hb.1 dX9_castle_45 rfl (Nat.le_of_ble_eq_true rfl) ?_
              refine ev_if_ne (tgt := 53) dX9_castle_48 (by decide) (fun h48 => ?_) (fun h48 => ?_)
              · refine ev_aload_0 dX9_castle_53 ?_
                refine gf_X9_47 dX9_castle_54 hb.1 rfl ?_
                refine ev_iload_3 dX9_castle_57 ?_
                refine cl_X9_185 (c_rowOf hb.2.2.2.2.2.2.1) hb.2.2.2.2.2.2.1.1 dX9_castle_58 rfl (Nat.le_of_ble_eq_true rfl) ?_
                rw [hP.2.2.1, hG.1.1, rowI (by omega) (by omega) (by omega), iI_nat]
                refine ev_istore_7 dX9_castle_61 rfl rfl ?_
                refine ev_iload_7 dX9_castle_63 ?_
                refine ev_aload_0 dX9_castle_65 ?_
                refine gf_X9_47 dX9_castle_66 hb.1 rfl ?_
                refine ev_iload_4 dX9_castle_69 ?_
                refine cl_X9_185 (c_rowOf hb.2.2.2.2.2.2.1) hb.2.2.2.2.2.2.1.1 dX9_castle_71 rfl (Nat.le_of_ble_eq_true rfl) ?_
                rw [hP.2.2.1, hG.1.1, rowI (by omega) (by omega) (by omega), iI_nat]
                refine ev_icmp_ne (tgt := 118) dX9_castle_74 (by decide) (fun h74 => ?_) (fun h74 => ?_)
                · first
                  | exact absurd ((nI_eq (by omega) (by omega)).mp h115) hok.2.2.2.2
                  | exact absurd ((nI_eq (by omega) (by omega)).mp h108) hok.2.2.2.1
                  | exact absurd (congrArg nI hok.2.2.1) h102
                  | exact absurd (congrArg nI hok.2.1) h88
                  | exact absurd (congrArg nI hok.1) h74
                · refine ev_iload_7 dX9_castle_77 ?_
                  refine ev_aload_0 dX9_castle_79 ?_
                  refine gf_X9_47 dX9_castle_80 hb.1 rfl ?_
                  refine ev_iload_5 dX9_castle_83 ?_
                  refine cl_X9_185 (c_rowOf hb.2.2.2.2.2.2.1) hb.2.2.2.2.2.2.1.1 dX9_castle_85 rfl (Nat.le_of_ble_eq_true rfl) ?_
                  rw [hP.2.2.1, hG.1.1, rowI (by omega) (by omega) (by omega), iI_nat]
                  refine ev_icmp_ne (tgt := 118) dX9_castle_88 (by decide) (fun h88 => ?_) (fun h88 => ?_)
                  · first
                    | exact absurd ((nI_eq (by omega) (by omega)).mp h115) hok.2.2.2.2
                    | exact absurd ((nI_eq (by omega) (by omega)).mp h108) hok.2.2.2.1
                    | exact absurd (congrArg nI hok.2.2.1) h102
                    | exact absurd (congrArg nI hok.2.1) h88
                    | exact absurd (congrArg nI hok.1) h74
                  · refine ev_iload_7 dX9_castle_91 ?_
                    refine ev_aload_0 dX9_castle_93 ?_
                    refine gf_X9_47 dX9_castle_94 hb.1 rfl ?_
                    refine ev_iload_6 dX9_castle_97 ?_
                    refine cl_X9_185 (c_rowOf hb.2.2.2.2.2.2.1) hb.2.2.2.2.2.2.1.1 dX9_castle_99 rfl (Nat.le_of_ble_eq_true rfl) ?_
                    rw [hP.2.2.1, hG.1.1, rowI (by omega) (by omega) (by omega), iI_nat]
                    refine ev_icmp_ne (tgt := 118) dX9_castle_102 (by decide) (fun h102 => ?_) (fun h102 => ?_)
                    · first
                      | exact absurd ((nI_eq (by omega) (by omega)).mp h115) hok.2.2.2.2
                      | exact absurd ((nI_eq (by omega) (by omega)).mp h108) hok.2.2.2.1
                      | exact absurd (congrArg nI hok.2.2.1) h102
                      | exact absurd (congrArg nI hok.2.1) h88
                      | exact absurd (congrArg nI hok.1) h74
                    · refine ev_iload_3 dX9_castle_105 ?_
                      refine ev_iload_5 dX9_castle_106 ?_
                      refine ev_icmp_eq (tgt := 118) dX9_castle_108 (by decide) (fun h108 => ?_) (fun h108 => ?_)
                      · first
                        | exact absurd ((nI_eq (by omega) (by omega)).mp h115) hok.2.2.2.2
                        | exact absurd ((nI_eq (by omega) (by omega)).mp h108) hok.2.2.2.1
                        | exact absurd (congrArg nI hok.2.2.1) h102
                        | exact absurd (congrArg nI hok.2.1) h88
                        | exact absurd (congrArg nI hok.1) h74
                      · refine ev_iload_4 dX9_castle_111 ?_
                        refine ev_iload_6 dX9_castle_113 ?_
                        refine ev_icmp_ne (tgt := 121) dX9_castle_115 (by decide) (fun h115 => ?_) (fun h115 => ?_)
                        · refine ev_aload_0 dX9_castle_121 ?_
                          refine gf_X9_24 dX9_castle_122 hb.1 rfl ?_
                          refine gf_X9_188 dX9_castle_125 hb.2.2.2.1.1 rfl ?_
                          refine ev_iload_1 dX9_castle_128 ?_
                          refine ev_iload_2 dX9_castle_129 ?_
                          refine cg_X9_138 (c_setCellG hb.2.2.2.1.2.2.2.2.2.2.2.2.1 (by decide) (j := k) (by omega)) dX9_castle_130 rfl (Nat.le_of_ble_eq_true rfl) (fun σ1 s1 => ?_)
                          obtain ⟨a1, b1, c1⟩ := s1
                          refine ev_aload_0 dX9_castle_133 ?_
                          refine gf_X9_24 dX9_castle_134 hb.1 rfl ?_
                          refine gf_X9_191 dX9_castle_137 hb.2.2.2.1.1 rfl ?_
                          refine ev_iconst_4 dX9_castle_140 ?_
                          refine ev_iload_1 dX9_castle_141 ?_
                          refine ev_imul dX9_castle_142 ?_
                          refine ev_iconst_0 dX9_castle_143 ?_
                          refine ev_iadd dX9_castle_144 ?_
                          rw [show (4 : Int32) * nI k + 0 = nI (4 * k + 0) from by rw [show (4 : Int32) = nI 4 from rfl, nI_mul]; exact nI_add _ _]
                          refine ev_iload_3 dX9_castle_145 ?_
                          refine cg_X9_138 (c_setCellG hb.2.2.2.1.2.2.2.2.2.2.2.2.2 (by decide) (j := 4 * k + 0) (by omega)) dX9_castle_146 rfl (Nat.le_of_ble_eq_true rfl) (fun σ2 s2 => ?_)
                          obtain ⟨a2, b2, c2⟩ := s2
                          refine ev_aload_0 dX9_castle_149 ?_
                          refine gf_X9_24 dX9_castle_150 hb.1 rfl ?_
                          refine gf_X9_191 dX9_castle_153 hb.2.2.2.1.1 rfl ?_
                          refine ev_iconst_4 dX9_castle_156 ?_
                          refine ev_iload_1 dX9_castle_157 ?_
                          refine ev_imul dX9_castle_158 ?_
                          refine ev_iconst_1 dX9_castle_159 ?_
                          refine ev_iadd dX9_castle_160 ?_
                          rw [show (4 : Int32) * nI k + 1 = nI (4 * k + 1) from by rw [show (4 : Int32) = nI 4 from rfl, nI_mul]; exact nI_add _ _]
                          refine ev_iload_4 dX9_castle_161 ?_
                          refine cg_X9_138 (c_setCellG hb.2.2.2.1.2.2.2.2.2.2.2.2.2 (by decide) (j := 4 * k + 1) (by omega)) dX9_castle_163 rfl (Nat.le_of_ble_eq_true rfl) (fun σ3 s3 => ?_)
                          obtain ⟨a3, b3, c3⟩ := s3
                          refine ev_aload_0 dX9_castle_166 ?_
                          refine gf_X9_24 dX9_castle_167 hb.1 rfl ?_
                          refine gf_X9_191 dX9_castle_170 hb.2.2.2.1.1 rfl ?_
                          refine ev_iconst_4 dX9_castle_173 ?_
                          refine ev_iload_1 dX9_castle_174 ?_
                          refine ev_imul dX9_castle_175 ?_
                          refine ev_iconst_2 dX9_castle_176 ?_
                          refine ev_iadd dX9_castle_177 ?_
                          rw [show (4 : Int32) * nI k + 2 = nI (4 * k + 2) from by rw [show (4 : Int32) = nI 4 from rfl, nI_mul]; exact nI_add _ _]
                          refine ev_iload_5 dX9_castle_178 ?_
                          refine cg_X9_138 (c_setCellG hb.2.2.2.1.2.2.2.2.2.2.2.2.2 (by decide) (j := 4 * k + 2) (by omega)) dX9_castle_180 rfl (Nat.le_of_ble_eq_true rfl) (fun σ4 s4 => ?_)
                          obtain ⟨a4, b4, c4⟩ := s4
                          refine ev_aload_0 dX9_castle_183 ?_
                          refine gf_X9_24 dX9_castle_184 hb.1 rfl ?_
                          refine gf_X9_191 dX9_castle_187 hb.2.2.2.1.1 rfl ?_
                          refine ev_iconst_4 dX9_castle_190 ?_
                          refine ev_iload_1 dX9_castle_191 ?_
                          refine ev_imul dX9_castle_192 ?_
                          refine ev_iconst_3 dX9_castle_193 ?_
                          refine ev_iadd dX9_castle_194 ?_
                          rw [show (4 : Int32) * nI k + 3 = nI (4 * k + 3) from by rw [show (4 : Int32) = nI 4 from rfl, nI_mul]; exact nI_add _ _]
                          refine ev_iload_6 dX9_castle_195 ?_
                          refine cg_X9_138 (c_setCellG hb.2.2.2.1.2.2.2.2.2.2.2.2.2 (by decide) (j := 4 * k + 3) (by omega)) dX9_castle_197 rfl (Nat.le_of_ble_eq_true rfl) (fun σ5 s5 => ?_)
                          obtain ⟨a5, b5, c5⟩ := s5
                          refine ev_aload_0 dX9_castle_200 ?_
                          refine gf_X9_47 dX9_castle_201 hb.1 rfl ?_
                          refine ev_dup dX9_castle_204 rfl ?_
                          refine gf_X9_165 dX9_castle_205 hb.2.2.2.2.2.2.1.1 rfl ?_
                          refine ev_iconst_1 dX9_castle_208 ?_
                          refine ev_iload_1 dX9_castle_209 ?_
                          refine ev_ishl dX9_castle_210 ?_
                          refine ev_ior dX9_castle_211 ?_
                          refine pf_X9_165 dX9_castle_212 hb.2.2.2.2.2.2.1.1 rfl ?_
                          have u1 : ∀ j, j ≠ 5 + 8 → j ≠ 5 + 9 → σ5.1 j = σ.1 j := fun j x y => by rw [b5 j y, b4 j y, b3 j y, b2 j y, b1 j x]
                          have u2 : σ5.1 (5 + 9) = upd (upd (upd (upd (σ.1 (5 + 9)) (4 * k + 0) (nI r)) (4 * k + 1) (nI s)) (4 * k + 2) (nI p)) (4 * k + 3) (nI q) := by rw [a5, a4, a3, a2, b1 _ (by decide)]
                          have u3 : σ5.1 (5 + 8) = upd (σ.1 (5 + 8)) k (nI d) := by rw [b5 _ (by decide), b4 _ (by decide), b3 _ (by decide), b2 _ (by decide), a1]
                          have u4 : σ5.2 = σ.2 := by rw [c5, c4, c3, c2, c1]
                          have P0 := posR_lo hP hR (σ' := σ5) (fun j hj => u1 _ (by omega) (by omega)) (by rw [u4])
                          have P1 : posR σ5 20 (casS g k d r s p q) := posR_lx (fun i hi h2 => cs_i h2 hk (by omega)) P0.1
                          have P2 : posR (mu σ5.1 20 5 (σ5.1 20 5 ||| 1 <<< (nI k &&& 31)), σ5.2) 20 (casS g k d r s p q) ∧ ritR (mu σ5.1 20 5 (σ5.1 20 5 ||| 1 <<< (nI k &&& 31)), σ5.2) 20 (casS g k d r s p q) := ⟨P1.rt, fun j hj => by
                            have e : (mu σ5.1 20 5 (σ5.1 20 5 ||| 1 <<< (nI k &&& 31)), σ5.2).1 20 5 = σ5.1 20 5 ||| 1 <<< (nI k &&& 31) := by simp [mu, upd]
                            rw [e, bt_set (by omega) hj, P0.2 j hj]
                            by_cases z : j = k
                            · subst z
                              have er : riN (casS g j d r s p q) j = 1 := clN_nI (m := 1) cs_ri (by decide)
                              simp [er, hk]
                            · by_cases y : j < 4
                              · have er : riN (casS g k d r s p q) j = riN g j := by unfold riN clN; rw [cs_ne (by omega) (by omega)]
                                simp [er, z]
                              · simp [z, y]⟩
                          have v1 : ∀ j, j ≠ 20 → (mu σ5.1 20 5 (σ5.1 20 5 ||| 1 <<< (nI k &&& 31)), σ5.2).1 j = σ5.1 j := fun j hj => mu_ne _ hj
                          have L2 : lawR (mu σ5.1 20 5 (σ5.1 20 5 ||| 1 <<< (nI k &&& 31)), σ5.2) 5 (casS g k d r s p q) := by
                            refine lawR_mk hL (fun i h1 h5 => (v1 _ (by omega)).trans (u1 _ (by omega) (by omega))) (eqT_of (fun i h1 h2 h3 h4 => cs_ne (by omega) (by omega))) (fun t ht => ?_) (fun t ht => ?_) (fun j hj => ?_) (fun j i hj hi => ?_) ?_ ?_
                            · rw [v1 _ (by decide), u1 _ (by decide) (by decide), cs_i (by omega) hk (by omega)]; exact hL.2.2.2.2.1 t ht
                            · rw [v1 _ (by decide), u1 _ (by decide) (by decide), cs_i (by omega) hk (by omega)]; exact hL.2.2.2.2.2.1 t ht
                            · rw [v1 _ (by decide), u3]
                              by_cases z : j = k
                              · subst z; rw [upd_at, cs_0 hk, if_pos rfl, cs_1 hk]
                              · rw [upd_ne z, cs_ne (by omega) (by omega), cs_ne (by omega) (by omega)]; exact hL.2.2.2.2.2.2.1 j hj
                            · rw [v1 _ (by decide), u2]
                              by_cases z : j = k
                              · subst z
                                rcases (show i = 0 ∨ i = 1 ∨ i = 2 ∨ i = 3 by omega) with e | e | e | e <;> subst e
                                · rw [upd_ne (by omega), upd_ne (by omega), upd_ne (by omega), upd_at, show 186 + 6 * j + 0 = 186 + 6 * j by omega, cs_2 hk]
                                · rw [upd_ne (by omega), upd_ne (by omega), upd_at, show 186 + 6 * j + 1 = 187 + 6 * j by omega, cs_3 hk]
                                · rw [upd_ne (by omega), upd_at, show 186 + 6 * j + 2 = 188 + 6 * j by omega, cs_4 hk]
                                · rw [upd_at, show 186 + 6 * j + 3 = 189 + 6 * j by omega, cs_5 hk]
                              · rw [upd_ne (by omega), upd_ne (by omega), upd_ne (by omega), upd_ne (by omega), cs_ne (by omega) (by omega)]; exact hL.2.2.2.2.2.2.2.1 j i hj hi
                            · rw [v1 _ (by decide), u1 _ (by decide) (by decide), cs_i (by omega) hk (by omega)]; exact hL.2.2.2.2.2.2.2.2.1
                            · rw [v1 _ (by decide), u1 _ (by decide) (by decide), cs_i (by omega) hk (by omega)]; exact hL.2.2.2.2.2.2.2.2.2
                          have hst := setR_beg (σ := σ) P2 L2 (fun j x y => ⟨(v1 j (by omega)).trans (u1 j (by omega) (by omega)), by dsimp only; rw [u4]⟩)
                          refine ev_aload_0 dX9_castle_215 ?_
                          refine cl_X9_84 (c_beginG hb (cs_wfP hG hk) P2.1 P2.2) hb.1 dX9_castle_216 rfl (Nat.le_of_ble_eq_true rfl) ?_
                          refine ev_aload_0 dX9_castle_219 ?_
                          refine gf_X9_24 dX9_castle_220 hb.1 rfl ?_
                          refine cl_X9_162 (c_castlings hb.2.2.2.1) hb.2.2.2.1.1 dX9_castle_223 rfl (Nat.le_of_ble_eq_true rfl) ?_
                          refine cl_X9_194 c_popI dX9_castle_226 rfl (Nat.le_of_ble_eq_true rfl) ?_
                          exact ev_pi dX9_castle_229 ⟨congrArg popI (cas_eq (cs_wfL hG hW hk hd hr hs hp hq hok.2.2.2.1 hok.2.2.2.2) hst.2.1), hst⟩
                        · first
                          | exact absurd ((nI_eq (by omega) (by omega)).mp h115) hok.2.2.2.2
                          | exact absurd ((nI_eq (by omega) (by omega)).mp h108) hok.2.2.2.1
                          | exact absurd (congrArg nI hok.2.2.1) h102
                          | exact absurd (congrArg nI hok.2.1) h88
                          | exact absurd (congrArg nI hok.1) h74
              · first
                | exact absurd ((b2i_0 _).mp h48) (by rw [sqB_of hG hq]; decide)
                | exact absurd ((b2i_0 _).mp h39) (by rw [sqB_of hG hp]; decide)
                | exact absurd ((b2i_0 _).mp h30) (by rw [sqB_of hG hs]; decide)
                | exact absurd ((b2i_0 _).mp h21) (by rw [sqB_of hG hr]; decide)
                | exact absurd ((b2i_0 _).mp h13) (by rw [isBt_of hd]; decide)
                | exact absurd h6 (nI_ge (b := 4) hk (by decide))
                | exact absurd h1 (nI_pos (by omega))
