/-- the parts of the types are the same -/
def eqT (g g' : Nat → Int32) : Prop := ∀ t, t < 6 → ∀ j, 2 ≤ j → j < 21 → g' (58 + 21 * t + j) = g (58 + 21 * t + j)
theorem eqT.at {g g' : Nat → Int32} (h : eqT g g') {i t j : Nat} (ht : t < 6) (e : i = 58 + 21 * t + j) (h2 : 2 ≤ j) (h3 : j < 21) : g' i = g i := by rw [e]; exact h t ht j h2 h3
theorem eqT.cl {g g' : Nat → Int32} (h : eqT g g') {i t j : Nat} (ht : t < 6) (e : i = 58 + 21 * t + j) (h2 : 2 ≤ j) (h3 : j < 21) : clN g' i = clN g i := by rw [clN, clN, h.at ht e h2 h3]
theorem eqT_of {g g' : Nat → Int32} (h : ∀ i, 60 ≤ i → i < 184 → (i - 58) % 21 ≠ 0 → (i - 58) % 21 ≠ 1 → g' i = g i) : eqT g g' := fun t ht j h2 h3 => h _ (by omega) (by omega) (by omega) (by omega)
theorem lawR_mk {σ σ' : mSt} {l : Nat} {g g' : Nat → Int32} (hL : lawR σ l g) (hs : ∀ i, 1 ≤ i → i ≤ 5 → σ'.1 (l + i) = σ.1 (l + i)) (hg : eqT g g')
    (n5 : ∀ t, t < 6 → σ'.1 (l + 6) t = g' (58 + 21 * t)) (n6 : ∀ t, t < 6 → σ'.1 (l + 7) t = g' (59 + 21 * t) - 1)
    (n7 : ∀ k, k < 4 → σ'.1 (l + 8) k = if g' (184 + 6 * k) = 1 then g' (185 + 6 * k) else -1) (n8 : ∀ k i, k < 4 → i < 4 → σ'.1 (l + 9) (4 * k + i) = g' (186 + 6 * k + i))
    (n9 : σ'.1 l 9 = g' 55) (n10 : σ'.1 l 10 = g' 56) : lawR σ' l g' := by
  have ep : ∀ t, t < 6 → pcG g' t = pcG g t := fun t ht => hg.cl (t := t) (j := 2) ht (by omega) (by decide) (by decide)
  have ea : ∀ t j, t < 6 → j < 6 → atG g' t j = atG g t j := fun t j ht hj => hg.cl (t := t) (j := 4 + 3 * j) ht (by omega) (by omega) (by omega)
  have em : ∀ t j, t < 6 → j < 6 → mkG g' t j = mkG g t j := fun t j ht hj => by rw [mkG, mkG, hg.at (t := t) (j := 3 + 3 * j) ht (by omega) (by omega) (by omega)]
  have er : ∀ t j, t < 6 → j < 6 → rcG g' t j = rcG g t j := fun t j ht hj => by rw [rcG, rcG, hg.at (t := t) (j := 5 + 3 * j) ht (by omega) (by omega) (by omega)]
  have ed : ∀ t j, t < 6 → j < 6 → dmG g' t j = dmG g t j := fun t j ht hj => by rw [dmG, dmG, ea t j ht hj, em t j ht hj]
  obtain ⟨h1, h2, h3, h4, _, _, _, _, _, _⟩ := hL
  refine ⟨fun t ht => ?_, fun t ht j hj => ?_, ?_, ?_, n5, n6, n7, n8, n9, n10⟩
  · rw [ep t ht, hs 1 (by decide) (by decide)]; exact h1 t ht
  · rw [ep t ht] at hj
    have h6 : j < 6 := by have := (h1 t ht).2; omega
    rw [ea t j ht h6, em t j ht h6, er t j ht h6, ed t j ht h6, hs 2 (by decide) (by decide), hs 3 (by decide) (by decide), hs 4 (by decide) (by decide), hs 5 (by decide) (by decide)]; exact h2 t ht j hj
  · rw [hs 2 (by decide) (by decide)]; exact h3
  · rw [hs 4 (by decide) (by decide)]; exact h4
theorem wfL_mk {g g' : Nat → Int32} (hW : wfL g) (hg : eqT g g')
    (n1 : g' 55 = nI (clN g' 55) ∧ clN g' 55 ≤ 1) (n2 : g' 56 = nI (clN g' 56) ∧ clN g' 56 ≤ 2) (n3 : ∀ t, t < 6 → g' (58 + 21 * t) = nI (clN g' (58 + 21 * t)) ∧ clN g' (58 + 21 * t) ≤ 1) (n4 : ∀ t, t < 6 → g' (59 + 21 * t) = nI (clN g' (59 + 21 * t)) ∧ clN g' (59 + 21 * t) ≤ 6)
    (n7 : ∀ k, k < 4 → (g' (184 + 6 * k) = nI (exN g' k) ∧ exN g' k ≤ 1) ∧ (∀ i, 1 ≤ i → i ≤ 5 → g' (184 + 6 * k + i) = nI (caN g' k i) ∧ caN g' k i < 36) ∧ (exN g' k = 1 → caN g' k 1 ≤ 1 ∧ (∀ i, 2 ≤ i → i ≤ 5 → caN g' k i < cN g' * rN g') ∧ caN g' k 2 ≠ caN g' k 4 ∧ caN g' k 3 ≠ caN g' k 5) ∧ (riN g' k = 1 → exN g' k = 1)) : wfL g' := by
  have ep : ∀ t, t < 6 → pcG g' t = pcG g t := fun t ht => hg.cl (t := t) (j := 2) ht (by omega) (by decide) (by decide)
  have ea : ∀ t j, t < 6 → j < 6 → atG g' t j = atG g t j := fun t j ht hj => hg.cl (t := t) (j := 4 + 3 * j) ht (by omega) (by omega) (by omega)
  obtain ⟨_, _, _, _, h5, h6, _⟩ := hW
  refine ⟨n1, n2, n3, n4, fun t ht => ?_, fun t ht j hj => ?_, n7⟩
  · rw [ep t ht, hg.at (t := t) (j := 2) ht (by omega) (by decide) (by decide)]; exact h5 t ht
  · rw [ep t ht] at hj
    have h6j : j < 6 := by have := (h5 t ht).1; omega
    rw [ea t j ht h6j, hg.cl (t := t) (j := 3 + 3 * j) ht (by omega) (by omega) (by omega), hg.cl (t := t) (j := 5 + 3 * j) ht (by omega) (by omega) (by omega), hg.at (t := t) (j := 3 + 3 * j) ht (by omega) (by omega) (by omega), hg.at (t := t) (j := 4 + 3 * j) ht (by omega) (by omega) (by omega), hg.at (t := t) (j := 5 + 3 * j) ht (by omega) (by omega) (by omega)]; exact h6 t ht j hj
/-- a setting that begins a game at the row g1 -/
def setR (σ σ' : mSt) (g1 : Nat → Int32) : Prop := (posR σ' 20 g1 ∧ ritR σ' 20 g1) ∧ lawR σ' 5 g1 ∧ (σ'.1 26 3 = 0 ∧ σ'.1 29 0 = dgG g1) ∧ σ'.1 0 11 = 0 ∧ ∀ k, k ≠ 0 → (k < 5 ∨ 14 < k) → (k < 20 ∨ 22 < k) → k ≠ 26 → k ≠ 29 → σ'.1 k = σ.1 k ∧ σ'.2 k = σ.2 k
theorem setR_beg {σ σ1 : mSt} {g1 : Nat → Int32} (hP : posR σ1 20 g1 ∧ ritR σ1 20 g1) (hL : lawR σ1 5 g1) (hf : ∀ k, (k < 5 ∨ 14 < k) → (k < 20 ∨ 22 < k) → σ1.1 k = σ.1 k ∧ σ1.2 k = σ.2 k) : setR σ (begS σ1 (dgG g1)) g1 := by
  have e : ∀ k, k ≠ 0 → k ≠ 26 → k ≠ 29 → (begS σ1 (dgG g1)).1 k = σ1.1 k := fun k a b c => by
    unfold begS
    dsimp only
    rw [mu_ne _ a, mu_ne _ c, mu_ne _ b]
  refine ⟨posR_lo hP.1 hP.2 (fun i hi => e _ (by omega) (by omega) (by omega)) rfl, lawR_lo hL (fun i hi => e _ (by omega) (by omega) (by omega)), ⟨?_, ?_⟩, ?_, fun k a b c d f => ⟨(e k a d f).trans (hf k b c).1, (hf k b c).2⟩⟩
  · simp [begS, mu, upd]
  · simp [begS, mu, upd]
  · simp [begS, mu, upd]
/-- the tape holds the first tl signs of T -/
def tpR (σ : mSt) (T : Nat → Int32) (tl : Nat) : Prop := σ.1 1 1 = nI tl ∧ tl ≤ 60 ∧ ∀ i, i < tl → σ.1 2 i = T i

set_option maxRecDepth 100000 in
set_option maxHeartbeats 4000000 in
theorem c_feedBad {ae ad : Nat → Nat} {sh : mSh} {σ : mSt} {s : Int32} (hb : mBoard ad sh) (h : s < 0 ∨ 127 < s) : Ct yX9_feed cX9_feed 2 (some .int) 1 0 0 [.ref (ad 0), .int s] ae ad sh σ (mEq (some (.int (-2))) ad sh σ) := by
  refine Ct.ofL (own := RX9) (ini := false) (ls := [some (.ref (ad 0)), some (.int s)]) (by decide +kernel) rfl (fun h => by cases h) (Nat.le_of_ble_eq_true rfl) rfl ?_
  refine ev_iload_1 dX9_feed_0 ?_
  refine ev_if_lt (tgt := 10) dX9_feed_1 (by decide) (fun h1 => ?_) (fun h1 => ?_)
  · refine ev_bipush_m2 dX9_feed_10 ?_
    exact ev_ireturn dX9_feed_12
  · refine ev_iload_1 dX9_feed_4 ?_
    refine ev_bipush_127 dX9_feed_5 ?_
    refine ev_icmp_le (tgt := 13) dX9_feed_7 (by decide) (fun h7 => ?_) (fun h7 => ?_)
    · exact absurd h (fun z => z.elim h1 (fun y => Int32.not_le.mpr y h7))
    · refine ev_bipush_m2 dX9_feed_10 ?_
      exact ev_ireturn dX9_feed_12
set_option maxRecDepth 100000 in
set_option maxHeartbeats 4000000 in
theorem c_feedFull {ae ad : Nat → Nat} {sh : mSh} {σ : mSt} {T : Nat → Int32} {tl : Nat} {s : Int32} (hb : mBoard ad sh) (hT : tpR σ T tl) (h : ¬ (s < 0 ∨ 127 < s)) (hl : tl = 60) : Ct yX9_feed cX9_feed 2 (some .int) 1 0 0 [.ref (ad 0), .int s] ae ad sh σ (mEq (some (.int (-4))) ad sh σ) := by
  refine Ct.ofL (own := RX9) (ini := false) (ls := [some (.ref (ad 0)), some (.int s)]) (by decide +kernel) rfl (fun h => by cases h) (Nat.le_of_ble_eq_true rfl) rfl ?_
  refine ev_iload_1 dX9_feed_0 ?_
  refine ev_if_lt (tgt := 10) dX9_feed_1 (by decide) (fun h1 => ?_) (fun h1 => ?_)
  · exact absurd (by first | exact Or.inl h1 | exact Or.inr (Int32.not_le.mp h7)) h
  · refine ev_iload_1 dX9_feed_4 ?_
    refine ev_bipush_127 dX9_feed_5 ?_
    refine ev_icmp_le (tgt := 13) dX9_feed_7 (by decide) (fun h7 => ?_) (fun h7 => ?_)
    · refine ev_aload_0 dX9_feed_13 ?_
      refine gf_X9_14 dX9_feed_14 hb.1 rfl ?_
      refine ev_iload_1 dX9_feed_17 ?_
      refine cl_X9_87 (c_lineAdd hb.2.1 hT.1 hT.2.1) hb.2.1.1 dX9_feed_18 rfl (Nat.le_of_ble_eq_true rfl) ?_
      rw [decide_eq_false (show ¬ tl < 60 by omega), if_neg (show ¬ tl < 60 by omega)]
      refine ev_if_eq (tgt := 34) dX9_feed_21 (by decide) (fun h21 => ?_) (fun h21 => absurd (by decide) h21)
      refine ev_bipush_m4 dX9_feed_34 ?_
      exact ev_ireturn dX9_feed_36
    · exact absurd (by first | exact Or.inl h1 | exact Or.inr (Int32.not_le.mp h7)) h
set_option maxRecDepth 100000 in
set_option maxHeartbeats 4000000 in
theorem c_feedS {ae ad : Nat → Nat} {sh : mSh} {σ : mSt} {T : Nat → Int32} {tl : Nat} {s : Int32} (hb : mBoard ad sh) (hT : tpR σ T tl) (h : ¬ (s < 0 ∨ 127 < s)) (hl : tl < 60) : Ct yX9_feed cX9_feed 2 (some .int) 1 0 0 [.ref (ad 0), .int s] ae ad sh σ (mEq (some (.int (nI (tl + 1)))) ad sh (mu (mu σ.1 2 tl s) 1 1 (nI (tl + 1)), σ.2)) := by
  refine Ct.ofL (own := RX9) (ini := false) (ls := [some (.ref (ad 0)), some (.int s)]) (by decide +kernel) rfl (fun h => by cases h) (Nat.le_of_ble_eq_true rfl) rfl ?_
  refine ev_iload_1 dX9_feed_0 ?_
  refine ev_if_lt (tgt := 10) dX9_feed_1 (by decide) (fun h1 => ?_) (fun h1 => ?_)
  · exact absurd (by first | exact Or.inl h1 | exact Or.inr (Int32.not_le.mp h7)) h
  · refine ev_iload_1 dX9_feed_4 ?_
    refine ev_bipush_127 dX9_feed_5 ?_
    refine ev_icmp_le (tgt := 13) dX9_feed_7 (by decide) (fun h7 => ?_) (fun h7 => ?_)
    · refine ev_aload_0 dX9_feed_13 ?_
      refine gf_X9_14 dX9_feed_14 hb.1 rfl ?_
      refine ev_iload_1 dX9_feed_17 ?_
      refine cl_X9_87 (c_lineAdd hb.2.1 hT.1 hT.2.1) hb.2.1.1 dX9_feed_18 rfl (Nat.le_of_ble_eq_true rfl) ?_
      rw [decide_eq_true hl, if_pos hl]
      refine ev_if_eq (tgt := 34) dX9_feed_21 (by decide) (fun h21 => absurd h21 (by decide)) (fun h21 => ?_)
      refine ev_aload_0 dX9_feed_24 ?_
      refine gf_X9_14 dX9_feed_25 hb.1 rfl ?_
      refine gf_X9_91 dX9_feed_28 hb.2.1.1 rfl ?_
      refine ev_goto (tgt := 36) dX9_feed_31 (by decide) ?_
      exact ev_iret dX9_feed_36 (by simp [mu, upd]) rfl
    · exact absurd (by first | exact Or.inl h1 | exact Or.inr (Int32.not_le.mp h7)) h
theorem tp_feed {σ : mSt} {T : Nat → Int32} {tl : Nat} {s : Int32} (hT : tpR σ T tl) (hl : tl < 60) : tpR (mu (mu σ.1 2 tl s) 1 1 (nI (tl + 1)), σ.2) (upd T tl s) (tl + 1) := by
  refine ⟨by simp [mu, upd], hl, fun i hi => ?_⟩
  dsimp only
  rw [mu_ne _ (by decide)]
  simp only [mu, upd, if_true]
  split
  · rfl
  · exact hT.2.2 i (by omega)
theorem upd_ne {f : Nat → Int32} {j k : Nat} {x : Int32} (h : k ≠ j) : upd f j x k = f k := if_neg h
theorem upd_at {f : Nat → Int32} {j : Nat} {x : Int32} : upd f j x j = x := if_pos rfl
theorem cl_ne {f : Nat → Int32} {j k : Nat} {x : Int32} (h : k ≠ j) : clN (upd f j x) k = clN f k := by rw [clN, clN, upd_ne h]
theorem cl_at {f : Nat → Int32} {j m : Nat} (hm : m < 2 ^ 31) : clN (upd f j (nI m)) j = m := clN_nI upd_at hm
/-- one cell of the laws beside parts and castlings is set: what well-formed rows keep -/
theorem wfP_up {g : Nat → Int32} {j : Nat} {x : Int32} (hG : wfP g) (hj : 55 ≤ j) : wfP (upd g j x) := wfP_lw (fun _ _ => upd_ne (by omega)) hG
theorem cas_up {g : Nat → Int32} (hW : wfL g) {j : Nat} {x : Int32} (h1 : 55 ≤ j) (h2 : j < 184 ∨ 208 ≤ j) : ∀ k, k < 4 → (upd g j x (184 + 6 * k) = nI (exN (upd g j x) k) ∧ exN (upd g j x) k ≤ 1) ∧ (∀ i, 1 ≤ i → i ≤ 5 → upd g j x (184 + 6 * k + i) = nI (caN (upd g j x) k i) ∧ caN (upd g j x) k i < 36) ∧ (exN (upd g j x) k = 1 → caN (upd g j x) k 1 ≤ 1 ∧ (∀ i, 2 ≤ i → i ≤ 5 → caN (upd g j x) k i < cN (upd g j x) * rN (upd g j x)) ∧ caN (upd g j x) k 2 ≠ caN (upd g j x) k 4 ∧ caN (upd g j x) k 3 ≠ caN (upd g j x) k 5) ∧ (riN (upd g j x) k = 1 → exN (upd g j x) k = 1) := fun k hk => by
  have ec : ∀ i, i ≤ 5 → caN (upd g j x) k i = caN g k i := fun i hi => cl_ne (by omega)
  have ex : exN (upd g j x) k = exN g k := cl_ne (by omega)
  have er : riN (upd g j x) k = riN g k := cl_ne (by omega)
  have e1 : cN (upd g j x) = cN g := cl_ne (by omega)
  have e2 : rN (upd g j x) = rN g := cl_ne (by omega)
  obtain ⟨a1, a2, a3, a4⟩ := hW.2.2.2.2.2.2 k hk
  rw [ex, er, e1, e2, upd_ne (by omega)]
  refine ⟨a1, fun i hi hi2 => by rw [ec i hi2, upd_ne (by omega)]; exact a2 i hi hi2, fun z => ?_, a4⟩
  obtain ⟨b1, b2, b3, b4⟩ := a3 z
  exact ⟨by rw [ec 1 (by decide)]; exact b1, fun i hi hi2 => by rw [ec i hi2]; exact b2 i hi hi2, by rw [ec 2 (by decide), ec 4 (by decide)]; exact b3, by rw [ec 3 (by decide), ec 5 (by decide)]; exact b4⟩

set_option maxRecDepth 100000 in
set_option maxHeartbeats 4000000 in
theorem c_ruleNo {ae ad : Nat → Nat} {sh : mSh} {σ : mSt} {c v : Int32} (hb : mBoard ad sh) (h : c < 0 ∨ 1 < c) : Ct yX9_rule cX9_rule 4 (some .int) 3 0 0 [.ref (ad 0), .int c, .int v] ae ad sh σ (mEq (some (.int (-1))) ad sh σ) := by
  refine Ct.ofL (own := RX9) (ini := false) (ls := [some (.ref (ad 0)), some (.int c), some (.int v), none]) (by decide +kernel) rfl (fun h => by cases h) (Nat.le_of_ble_eq_true rfl) rfl ?_
  refine ev_iload_1 dX9_rule_0 ?_
  refine ev_if_lt (tgt := 9) dX9_rule_1 (by decide) (fun h1 => ?_) (fun h1 => ?_)
  · refine ev_iconst_m1 dX9_rule_9 ?_
    exact ev_ireturn dX9_rule_10
  · refine ev_iload_1 dX9_rule_4 ?_
    refine ev_iconst_1 dX9_rule_5 ?_
    refine ev_icmp_le (tgt := 11) dX9_rule_6 (by decide) (fun h6 => ?_) (fun h6 => ?_)
    · exact absurd h (fun z => z.elim h1 (fun y => Int32.not_le.mpr y h6))
    · refine ev_iconst_m1 dX9_rule_9 ?_
      exact ev_ireturn dX9_rule_10
set_option maxRecDepth 100000 in
set_option maxHeartbeats 4000000 in
theorem c_ruleBad0 {ae ad : Nat → Nat} {sh : mSh} {σ : mSt} {v : Int32} (hb : mBoard ad sh) (h : v < 0 ∨ 1 < v) : Ct yX9_rule cX9_rule 4 (some .int) 3 0 0 [.ref (ad 0), .int 0, .int v] ae ad sh σ (mEq (some (.int (-2))) ad sh σ) := by
  refine Ct.ofL (own := RX9) (ini := false) (ls := [some (.ref (ad 0)), some (.int 0), some (.int v), none]) (by decide +kernel) rfl (fun h => by cases h) (Nat.le_of_ble_eq_true rfl) rfl ?_
  refine ev_iload_1 dX9_rule_0 ?_
  refine ev_if_lt (tgt := 9) dX9_rule_1 (by decide) (fun h1 => absurd h1 (by decide)) (fun h1 => ?_)
  refine ev_iload_1 dX9_rule_4 ?_
  refine ev_iconst_1 dX9_rule_5 ?_
  refine ev_icmp_le (tgt := 11) dX9_rule_6 (by decide) (fun h6 => ?_) (fun h6 => absurd (by decide) h6)
  refine ev_iload_2 dX9_rule_11 ?_
  refine ev_if_lt (tgt := 28) dX9_rule_12 (by decide) (fun h12 => ?_) (fun h12 => ?_)
  · refine ev_bipush_m2 dX9_rule_28 ?_
    exact ev_ireturn dX9_rule_30
  · refine ev_iload_2 dX9_rule_15 ?_
    refine ev_iload_1 dX9_rule_16 ?_
    refine ev_if_ne (tgt := 24) dX9_rule_17 (by decide) (fun h17 => ?_) (fun h17 => ?_)
    · exact absurd (by decide) h17
    · refine ev_iconst_1 dX9_rule_20 ?_
      refine ev_goto (tgt := 25) dX9_rule_21 (by decide) ?_
      refine ev_icmp_le (tgt := 31) dX9_rule_25 (by decide) (fun h25 => ?_) (fun h25 => ?_)
      · exact absurd h (fun z => z.elim h12 (fun y => Int32.not_le.mpr y h25))
      · refine ev_bipush_m2 dX9_rule_28 ?_
        exact ev_ireturn dX9_rule_30
set_option maxRecDepth 100000 in
set_option maxHeartbeats 4000000 in
theorem c_rule0 {ae ad : Nat → Nat} {sh : mSh} {σ : mSt} {g : Nat → Int32} {v : Nat} (hb : mBoard ad sh) (hG : wfP g) (hP : posR σ 20 g) (hR : ritR σ 20 g) (hL : lawR σ 5 g) (hv : v ≤ 1) : Ct yX9_rule cX9_rule 4 (some .int) 3 0 0 [.ref (ad 0), .int 0, .int (nI v)] ae ad sh σ (mPi ad sh (fun x σ' => x = g 55 ∧ setR σ σ' (upd g 55 (nI v)))) := by
  refine Ct.ofL (own := RX9) (ini := false) (ls := [some (.ref (ad 0)), some (.int 0), some (.int (nI v)), none]) (by decide +kernel) rfl (fun h => by cases h) (Nat.le_of_ble_eq_true rfl) rfl ?_
  have hS : ∀ k, k ≠ 5 → (mu σ.1 5 9 (nI v), σ.2).1 k = σ.1 k := fun k hk => mu_ne _ hk
  have P1 := posR_lw (g' := upd g 55 (nI v)) (fun i hi => upd_ne (by omega)) hP hR
  have P2 := posR_lo (σ' := (mu σ.1 5 9 (nI v), σ.2)) P1.1 P1.2 (fun j hj => hS _ (by omega)) rfl
  have L2 : lawR (mu σ.1 5 9 (nI v), σ.2) 5 (upd g 55 (nI v)) := by
    refine lawR_mk hL (fun i h1 _ => hS _ (by omega)) (eqT_of (fun i h1 _ _ _ => upd_ne (by omega))) (fun t ht => ?_) (fun t ht => ?_) (fun k hk => ?_) (fun k i hk hi => ?_) ?_ ?_
    · rw [hS _ (by decide), upd_ne (by omega)]; exact hL.2.2.2.2.1 t ht
    · rw [hS _ (by decide), upd_ne (by omega)]; exact hL.2.2.2.2.2.1 t ht
    · rw [hS _ (by decide), upd_ne (by omega), upd_ne (by omega)]; exact hL.2.2.2.2.2.2.1 k hk
    · rw [hS _ (by decide), upd_ne (by omega)]; exact hL.2.2.2.2.2.2.2.1 k i hk hi
    · have := hL.2.2.2.2.2.2.2.2.1
      simp [mu, upd, this]
    · have := hL.2.2.2.2.2.2.2.2.2
      simp [mu, upd, this]
  refine ev_iload_1 dX9_rule_0 ?_
  refine ev_if_lt (tgt := 9) dX9_rule_1 (by decide) (fun h1 => absurd h1 (by decide)) (fun h1 => ?_)
  refine ev_iload_1 dX9_rule_4 ?_
  refine ev_iconst_1 dX9_rule_5 ?_
  refine ev_icmp_le (tgt := 11) dX9_rule_6 (by decide) (fun h6 => ?_) (fun h6 => absurd (by decide) h6)
  refine ev_iload_2 dX9_rule_11 ?_
  refine ev_if_lt (tgt := 28) dX9_rule_12 (by decide) (fun h12 => absurd h12 (nI_pos (by omega))) (fun h12 => ?_)
  refine ev_iload_2 dX9_rule_15 ?_
  refine ev_iload_1 dX9_rule_16 ?_
  refine ev_if_ne (tgt := 24) dX9_rule_17 (by decide) (fun h17 => ?_) (fun h17 => ?_)
  · exact absurd (by decide) h17
  · refine ev_iconst_1 dX9_rule_20 ?_
    refine ev_goto (tgt := 25) dX9_rule_21 (by decide) ?_
    refine ev_icmp_le (tgt := 31) dX9_rule_25 (by decide) (fun h25 => ?_) (fun h25 => absurd (nI_le (b := 1) hv (by decide)) h25)
    refine ev_iload_1 dX9_rule_31 ?_
    refine ev_if_ne (tgt := 45) dX9_rule_32 (by decide) (fun h32 => ?_) (fun h32 => ?_)
    · exact absurd (by decide) h32
    · refine ev_aload_0 dX9_rule_35 ?_
      refine gf_X9_24 dX9_rule_36 hb.1 rfl ?_
      refine gf_X9_142 dX9_rule_39 hb.2.2.2.1.1 rfl ?_
      refine ev_goto (tgt := 52) dX9_rule_42 (by decide) ?_
      refine ev_istore_3 dX9_rule_52 rfl rfl ?_
      refine ev_iload_1 dX9_rule_53 ?_
      refine ev_if_ne (tgt := 68) dX9_rule_54 (by decide) (fun h54 => ?_) (fun h54 => ?_)
      · exact absurd (by decide) h54
      · refine ev_aload_0 dX9_rule_57 ?_
        refine gf_X9_24 dX9_rule_58 hb.1 rfl ?_
        refine ev_iload_2 dX9_rule_61 ?_
        refine pf_X9_142 dX9_rule_62 hb.2.2.2.1.1 rfl ?_
        refine ev_goto (tgt := 76) dX9_rule_65 (by decide) ?_
        refine ev_aload_0 dX9_rule_76 ?_
        refine cl_X9_84 (c_beginG hb (wfP_up hG (by decide)) P2.1 P2.2) hb.1 dX9_rule_77 rfl (Nat.le_of_ble_eq_true rfl) ?_
        refine ev_iload_3 dX9_rule_80 ?_
        exact ev_pi dX9_rule_81 ⟨hL.2.2.2.2.2.2.2.2.1, setR_beg P2 L2 (fun k a b => ⟨hS k (by omega), rfl⟩)⟩
set_option maxRecDepth 100000 in
set_option maxHeartbeats 4000000 in
theorem c_ruleBad1 {ae ad : Nat → Nat} {sh : mSh} {σ : mSt} {v : Int32} (hb : mBoard ad sh) (h : v < 0 ∨ 2 < v) : Ct yX9_rule cX9_rule 4 (some .int) 3 0 0 [.ref (ad 0), .int 1, .int v] ae ad sh σ (mEq (some (.int (-2))) ad sh σ) := by
  refine Ct.ofL (own := RX9) (ini := false) (ls := [some (.ref (ad 0)), some (.int 1), some (.int v), none]) (by decide +kernel) rfl (fun h => by cases h) (Nat.le_of_ble_eq_true rfl) rfl ?_
  refine ev_iload_1 dX9_rule_0 ?_
  refine ev_if_lt (tgt := 9) dX9_rule_1 (by decide) (fun h1 => absurd h1 (by decide)) (fun h1 => ?_)
  refine ev_iload_1 dX9_rule_4 ?_
  refine ev_iconst_1 dX9_rule_5 ?_
  refine ev_icmp_le (tgt := 11) dX9_rule_6 (by decide) (fun h6 => ?_) (fun h6 => absurd (by decide) h6)
  refine ev_iload_2 dX9_rule_11 ?_
  refine ev_if_lt (tgt := 28) dX9_rule_12 (by decide) (fun h12 => ?_) (fun h12 => ?_)
  · refine ev_bipush_m2 dX9_rule_28 ?_
    exact ev_ireturn dX9_rule_30
  · refine ev_iload_2 dX9_rule_15 ?_
    refine ev_iload_1 dX9_rule_16 ?_
    refine ev_if_ne (tgt := 24) dX9_rule_17 (by decide) (fun h17 => ?_) (fun h17 => ?_)
    · refine ev_iconst_2 dX9_rule_24 ?_
      refine ev_icmp_le (tgt := 31) dX9_rule_25 (by decide) (fun h25 => ?_) (fun h25 => ?_)
      · exact absurd h (fun z => z.elim h12 (fun y => Int32.not_le.mpr y h25))
      · refine ev_bipush_m2 dX9_rule_28 ?_
        exact ev_ireturn dX9_rule_30
    · exact absurd h17 (by decide)
set_option maxRecDepth 100000 in
set_option maxHeartbeats 4000000 in
theorem c_rule1 {ae ad : Nat → Nat} {sh : mSh} {σ : mSt} {g : Nat → Int32} {v : Nat} (hb : mBoard ad sh) (hG : wfP g) (hP : posR σ 20 g) (hR : ritR σ 20 g) (hL : lawR σ 5 g) (hv : v ≤ 2) : Ct yX9_rule cX9_rule 4 (some .int) 3 0 0 [.ref (ad 0), .int 1, .int (nI v)] ae ad sh σ (mPi ad sh (fun x σ' => x = g 56 ∧ setR σ σ' (upd g 56 (nI v)))) := by
  refine Ct.ofL (own := RX9) (ini := false) (ls := [some (.ref (ad 0)), some (.int 1), some (.int (nI v)), none]) (by decide +kernel) rfl (fun h => by cases h) (Nat.le_of_ble_eq_true rfl) rfl ?_
  have hS : ∀ k, k ≠ 5 → (mu σ.1 5 10 (nI v), σ.2).1 k = σ.1 k := fun k hk => mu_ne _ hk
  have P1 := posR_lw (g' := upd g 56 (nI v)) (fun i hi => upd_ne (by omega)) hP hR
  have P2 := posR_lo (σ' := (mu σ.1 5 10 (nI v), σ.2)) P1.1 P1.2 (fun j hj => hS _ (by omega)) rfl
  have L2 : lawR (mu σ.1 5 10 (nI v), σ.2) 5 (upd g 56 (nI v)) := by
    refine lawR_mk hL (fun i h1 _ => hS _ (by omega)) (eqT_of (fun i h1 _ _ _ => upd_ne (by omega))) (fun t ht => ?_) (fun t ht => ?_) (fun k hk => ?_) (fun k i hk hi => ?_) ?_ ?_
    · rw [hS _ (by decide), upd_ne (by omega)]; exact hL.2.2.2.2.1 t ht
    · rw [hS _ (by decide), upd_ne (by omega)]; exact hL.2.2.2.2.2.1 t ht
    · rw [hS _ (by decide), upd_ne (by omega), upd_ne (by omega)]; exact hL.2.2.2.2.2.2.1 k hk
    · rw [hS _ (by decide), upd_ne (by omega)]; exact hL.2.2.2.2.2.2.2.1 k i hk hi
    · have := hL.2.2.2.2.2.2.2.2.1
      simp [mu, upd, this]
    · have := hL.2.2.2.2.2.2.2.2.2
      simp [mu, upd, this]
  refine ev_iload_1 dX9_rule_0 ?_
  refine ev_if_lt (tgt := 9) dX9_rule_1 (by decide) (fun h1 => absurd h1 (by decide)) (fun h1 => ?_)
  refine ev_iload_1 dX9_rule_4 ?_
  refine ev_iconst_1 dX9_rule_5 ?_
  refine ev_icmp_le (tgt := 11) dX9_rule_6 (by decide) (fun h6 => ?_) (fun h6 => absurd (by decide) h6)
  refine ev_iload_2 dX9_rule_11 ?_
  refine ev_if_lt (tgt := 28) dX9_rule_12 (by decide) (fun h12 => absurd h12 (nI_pos (by omega))) (fun h12 => ?_)
  refine ev_iload_2 dX9_rule_15 ?_
  refine ev_iload_1 dX9_rule_16 ?_
  refine ev_if_ne (tgt := 24) dX9_rule_17 (by decide) (fun h17 => ?_) (fun h17 => ?_)
  · refine ev_iconst_2 dX9_rule_24 ?_
    refine ev_icmp_le (tgt := 31) dX9_rule_25 (by decide) (fun h25 => ?_) (fun h25 => absurd (nI_le (b := 2) hv (by decide)) h25)
    refine ev_iload_1 dX9_rule_31 ?_
    refine ev_if_ne (tgt := 45) dX9_rule_32 (by decide) (fun h32 => ?_) (fun h32 => ?_)
    · refine ev_aload_0 dX9_rule_45 ?_
      refine gf_X9_24 dX9_rule_46 hb.1 rfl ?_
      refine gf_X9_145 dX9_rule_49 hb.2.2.2.1.1 rfl ?_
      refine ev_istore_3 dX9_rule_52 rfl rfl ?_
      refine ev_iload_1 dX9_rule_53 ?_
      refine ev_if_ne (tgt := 68) dX9_rule_54 (by decide) (fun h54 => ?_) (fun h54 => ?_)
      · refine ev_aload_0 dX9_rule_68 ?_
        refine gf_X9_24 dX9_rule_69 hb.1 rfl ?_
        refine ev_iload_2 dX9_rule_72 ?_
        refine pf_X9_145 dX9_rule_73 hb.2.2.2.1.1 rfl ?_
        refine ev_aload_0 dX9_rule_76 ?_
        refine cl_X9_84 (c_beginG hb (wfP_up hG (by decide)) P2.1 P2.2) hb.1 dX9_rule_77 rfl (Nat.le_of_ble_eq_true rfl) ?_
        refine ev_iload_3 dX9_rule_80 ?_
        exact ev_pi dX9_rule_81 ⟨hL.2.2.2.2.2.2.2.2.2, setR_beg P2 L2 (fun k a b => ⟨hS k (by omega), rfl⟩)⟩
      · exact absurd h54 (by decide)
    · exact absurd h32 (by decide)
  · exact absurd h17 (by decide)
theorem rule_wfL {g : Nat → Int32} (hW : wfL g) {c v : Nat} (hc : c ≤ 1) (hv : v ≤ c + 1) : wfL (upd g (55 + c) (nI v)) := by
  refine wfL_mk hW (eqT_of (fun i h1 _ _ _ => upd_ne (by omega))) ?_ ?_ (fun t ht => ?_) (fun t ht => ?_) (cas_up hW (by omega) (by omega))
  · rcases (show c = 0 ∨ c = 1 by omega) with e | e
    · subst e; rw [cl_at (by omega), upd_at]; exact ⟨rfl, hv⟩
    · subst e; rw [cl_ne (by decide), upd_ne (by decide)]; exact hW.1
  · rcases (show c = 0 ∨ c = 1 by omega) with e | e
    · subst e; rw [cl_ne (by decide), upd_ne (by decide)]; exact hW.2.1
    · subst e; rw [cl_at (by omega), upd_at]; exact ⟨rfl, hv⟩
  · rw [cl_ne (by omega), upd_ne (by omega)]; exact hW.2.2.1 t ht
  · rw [cl_ne (by omega), upd_ne (by omega)]; exact hW.2.2.2.1 t ht

