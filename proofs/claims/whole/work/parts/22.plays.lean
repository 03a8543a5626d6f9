theorem pl_hi {g : Nat → Int32} {m i : Nat} (h : 53 ≤ i) : playsG g m i = g i := by
  unfold playsG
  rw [if_neg (by omega), if_neg (by omega), if_neg (by omega), if_neg (by omega)]
theorem pl_0 (g : Nat → Int32) (m : Nat) : playsG g m 0 = nI (1 - tuN g) := rfl
theorem pl_sq {g : Nat → Int32} {m q : Nat} (h : q < 36) : playsG g m (1 + q) = nI (sqP g m q) := by
  unfold playsG
  rw [if_neg (by omega), if_pos (by omega), show 1 + q - 1 = q by omega]
theorem pl_hd {g : Nat → Int32} {m i : Nat} (h : i < 12) : playsG g m (37 + i) = nI (hdP g m i) := by
  unfold playsG
  rw [if_neg (by omega), if_neg (by omega), if_pos (by omega), show 37 + i - 37 = i by omega]
theorem pl_ri {g : Nat → Int32} {m k : Nat} (h : k < 4) : playsG g m (49 + k) = nI (riP g m k) := by
  unfold playsG
  rw [if_neg (by omega), if_neg (by omega), if_neg (by omega), if_pos (by omega), show 49 + k - 49 = k by omega]
theorem cl_hi {g : Nat → Int32} {m i : Nat} (h : 53 ≤ i) : clN (playsG g m) i = clN g i := by rw [clN, clN, pl_hi h]
theorem sqP_le {g : Nat → Int32} (hG : wfP g) (hW : wfL g) {m : Nat} (hm : mvOk g m) {q : Nat} (hq : q < 36) : sqP g m q ≤ 12 ∧ (cN g * rN g ≤ q → sqP g m q = 0) := by
  have h12 := wf_m hG hq
  have hz := (hG.2.2.1 q hq).2.2
  unfold sqP
  rcases mK_le hm with k | k | k
  · have e := mv0 hm k
    have harr := arr_le hG hW hm
    rw [if_pos k]
    refine ⟨?_, fun h => ?_⟩
    · split
      · exact harr
      · split
        · decide
        · exact h12
    · rw [if_neg (by omega), if_neg (by omega)]
      exact hz h
  · have e1 := (mv1 hm k).1
    have e2 := (mv1 hm k).2.1
    have e3 := ((hW.2.2.2.2.2.2 _ e1).2.2.1 e2).2.1
    have b2 := e3 2 (by decide) (by decide)
    have b3 := e3 3 (by decide) (by decide)
    have b4 := e3 4 (by decide) (by decide)
    have b5 := e3 5 (by decide) (by decide)
    have h36 := wf_sq hG
    have c2 := wf_m hG (q := caN g (mA m) 2) (by omega)
    have c4 := wf_m hG (q := caN g (mA m) 4) (by omega)
    rw [if_neg (by omega), if_pos k]
    refine ⟨?_, fun h => ?_⟩
    · split
      · exact c4
      · split
        · exact c2
        · split
          · decide
          · split
            · decide
            · exact h12
    · rw [if_neg (by omega), if_neg (by omega), if_neg (by omega), if_neg (by omega)]
      exact hz h
  · have e := (mv2 hm k).2.1
    have g1 := goer_le hG hW hm
    rw [if_neg (by omega), if_neg (by omega)]
    refine ⟨?_, fun h => ?_⟩
    · split
      · exact g1.2
      · exact h12
    · rw [if_neg (by omega)]
      exact hz h
theorem hdP_le {g : Nat → Int32} (hG : wfP g) {m i : Nat} (hi : i < 12) : hdP g m i ≤ 9 := by
  have h9 := (hG.2.2.2.1 i hi).2
  unfold hdP
  split
  · rename_i h
    have h1 := h.1
    unfold gainB at h1
    simp only [Bool.and_eq_true, decide_eq_true_eq] at h1
    have h2 := h1.2.2
    rw [← h.2] at h2
    omega
  · split <;> omega
theorem riP_le {g : Nat → Int32} (hG : wfP g) {m k : Nat} (hk : k < 4) : riP g m k ≤ 1 := by
  have h9 := (hG.2.2.2.2.1 k hk).2
  unfold riP
  split
  · decide
  · exact h9
theorem pl_mN {g : Nat → Int32} (hG : wfP g) (hW : wfL g) {m : Nat} (hm : mvOk g m) {q : Nat} (hq : q < 36) : mN (playsG g m) q = sqP g m q := clN_nI (pl_sq hq) (by have := (sqP_le hG hW hm hq).1; omega)
theorem pl_hN {g : Nat → Int32} (hG : wfP g) {m i : Nat} (hi : i < 12) : hN (playsG g m) i = hdP g m i := clN_nI (pl_hd hi) (by have := hdP_le (m := m) hG hi; omega)
theorem pl_riN {g : Nat → Int32} (hG : wfP g) {m k : Nat} (hk : k < 4) : riN (playsG g m) k = riP g m k := clN_nI (pl_ri hk) (by have := riP_le (m := m) hG hk; omega)
theorem pl_tu {g : Nat → Int32} (hG : wfP g) (m : Nat) : tuN (playsG g m) = 1 - tuN g := clN_nI (pl_0 g m) (by have := tu_le hG; omega)
theorem pl_wfP {g : Nat → Int32} (hG : wfP g) (hW : wfL g) {m : Nat} (hm : mvOk g m) : wfP (playsG g m) := by
  have ec : cN (playsG g m) = cN g := cl_hi (by decide)
  have er : rN (playsG g m) = rN g := cl_hi (by decide)
  refine ⟨?_, ?_, fun q hq => ?_, fun i hi => ?_, fun k hk => ?_, ?_⟩
  · rw [ec, pl_hi (by decide)]; exact hG.1
  · rw [er, pl_hi (by decide)]; exact hG.2.1
  · rw [ec, er, pl_mN hG hW hm hq]
    exact ⟨pl_sq hq, (sqP_le hG hW hm hq).1, (sqP_le hG hW hm hq).2⟩
  · rw [pl_hN hG hi]; exact ⟨pl_hd hi, hdP_le hG hi⟩
  · rw [pl_riN hG hk]; exact ⟨pl_ri hk, riP_le hG hk⟩
  · rw [pl_tu hG m]; exact ⟨pl_0 g m, by omega⟩
theorem pl_wfL {g : Nat → Int32} (hG : wfP g) (hW : wfL g) {m : Nat} (hm : mvOk g m) : wfL (playsG g m) := by
  have ec : cN (playsG g m) = cN g := cl_hi (by decide)
  have er : rN (playsG g m) = rN g := cl_hi (by decide)
  have ep : ∀ t, pcG (playsG g m) t = pcG g t := fun t => cl_hi (by omega)
  have ea : ∀ t j, atG (playsG g m) t j = atG g t j := fun t j => cl_hi (by omega)
  have ex : ∀ k, exN (playsG g m) k = exN g k := fun k => cl_hi (by omega)
  have eca : ∀ k i, caN (playsG g m) k i = caN g k i := fun k i => cl_hi (by omega)
  obtain ⟨h1, h2, h3, h4, h5, h6, h7⟩ := hW
  refine ⟨?_, ?_, fun t ht => ?_, fun t ht => ?_, fun t ht => ?_, fun t ht j hj => ?_, fun k hk => ?_⟩
  · rw [cl_hi (by decide), pl_hi (by decide)]; exact h1
  · rw [cl_hi (by decide), pl_hi (by decide)]; exact h2
  · rw [cl_hi (by omega), pl_hi (by omega)]; exact h3 t ht
  · rw [cl_hi (by omega), pl_hi (by omega)]; exact h4 t ht
  · rw [ep, pl_hi (by omega)]; exact h5 t ht
  · rw [ep] at hj
    rw [ea, cl_hi (show 53 ≤ 61 + 21 * t + 3 * j by omega), cl_hi (show 53 ≤ 63 + 21 * t + 3 * j by omega), pl_hi (show 53 ≤ 61 + 21 * t + 3 * j by omega), pl_hi (show 53 ≤ 62 + 21 * t + 3 * j by omega), pl_hi (show 53 ≤ 63 + 21 * t + 3 * j by omega)]
    exact h6 t ht j hj
  · obtain ⟨a1, a2, a3, a4⟩ := h7 k hk
    rw [ex, ec, er, pl_hi (show 53 ≤ 184 + 6 * k by omega), pl_riN hG hk]
    refine ⟨a1, fun i i1 i2 => ?_, fun h => ?_, fun h => a4 ?_⟩
    · rw [eca, pl_hi (by omega)]; exact a2 i i1 i2
    · rw [eca]
      rw [eca, eca, eca, eca]
      refine ⟨(a3 h).1, fun i i1 i2 => ?_, (a3 h).2.2⟩
      rw [eca]; exact (a3 h).2.1 i i1 i2
    · unfold riP at h
      split at h
      · exact absurd h (by decide)
      · exact h
theorem lawR.pl {σ : mSt} {l : Nat} {g : Nat → Int32} (hL : lawR σ l g) (m : Nat) : lawR σ l (playsG g m) := by
  have ep : ∀ t, pcG (playsG g m) t = pcG g t := fun t => cl_hi (by omega)
  have ea : ∀ t j, atG (playsG g m) t j = atG g t j := fun t j => cl_hi (by omega)
  have em : ∀ t j, mkG (playsG g m) t j = mkG g t j := fun t j => by rw [mkG, mkG, pl_hi (by omega)]
  have er : ∀ t j, rcG (playsG g m) t j = rcG g t j := fun t j => by rw [rcG, rcG, pl_hi (by omega)]
  have ed : ∀ t j, dmG (playsG g m) t j = dmG g t j := fun t j => by rw [dmG, dmG, ea, em]
  obtain ⟨h1, h2, h3, h4, h5, h6, h7, h8, h9, h10⟩ := hL
  refine ⟨fun t ht => ?_, fun t ht j hj => ?_, h3, h4, fun t ht => ?_, fun t ht => ?_, fun k hk => ?_, fun k i hk hi => ?_, ?_, ?_⟩
  · rw [ep]; exact h1 t ht
  · rw [ep] at hj
    rw [ea, em, er, ed]; exact h2 t ht j hj
  · rw [pl_hi (by omega)]; exact h5 t ht
  · rw [pl_hi (by omega)]; exact h6 t ht
  · rw [pl_hi (by omega), pl_hi (by omega)]; exact h7 k hk
  · rw [pl_hi (by omega)]; exact h8 k i hk hi
  · rw [pl_hi (by decide)]; exact h9
  · rw [pl_hi (by decide)]; exact h10
theorem ap_R {σ : mSt} {p : Nat} {g : Nat → Int32} (hG : wfP g) (hW : wfL g) {m : Nat} (hm : mvOk g m) (h : posQ σ p (sqP g m) (hdP g m) (g 53) (g 54) (nI (1 - tuN g)) (X5G g m)) : posR σ p (playsG g m) ∧ ritR σ p (playsG g m) :=
  ⟨h.toR (fun q hq => pl_sq hq) (fun i hi => pl_hd hi) (pl_hi (by decide)).symm (pl_hi (by decide)).symm rfl, h.toRit (fun k hk => by
    rw [X5_bt hG m hk, decide_eq_decide]
    constructor
    · rintro ⟨a, b⟩; exact ⟨a, (pl_riN hG a).trans b⟩
    · rintro ⟨a, b⟩; exact ⟨a, (pl_riN hG a).symm.trans b⟩)⟩

