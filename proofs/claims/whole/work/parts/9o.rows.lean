theorem mak_wf {g : Nat → Int32} (hG : wfP g) (hW : wfL g) {m D : Nat} (hm : mvOk g m) (hD : D < 40) : wfP (makG g m D) ∧ wfL (makG g m D) := by
  refine ⟨wfP_lw (mak_55 hD) (pl_wfP hG hW hm), wfL_of (g := playsG g m) (fun i a b c => by rw [mak_lw hD i a b c, pl_hi a]) (fun k hk z => ?_) (pl_wfL hG hW hm)⟩
  unfold riN clN at z ⊢
  rw [mak_55 hD _ (by omega)] at z
  exact z
theorem ups_wfL {g : Nat → Int32} {a n : Nat} (hW : wfL g) (hn : n < 10) (hp : ∀ i, 60 ≤ i → i < 184 → (i - 58) % 21 ≠ 0 → (i - 58) % 21 ≠ 1 → i ≠ a) (hh : a < 49 ∨ 55 ≤ a) (hc : a < 184) (b55 : a = 55 → n ≤ 1) (b56 : a = 56 → n ≤ 2) (b58 : ∀ t, t < 6 → a = 58 + 21 * t → n ≤ 1) (b59 : ∀ t, t < 6 → a = 59 + 21 * t → n ≤ 6) : wfL (upd g a (nI n)) := by
  have c : ∀ i, i ≠ a → upd g a (nI n) i = g i := fun i hi => upd_ne hi
  have c2 : ∀ i, i ≠ a → clN (upd g a (nI n)) i = clN g i := fun i hi => by rw [clN, clN, c i hi]
  have d : upd g a (nI n) a = nI n := upd_at
  have d2 : clN (upd g a (nI n)) a = n := clN_nI d (by omega)
  obtain ⟨w1, w2, w3, w4, w5, w6, w7⟩ := hW
  have one : ∀ i M, (i = a → n ≤ M) → (g i = nI (clN g i) ∧ clN g i ≤ M) → upd g a (nI n) i = nI (clN (upd g a (nI n)) i) ∧ clN (upd g a (nI n)) i ≤ M := fun i M hM h => by
    by_cases z : i = a
    · subst z; rw [d2, d]; exact ⟨rfl, hM rfl⟩
    · rw [c2 i z, c i z]; exact h
  refine wfL_mk ⟨w1, w2, w3, w4, w5, w6, w7⟩ (eqT_of (fun i x1 x2 x3 x4 => c i (hp i x1 x2 x3 x4))) (one 55 1 (fun z => b55 z.symm) w1) (one 56 2 (fun z => b56 z.symm) w2) (fun t ht => one _ 1 (fun z => b58 t ht z.symm) (w3 t ht)) (fun t ht => one _ 6 (fun z => b59 t ht z.symm) (w4 t ht)) (fun k hk => ?_)
  have e1 : exN (upd g a (nI n)) k = exN g k := c2 _ (by omega)
  have e2 : ∀ i, caN (upd g a (nI n)) k i = caN g k i := fun i => c2 _ (by omega)
  have e3 : riN (upd g a (nI n)) k = riN g k := c2 _ (by omega)
  have e4 : cN (upd g a (nI n)) = cN g := c2 _ (by omega)
  have e5 : rN (upd g a (nI n)) = rN g := c2 _ (by omega)
  obtain ⟨q1, q2, q3, q4⟩ := w7 k hk
  rw [e1, e3, e4, e5, c _ (by omega)]
  refine ⟨q1, fun i h1 h5 => by rw [e2 i, c _ (by omega)]; exact q2 i h1 h5, fun y => ?_, q4⟩
  obtain ⟨r1, r2, r3, r4⟩ := q3 y
  exact ⟨by rw [e2 1]; exact r1, fun i h1 h2 => by rw [e2 i]; exact r2 i h1 h2, by rw [e2 2, e2 4]; exact r3, by rw [e2 3, e2 5]; exact r4⟩
theorem hd_wfP {g : Nat → Int32} {j n : Nat} (hG : wfP g) (hn : n ≤ 9) (hj : j < 12) : wfP (upd g (37 + j) (nI n)) := by
  have c : ∀ i, i ≠ 37 + j → upd g (37 + j) (nI n) i = g i := fun i hi => upd_ne hi
  have c2 : ∀ i, i ≠ 37 + j → clN (upd g (37 + j) (nI n)) i = clN g i := fun i hi => by rw [clN, clN, c i hi]
  obtain ⟨h1, h2, h3, h4, h5, h6⟩ := hG
  unfold wfP
  have e4 : cN (upd g (37 + j) (nI n)) = cN g := c2 _ (by omega)
  have e5 : rN (upd g (37 + j) (nI n)) = rN g := c2 _ (by omega)
  have e6 : tuN (upd g (37 + j) (nI n)) = tuN g := c2 _ (by omega)
  rw [e4, e5, e6, c 53 (by omega), c 54 (by omega), c 0 (by omega)]
  refine ⟨h1, h2, fun q hq => ?_, fun i hi => ?_, fun k hk => ?_, h6⟩
  · have e : mN (upd g (37 + j) (nI n)) q = mN g q := c2 _ (by omega)
    rw [e, c _ (by omega)]; exact h3 q hq
  · by_cases z : i = j
    · subst z
      have e : hN (upd g (37 + i) (nI n)) i = n := clN_nI upd_at (by omega)
      rw [e, upd_at]; exact ⟨rfl, hn⟩
    · have e : hN (upd g (37 + j) (nI n)) i = hN g i := c2 _ (by omega)
      rw [e, c _ (by omega)]; exact h4 i hi
  · have e : riN (upd g (37 + j) (nI n)) k = riN g k := c2 _ (by omega)
    rw [e, c _ (by omega)]; exact h5 k hk

