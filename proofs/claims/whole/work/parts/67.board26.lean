/-- the reference's row after size -/
def sizG (g : Nat → Int32) (c r : Nat) : Nat → Int32 := fun i => if i < 53 then 0 else if i = 53 then nI c else if i = 54 then nI r else if 184 ≤ i ∧ i < 208 ∧ (i - 184) % 6 = 0 then 0 else g i
theorem siz_z {g : Nat → Int32} {c r i : Nat} (h : i < 53) : sizG g c r i = 0 := if_pos h
theorem siz_e {g : Nat → Int32} {c r i : Nat} (h : 55 ≤ i) (h2 : i < 184 ∨ 208 ≤ i ∨ (i - 184) % 6 ≠ 0) : sizG g c r i = g i := by
  unfold sizG
  rw [if_neg (by omega), if_neg (by omega), if_neg (by omega), if_neg (by omega)]
theorem siz_x {g : Nat → Int32} {c r k : Nat} (h : k < 4) : sizG g c r (184 + 6 * k) = 0 := by
  unfold sizG
  rw [if_neg (by omega), if_neg (by omega), if_neg (by omega), if_pos (by omega)]
theorem siz_53 {g : Nat → Int32} {c r : Nat} : sizG g c r 53 = nI c := by
  unfold sizG
  rw [if_neg (by omega), if_pos rfl]
theorem siz_54 {g : Nat → Int32} {c r : Nat} : sizG g c r 54 = nI r := by
  unfold sizG
  rw [if_neg (by omega), if_neg (by omega), if_pos rfl]
theorem cl_z {f : Nat → Int32} {k : Nat} (h : f k = 0) : clN f k = 0 := clN_nI (m := 0) h (by decide)
theorem siz_wfP {g : Nat → Int32} {c r : Nat} (hc : 2 ≤ c ∧ c ≤ 6) (hr : 2 ≤ r ∧ r ≤ 6) : wfP (sizG g c r) := by
  have ec : cN (sizG g c r) = c := clN_nI siz_53 (by omega)
  have er : rN (sizG g c r) = r := clN_nI siz_54 (by omega)
  refine ⟨by rw [ec]; exact ⟨siz_53, hc⟩, by rw [er]; exact ⟨siz_54, hr⟩, fun q hq => ?_, fun i hi => ?_, fun k hk => ?_, ?_, ?_⟩
  · have e : mN (sizG g c r) q = 0 := cl_z (siz_z (by omega))
    rw [e, siz_z (by omega)]; exact ⟨rfl, by decide, fun _ => rfl⟩
  · have e : hN (sizG g c r) i = 0 := cl_z (siz_z (by omega))
    rw [e, siz_z (by omega)]; exact ⟨rfl, by decide⟩
  · have e : riN (sizG g c r) k = 0 := cl_z (siz_z (by omega))
    rw [e, siz_z (by omega)]; exact ⟨rfl, by decide⟩
  · have e : tuN (sizG g c r) = 0 := cl_z (siz_z (by decide))
    rw [e, siz_z (by decide)]; rfl
  · have e : tuN (sizG g c r) = 0 := cl_z (siz_z (by decide))
    rw [e]; decide
theorem siz_wfL {g : Nat → Int32} {c r : Nat} (hW : wfL g) : wfL (sizG g c r) := by
  have hc : ∀ i, 55 ≤ i → (i < 184 ∨ 208 ≤ i ∨ (i - 184) % 6 ≠ 0) → clN (sizG g c r) i = clN g i := fun i h1 h2 => by rw [clN, clN, siz_e h1 h2]
  refine wfL_mk hW (eqT_of (fun i h1 h2 h3 h4 => siz_e (by omega) (by omega))) ?_ ?_ (fun t ht => ?_) (fun t ht => ?_) (fun k hk => ?_)
  · rw [hc _ (by decide) (by decide), siz_e (by decide) (by decide)]; exact hW.1
  · rw [hc _ (by decide) (by decide), siz_e (by decide) (by decide)]; exact hW.2.1
  · rw [hc _ (by omega) (by omega), siz_e (by omega) (by omega)]; exact hW.2.2.1 t ht
  · rw [hc _ (by omega) (by omega), siz_e (by omega) (by omega)]; exact hW.2.2.2.1 t ht
  · have ex : exN (sizG g c r) k = 0 := cl_z (siz_x hk)
    have er : riN (sizG g c r) k = 0 := cl_z (siz_z (by omega))
    obtain ⟨a1, a2, a3, a4⟩ := hW.2.2.2.2.2.2 k hk
    rw [ex, er, siz_x hk]
    refine ⟨⟨rfl, by decide⟩, fun i hi hi2 => ?_, fun z => by omega, fun z => by omega⟩
    have e : caN (sizG g c r) k i = caN g k i := hc _ (by omega) (by omega)
    rw [e, siz_e (by omega) (by omega)]; exact a2 i hi hi2
/-- after empty and removeCastlings -/
def szS (σ : mSt) (c r : Int32) : mSt := (mr (emS σ 20 c r).1 13 (fa_fill (fun _ => -1) ((emS σ 20 c r).1 13) 4), (emS σ 20 c r).2)
theorem szS_ne {σ : mSt} {c r : Int32} {k : Nat} (h : k ≠ 13) : (szS σ c r).1 k = (emS σ 20 c r).1 k := mr_ne _ _ h
theorem siz_P {σ : mSt} {g : Nat → Int32} {c r : Nat} : posR (szS σ (nI c) (nI r)) 20 (sizG g c r) ∧ ritR (szS σ (nI c) (nI r)) 20 (sizG g c r) := by
  have hQ : posQ (emS σ 20 (nI c) (nI r)) 20 (fun _ => 0) (fun _ => 0) (nI c) (nI r) 0 0 := emS_Q
  refine posR_lo (hQ.toR (fun q hq => siz_z (by omega)) (fun i hi => siz_z (by omega)) siz_53.symm siz_54.symm (siz_z (by decide)).symm) (hQ.toRit (fun k hk => ?_)) (fun i hi => szS_ne (by omega)) rfl
  rw [b_0]
  refine (decide_eq_false (fun z => ?_)).symm
  have er : riN (sizG g c r) k = 0 := cl_z (siz_z (by omega))
  omega
theorem siz_L {σ : mSt} {g : Nat → Int32} {c r : Nat} (hL : lawR σ 5 g) : lawR (szS σ (nI c) (nI r)) 5 (sizG g c r) := by
  have e : ∀ k, k < 20 → k ≠ 13 → (szS σ (nI c) (nI r)).1 k = σ.1 k := fun k h1 h2 => (szS_ne h2).trans (emS_fr k (by omega) (by omega) (by omega)).1
  refine lawR_mk hL (fun i h1 h2 => e _ (by omega) (by omega)) (eqT_of (fun i h1 h2 h3 h4 => siz_e (by omega) (by omega))) (fun t ht => ?_) (fun t ht => ?_) (fun k hk => ?_) (fun k i hk hi => ?_) ?_ ?_
  · rw [e _ (by decide) (by decide), siz_e (by omega) (by omega)]; exact hL.2.2.2.2.1 t ht
  · rw [e _ (by decide) (by decide), siz_e (by omega) (by omega)]; exact hL.2.2.2.2.2.1 t ht
  · rw [siz_x hk, if_neg (by decide)]
    show mr (emS σ 20 (nI c) (nI r)).1 13 (fa_fill (fun _ => -1) ((emS σ 20 (nI c) (nI r)).1 13) 4) 13 k = -1
    rw [mr_at, fa_fill_in hk]
  · rw [e _ (by decide) (by decide), siz_e (by omega) (by omega)]; exact hL.2.2.2.2.2.2.2.1 k i hk hi
  · rw [e _ (by decide) (by decide), siz_e (by decide) (by decide)]; exact hL.2.2.2.2.2.2.2.2.1
  · rw [e _ (by decide) (by decide), siz_e (by decide) (by decide)]; exact hL.2.2.2.2.2.2.2.2.2
theorem isLen_nI {x : Int32} (h : isLen x = true) : ∃ c, (2 ≤ c ∧ c ≤ 6) ∧ x = nI c := by
  obtain ⟨h1, h2⟩ := of_decide_eq_true h
  have h0 : ¬ x < 0 := fun z => h1 (Int32.lt_trans z (by decide))
  obtain ⟨j, hj, e⟩ := nI_of h0
  subst e
  refine ⟨j, ⟨Nat.le_of_not_lt fun z => h1 ((nI_ltI hj (by decide)).mpr z), Nat.le_of_not_lt fun z => h2 ((nI_ltI (b := j) (by decide) hj).mpr z)⟩, rfl⟩
theorem isLen_of {c : Nat} (h : 2 ≤ c ∧ c ≤ 6) : isLen (nI c) = true := by
  have h2 : ∀ c, c ≤ 6 → 2 ≤ c → isLen (nI c) = true := by decide
  exact h2 c h.2 h.1

set_option maxRecDepth 100000 in
set_option maxHeartbeats 4000000 in
theorem c_sizeNo {ae ad : Nat → Nat} {sh : mSh} {σ : mSt} {x y : Int32} (hb : mBoard ad sh) (h : ¬ (isLen x = true ∧ isLen y = true)) : Ct yX9_size cX9_size 3 (some .int) 3 0 0 [.ref (ad 0), .int x, .int y] ae ad sh σ (mEq (some (.int (-2))) ad sh σ) := by
  refine Ct.ofL (own := RX9) (ini := false) (ls := [some (.ref (ad 0)), some (.int x), some (.int y)]) (by decide +kernel) rfl (fun h => by cases h) (Nat.le_of_ble_eq_true rfl) rfl ?_
  refine ev_iload_1 dX9_size_0 ?_
  refine cl_X9_95 c_isLength dX9_size_1 rfl (Nat.le_of_ble_eq_true rfl) ?_
  refine ev_if_eq (tgt := 14) dX9_size_4 (by decide) (fun h4 => ?_) (fun h4 => ?_)
  · refine ev_bipush_m2 dX9_size_14 ?_
    exact ev_ireturn dX9_size_16
  · refine ev_iload_2 dX9_size_7 ?_
    refine cl_X9_95 c_isLength dX9_size_8 rfl (Nat.le_of_ble_eq_true rfl) ?_
    refine ev_if_ne (tgt := 17) dX9_size_11 (by decide) (fun h11 => ?_) (fun h11 => ?_)
    · exact absurd ⟨b2i_t h4, b2i_t h11⟩ h
    · refine ev_bipush_m2 dX9_size_14 ?_
      exact ev_ireturn dX9_size_16
set_option maxRecDepth 100000 in
set_option maxHeartbeats 4000000 in
theorem c_size {ae ad : Nat → Nat} {sh : mSh} {σ : mSt} {g : Nat → Int32} {c r : Nat} (hb : mBoard ad sh) (hL : lawR σ 5 g) (hc : 2 ≤ c ∧ c ≤ 6) (hr : 2 ≤ r ∧ r ≤ 6) : Ct yX9_size cX9_size 3 (some .int) 3 0 0 [.ref (ad 0), .int (nI c), .int (nI r)] ae ad sh σ (mPi ad sh (fun x σ' => x = nI (c * r) ∧ setR σ σ' (sizG g c r))) := by
  refine Ct.ofL (own := RX9) (ini := false) (ls := [some (.ref (ad 0)), some (.int (nI c)), some (.int (nI r))]) (by decide +kernel) rfl (fun h => by cases h) (Nat.le_of_ble_eq_true rfl) rfl ?_
  refine ev_iload_1 dX9_size_0 ?_
  refine cl_X9_95 c_isLength dX9_size_1 rfl (Nat.le_of_ble_eq_true rfl) ?_
  refine ev_if_eq (tgt := 14) dX9_size_4 (by decide) (fun h4 => ?_) (fun h4 => ?_)
  · first
    | exact absurd ((b2i_0 _).mp h11) (by rw [isLen_of hr]; decide)
    | exact absurd ((b2i_0 _).mp h4) (by rw [isLen_of hc]; decide)
  · refine ev_iload_2 dX9_size_7 ?_
    refine cl_X9_95 c_isLength dX9_size_8 rfl (Nat.le_of_ble_eq_true rfl) ?_
    refine ev_if_ne (tgt := 17) dX9_size_11 (by decide) (fun h11 => ?_) (fun h11 => ?_)
    · refine ev_aload_0 dX9_size_17 ?_
      refine gf_X9_47 dX9_size_18 hb.1 rfl ?_
      refine ev_iload_1 dX9_size_21 ?_
      refine ev_iload_2 dX9_size_22 ?_
      refine cl_X9_98 (c_empty hb.2.2.2.2.2.2.1) hb.2.2.2.2.2.2.1.1 dX9_size_23 rfl (Nat.le_of_ble_eq_true rfl) ?_
      refine ev_aload_0 dX9_size_26 ?_
      refine gf_X9_24 dX9_size_27 hb.1 rfl ?_
      refine cl_X9_102 (c_removeCastlings hb.2.2.2.1) hb.2.2.2.1.1 dX9_size_30 rfl (Nat.le_of_ble_eq_true rfl) ?_
      refine ev_aload_0 dX9_size_33 ?_
      refine cl_X9_84 (c_beginG hb (siz_wfP hc hr) (siz_P (σ := σ) (g := g)).1 (siz_P (σ := σ) (g := g)).2) hb.1 dX9_size_34 rfl (Nat.le_of_ble_eq_true rfl) ?_
      refine ev_aload_0 dX9_size_37 ?_
      refine gf_X9_47 dX9_size_38 hb.1 rfl ?_
      refine cl_X9_105 (c_squares hb.2.2.2.2.2.2.1) hb.2.2.2.2.2.2.1.1 dX9_size_41 rfl (Nat.le_of_ble_eq_true rfl) ?_
      have hs := setR_beg (σ := σ) (siz_P (σ := σ) (g := g) (c := c) (r := r)) (siz_L hL) (fun k a b => ⟨(szS_ne (by omega)).trans (emS_fr k (by omega) (by omega) (by omega)).1, (emS_fr (σ := σ) (p := 20) (c := nI c) (r := nI r) k (by omega) (by omega) (by omega)).2⟩)
      exact ev_pi dX9_size_44 ⟨(hs.1.1.sq (siz_wfP hc hr)).trans (by rw [show cN (sizG g c r) = c from clN_nI siz_53 (by omega), show rN (sizG g c r) = r from clN_nI siz_54 (by omega)]), hs⟩
    · first
      | exact absurd ((b2i_0 _).mp h11) (by rw [isLen_of hr]; decide)
      | exact absurd ((b2i_0 _).mp h4) (by rw [isLen_of hc]; decide)
