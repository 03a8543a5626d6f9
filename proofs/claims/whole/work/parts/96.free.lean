theorem way_cg {c r : Nat} {o1 o2 : Nat → Bool} {dx dy : Int} {h q : Nat} : ∀ (n : Nat) (x y : Int) (ov : Nat), (∀ k : Nat, k < n → onB c r (x + k * dx) (y + k * dy) = true → o1 (sqI c (x + k * dx) (y + k * dy)) = o2 (sqI c (x + k * dx) (y + k * dy))) → wayB c r o1 dx dy h n x y ov q = wayB c r o2 dx dy h n x y ov q
  | 0, _, _, _, _ => rfl
  | n + 1, x, y, ov, H => by
    rw [wayB, wayB]
    cases hb : onB c r x y
    · rfl
    · have h0 := H 0 (Nat.succ_pos n) (by simpa using hb)
      have h0 : o1 (sqI c x y) = o2 (sqI c x y) := by simpa using h0
      rw [h0, way_cg (o1 := o1) (o2 := o2) n (x + dx) (y + dy) _ (fun k hk ho => by
        have e1 : x + dx + k * dx = x + ((k + 1 : Nat) : Int) * dx := by rw [Int.natCast_add, Int.add_mul]; simp; omega
        have e2 : y + dy + k * dy = y + ((k + 1 : Nat) : Int) * dy := by rw [Int.natCast_add, Int.add_mul]; simp; omega
        rw [e1, e2] at ho ⊢
        exact H (k + 1) (by omega) ho)]
theorem way_hit {c r : Nat} {o : Nat → Bool} {dx dy : Int} {h q : Nat} : ∀ (n : Nat) (x y : Int) (ov : Nat), wayB c r o dx dy h n x y ov q = true → ∃ k : Nat, k < n ∧ onB c r (x + k * dx) (y + k * dy) = true ∧ q = sqI c (x + k * dx) (y + k * dy)
  | 0, _, _, _, H => by rw [wayB] at H; cases H
  | n + 1, x, y, ov, H => by
    rw [wayB, Bool.and_eq_true, Bool.or_eq_true, Bool.and_eq_true, Bool.and_eq_true] at H
    obtain ⟨hb, H⟩ := H
    rcases H with ⟨_, H⟩ | ⟨_, H⟩
    · exact ⟨0, Nat.succ_pos n, by simpa using hb, by simpa using of_decide_eq_true H⟩
    · obtain ⟨k, hk, h1, h2⟩ := way_hit n _ _ _ H
      have e1 : x + dx + k * dx = x + ((k + 1 : Nat) : Int) * dx := by rw [Int.natCast_add, Int.add_mul]; simp; omega
      have e2 : y + dy + k * dy = y + ((k + 1 : Nat) : Int) * dy := by rw [Int.natCast_add, Int.add_mul]; simp; omega
      rw [e1, e2] at h1 h2
      exact ⟨k + 1, by omega, h1, h2⟩
/-- a way never comes back to where it began -/
theorem way_off {c r f : Nat} {dx dy : Int} {k : Nat} (hc : 0 < c) (h0 : dx ≠ 0 ∨ dy ≠ 0) (hb : onB c r (((f % c : Nat) : Int) + dx + k * dx) (((f / c : Nat) : Int) + dy + k * dy) = true) : sqI c (((f % c : Nat) : Int) + dx + k * dx) (((f / c : Nat) : Int) + dy + k * dy) ≠ f := by
  intro z
  obtain ⟨a, b, d, _⟩ := of_decide_eq_true hb
  generalize hX : ((f % c : Nat) : Int) + dx + k * dx = X at *
  generalize hY : ((f / c : Nat) : Int) + dy + k * dy = Y at *
  obtain ⟨X', eX⟩ := Int.eq_ofNat_of_zero_le a
  obtain ⟨Y', eY⟩ := Int.eq_ofNat_of_zero_le d
  subst eX; subst eY
  unfold sqI at z
  rw [show ((Y' : Nat) : Int) * (c : Int) + ((X' : Nat) : Int) = ((Y' * c + X' : Nat) : Int) by rw [Int.natCast_add, Int.natCast_mul], Int.toNat_natCast] at z
  have hXc : X' < c := by omega
  have e1 : f % c = X' := by rw [← z, Nat.mul_comm, Nat.mul_add_mod, Nat.mod_eq_of_lt hXc]
  have e2 : f / c = Y' := by rw [← z, Nat.mul_comm, Nat.mul_add_div hc, Nat.div_eq_of_lt hXc, Nat.add_zero]
  rw [e1] at hX
  rw [e2] at hY
  have k1 : ((k : Int) + 1) * dx = 0 := by rw [Int.add_mul]; simp; omega
  have k2 : ((k : Int) + 1) * dy = 0 := by rw [Int.add_mul]; simp; omega
  rcases Int.mul_eq_zero.mp k1 with y | y
  · omega
  · rcases Int.mul_eq_zero.mp k2 with y2 | y2
    · omega
    · exact h0.elim (fun q => q y) (fun q => q y2)
theorem goG_free {g1 g2 : Nat → Int32} {t f s z : Nat} {em1 ot1 em2 ot2 : Nat → Bool} (hc : 0 < cN g1) (ec : cN g1 = cN g2) (er : rN g1 = rN g2) (ep : pcG g1 t = pcG g2 t) (ej : ∀ j, j < pcG g2 t → mkG g1 t j = mkG g2 t j ∧ atG g1 t j = atG g2 t j ∧ rcG g1 t j = rcG g2 t j ∧ atG g2 t j < 7)
    (eo : ∀ q, q ≠ f → occG g1 q = occG g2 q) (ee : ∀ q, q ≠ f → em1 q = em2 q) (et : ∀ q, q ≠ f → ot1 q = ot2 q) : goG g1 t f s em1 ot1 z = goG g2 t f s em2 ot2 z := by
  unfold goG
  rw [ep]
  refine anyF_cong (fun j _ hj => ?_)
  obtain ⟨j1, j2, j3, j4⟩ := ej j (by omega)
  have j5 : dmG g1 t j = dmG g2 t j := by rw [dmG, dmG, j1, j2]
  obtain ⟨s1, s2⟩ := st_end _ j4
  have hnz : ∀ st, st < 32 → sx st ≠ 0 ∨ fwS s * sy st ≠ 0 := fun st hst => (st_nz st hst).imp id (fun y q => y (by
    unfold fwS at q
    split at q <;> omega))
  unfold partB
  rw [j1, j2, ec, er]
  rw [ec] at hc
  by_cases hz : z = f
  · subst hz
    have no : ∀ g : Nat → Int32, anyF (fun s_1 => stepB (cN g2) (rN g2) (occG g) (z % cN g2) (z / cN g2) (fwS s) (hopN (mkG g2 t j)) (rcG g t j) (dmG g t j) s_1 z) (aStart (atG g2 t j)) (aEnd (atG g2 t j) - aStart (atG g2 t j)) = false := fun g => by
      cases hh : anyF (fun s_1 => stepB (cN g2) (rN g2) (occG g) (z % cN g2) (z / cN g2) (fwS s) (hopN (mkG g2 t j)) (rcG g t j) (dmG g t j) s_1 z) (aStart (atG g2 t j)) (aEnd (atG g2 t j) - aStart (atG g2 t j))
      · rfl
      · obtain ⟨st, h1, h2, h3⟩ := anyF_iff.mp hh
        have h3 := h3
        unfold stepB at h3
        rw [Bool.and_eq_true] at h3
        obtain ⟨k, hk, hb, hq⟩ := way_hit _ _ _ _ h3.2
        exact absurd hq.symm (way_off hc (hnz st (by omega)) hb)
    rw [no g1, no g2, Bool.and_false, Bool.and_false]
  · have ew : wantB (mkG g2 t j) em1 ot1 z = wantB (mkG g2 t j) em2 ot2 z := by
      unfold wantB
      rw [ee z hz, et z hz]
    rw [ew]
    congr 1
    refine anyF_cong (fun st h1 h2 => ?_)
    unfold stepB
    rw [j5, j3]
    congr 1
    exact way_cg _ _ _ _ (fun k hk hb => eo _ (way_off hc (hnz st (by omega)) hb))
/-- the row with the first squares emptied -/
def zsF (g : Nat → Int32) (n : Nat) : Nat → Int32 := fun j => if 1 ≤ j ∧ j < 1 + n then 0 else g j
theorem zs_0 {g : Nat → Int32} : zsF g 0 = g := by
  funext j; unfold zsF; rw [if_neg (by omega)]
theorem zs_s {g : Nat → Int32} {n : Nat} : upd (zsF g n) (1 + n) 0 = zsF g (n + 1) := by
  funext j
  by_cases z : j = 1 + n
  · subst z; rw [upd_at]; unfold zsF; rw [if_pos (by omega)]
  · rw [upd_ne z]
    unfold zsF
    by_cases y : 1 ≤ j ∧ j < 1 + n
    · rw [if_pos y, if_pos (by omega)]
    · rw [if_neg y, if_neg (by omega)]
theorem zs_hi {g : Nat → Int32} {j : Nat} (h : j = 0 ∨ 37 ≤ j) : zsF g 36 j = g j := by
  unfold zsF; rw [if_neg (by omega)]
theorem zs_sq {g : Nat → Int32} {q : Nat} (h : q < 36) : zsF g 36 (1 + q) = 0 := by
  unfold zsF; rw [if_pos (by omega)]
theorem zs_mN {g : Nat → Int32} {q : Nat} (h : q < 36) : mN (zsF g 36) q = 0 := cl_z (zs_sq h)
theorem zs_cl {g : Nat → Int32} {j : Nat} (h : j = 0 ∨ 37 ≤ j) : clN (zsF g 36) j = clN g j := by rw [clN, clN, zs_hi h]
theorem zs_wfP {g : Nat → Int32} (hG : wfP g) : wfP (zsF g 36) := by
  obtain ⟨h1, h2, h3, h4, h5, h6, h7⟩ := hG
  unfold wfP cN rN tuN at *
  rw [zs_cl (by omega), zs_cl (by omega), zs_cl (by omega), zs_hi (by omega), zs_hi (by omega), zs_hi (by omega)]
  refine ⟨h1, h2, fun q hq => ?_, fun i hi => ?_, fun k hk => ?_, h6, h7⟩
  · rw [zs_mN hq, zs_sq hq]; exact ⟨rfl, by decide, fun _ => rfl⟩
  · unfold hN at *
    rw [zs_cl (by omega), zs_hi (by omega)]; exact h4 i hi
  · unfold riN at *
    rw [zs_cl (by omega), zs_hi (by omega)]; exact h5 k hk
theorem zs_wfL {g : Nat → Int32} (hW : wfL g) : wfL (zsF g 36) := wfL_of (fun i h1 _ _ => zs_hi (by omega)) (fun k hk z => by rw [← z]; exact (zs_cl (by omega)).symm) hW
theorem zs_occ {g : Nat → Int32} (q : Nat) : occG (zsF g 36) q = false := decide_eq_false (fun z => by
  have := zs_mN (g := g) z.1
  omega)
theorem free_eq {g : Nat → Int32} (hG : wfP g) (hW : wfL g) {t q : Nat} (ht : t < 6) (hq : q < cN g * rN g) : popL (setL (goG (zsF g 36) t q 0 (emA (zsF g 36) false) (otA (zsF g 36) 0 false))) = frdF g t q := by
  have h36 := sq36 hG
  unfold frdF
  congr 1
  refine setL_cong (fun z _ => ?_)
  have hm : mN (emG g (updN (fun _ => 0) q (1 + t))) q = 1 + t := by
    rw [em_mN (by omega) (by unfold updN; rw [if_pos rfl]; omega)]
    unfold updN; rw [if_pos rfl]
  have hm2 : ∀ k, k < 36 → k ≠ q → mN (emG g (updN (fun _ => 0) q (1 + t))) k = 0 := fun k hk hne => by
    rw [em_mN hk (by unfold updN; rw [if_neg hne]; exact Nat.zero_le _)]
    unfold updN; rw [if_neg hne]
  have hi : ∀ i, 53 ≤ i → zsF g 36 i = emG g (updN (fun _ => 0) q (1 + t)) i := fun i h => by rw [zs_hi (by omega), em_hi i h]
  have hcl : ∀ i, 53 ≤ i → clN (zsF g 36) i = clN (emG g (updN (fun _ => 0) q (1 + t))) i := fun i h => by rw [clN, clN, hi i h]
  have ec : cN (zsF g 36) = cN g := zs_cl (by omega)
  unfold tgtG
  rw [hm, show tyN (1 + t) = t from ty_man (s := 0) ht (by decide), show sdN (1 + t) = 0 from by unfold sdN; rw [if_neg (by omega)]]
  have epc : pcG (emG g (updN (fun _ => 0) q (1 + t))) t = pcG g t := by unfold pcG clN; rw [em_hi _ (by omega)]
  refine goG_free (by rw [ec]; have := hG.1.2; omega) (hcl _ (by decide)) (hcl _ (by decide)) (hcl _ (by omega)) (fun j hj => ⟨?_, hcl _ (by omega), ?_, ?_⟩) (fun k hk => ?_) (fun k hk => ?_) (fun k hk => ?_)
  · rw [mkG, mkG, hi _ (by omega)]
  · rw [rcG, rcG, hi _ (by omega)]
  · rw [epc] at hj
    have : atG (emG g (updN (fun _ => 0) q (1 + t))) t j = atG g t j := by unfold atG clN; rw [em_hi _ (by omega)]
    rw [this]
    exact (hW.2.2.2.2.2.1 t ht j hj).2.1.2
  · rw [zs_occ]
    exact (decide_eq_false (fun z => by have := hm2 k z.1 hk; omega)).symm
  · show (!(occG (zsF g 36) k)) = !(occG (emG g (updN (fun _ => 0) q (1 + t))) k)
    rw [zs_occ]
    rw [show occG (emG g (updN (fun _ => 0) q (1 + t))) k = false from decide_eq_false (fun z => by have := hm2 k z.1 hk; omega)]
  · show isOfG (zsF g 36) k (1 - 0) = isOfG (emG g (updN (fun _ => 0) q (1 + t))) k (1 - 0)
    rw [show isOfG (zsF g 36) k (1 - 0) = false from decide_eq_false (fun z => by have := zs_mN (g := g) z.1; omega)]
    exact (decide_eq_false (fun z => by have := hm2 k z.1 hk; omega)).symm

set_option maxRecDepth 100000 in
set_option maxHeartbeats 4000000 in
theorem c_free_32 {ae ad : Nat → Nat} {sh : mSh} {σ σ0 : mSt} (hm : mModel ad sh) {g : Nat → Int32} (hG : wfP g) (hW : wfL g) {t : Nat} (ht : t < 6) (hg0 : σ.1 62 = g) (f0 : ∀ j, j ≠ 62 → j ≠ 71 → σ0.1 j = σ.1 j) (l0 : σ0.2 = σ.2) {b0 : Nat → Int32} (hb0 : σ0.1 71 = kpF b0 g 0 53) : ∀ (n i : Nat), cN g * rN g - i = n → i ≤ cN g * rN g → ∀ σ2 : mSt, σ2.1 62 = zsF g 36 → frE σ0 σ2 → Ev RX10 cX10_freedom 4 false (some .int) (mRm 6 0 0) ae (mPi ad sh (fun x σ' => x = mxF (frdF g t) (cN g * rN g) ∧ frH σ σ')) 32 [some (.ref (ad 61)), some (.int (nI t)), some (.int (mxF (frdF g t) i)), some (.int (nI i))] [] 0 0 ad sh σ2 := by
  have h36 := sq36 hG
  have ez : cN (zsF g 36) * rN (zsF g 36) = cN g * rN g := by rw [show cN (zsF g 36) = cN g from zs_cl (by omega), show rN (zsF g 36) = rN g from zs_cl (by omega)]
  have hGz := zs_wfP hG
  have hWz := zs_wfL hW
  intro n
  induction n with
  | zero =>
    intro i hn hi σ2 hg hfr
    have e : i = cN g * rN g := by omega
    subst e
    have hb := (hfr.1 71 (by decide) (by decide) (by decide)).trans hb0
    refine ev_iload_3 dX10_freedom_32 ?_
    refine ev_aload_0 dX10_freedom_33 ?_
    refine cl_X10_65 (c_mSquares hm hg hGz) hm.1 dX10_freedom_34 rfl (Nat.le_of_ble_eq_true rfl) ?_
    rw [ez]
    refine ev_icmp_ge (tgt := 62) dX10_freedom_37 (by decide) (fun h37 => ?_) (fun h37 => absurd (Int32.le_refl _) h37)
    refine ev_aload_0 dX10_freedom_62 ?_
    refine ev_iconst_0 dX10_freedom_63 ?_
    refine cg_X10_219 (c_mAgain hm (d := 0) (by decide) hg hb) hm.1 dX10_freedom_64 rfl (Nat.le_of_ble_eq_true rfl) (fun σa ha1 => ?_)
    obtain ⟨a1, a2, a3⟩ := ha1
    have a1 := a1.trans (again_row (g := g) (fun k hk => kp_at hk) (fun k hk => zs_hi (by omega)))
    refine ev_iload_2 dX10_freedom_67 ?_
    exact ev_pi dX10_freedom_68 ⟨rfl, fun j x61 x71 x73 x74 => by
      by_cases y : j = 62
      · subst y; exact a1.trans hg0.symm
      · rw [a2 j y, hfr.1 j x61 x73 x74]; exact f0 j y x71, fun k x17 => by
      rw [a2 61 (by decide), hfr.2.1 k x17, f0 61 (by decide) (by decide)], by rw [a3, hfr.2.2]; exact l0⟩
  | succ n ih =>
    intro i hn hi σ2 hg hfr
    have hlt : i < cN g * rN g := by omega
    refine ev_iload_3 dX10_freedom_32 ?_
    refine ev_aload_0 dX10_freedom_33 ?_
    refine cl_X10_65 (c_mSquares hm hg hGz) hm.1 dX10_freedom_34 rfl (Nat.le_of_ble_eq_true rfl) ?_
    rw [ez]
    refine ev_icmp_ge (tgt := 62) dX10_freedom_37 (by decide) (fun h37 => absurd h37 (nI_ge hlt (by omega))) (fun h37 => ?_)
    refine ev_iload_2 dX10_freedom_40 ?_
    refine ev_aload_0 dX10_freedom_41 ?_
    refine ev_iload_1 dX10_freedom_42 ?_
    refine ev_iload_3 dX10_freedom_43 ?_
    refine ev_iconst_0 dX10_freedom_44 ?_
    refine ev_iconst_0 dX10_freedom_45 ?_
    refine cg_X10_183 (c_mAll0 hm hGz hWz (s := 0) (by decide) (f := i) (by rw [ez]; exact hlt) (t := (t)) ht hg) hm.1 dX10_freedom_46 rfl (Nat.le_of_ble_eq_true rfl) (fun r1 σ1 h146 => ?_)
    obtain ⟨e1, f146⟩ := h146
    subst e1
    have znow_46 := (f146.1 62 (by decide) (by decide) (by decide)).trans hg
    refine cl_X10_272 c_popL dX10_freedom_49 rfl (Nat.le_of_ble_eq_true rfl) ?_
    rw [free_eq hG hW ht hlt]
    refine ev_max lk_X10_105 (Nat.le_of_ble_eq_true rfl) (Nat.le_of_ble_eq_true rfl) (Nat.le_of_ble_eq_true rfl) (Nat.zero_le _) (Nat.zero_le _) dX10_freedom_52 ?_
    refine ev_istore_2 dX10_freedom_55 rfl rfl ?_
    refine ev_iinc_3 (v := 1) dX10_freedom_56 (by decide) rfl rfl ?_
    rw [show nI i + 1 = nI (i + 1) from nI_add (i) 1]
    refine ev_goto (tgt := 32) dX10_freedom_59 (by decide) ?_
    exact Ev.to (by rfl) rfl rfl (ih (i + 1) (by omega) (by omega) _ znow_46 (hfr.tr f146))
set_option maxRecDepth 100000 in
set_option maxHeartbeats 4000000 in
theorem c_free_7 {ae ad : Nat → Nat} {sh : mSh} {σ σ1 : mSt} (hm : mModel ad sh) {g : Nat → Int32} (hG : wfP g) (hW : wfL g) {t : Nat} (ht : t < 6) (hg0 : σ.1 62 = g) (f1 : ∀ j, j ≠ 71 → σ1.1 j = σ.1 j) (l1 : σ1.2 = σ.2) {b0 : Nat → Int32} (hb1 : σ1.1 71 = kpF b0 g 0 53) : ∀ (n i : Nat), 36 - i = n → i ≤ 36 → ∀ σ2 : mSt, (σ2.1 62 = zsF g i ∧ (∀ j, j ≠ 62 → σ2.1 j = σ1.1 j) ∧ σ2.2 = σ1.2) → Ev RX10 cX10_freedom 4 false (some .int) (mRm 6 0 0) ae (mPi ad sh (fun x σ' => x = mxF (frdF g t) (cN g * rN g) ∧ frH σ σ')) 7 [some (.ref (ad 61)), some (.int (nI t)), some (.int (nI i)), none] [] 0 0 ad sh σ2 := by
  intro n
  induction n with
  | zero =>
    intro i hn0 hi σ2 hn
    have e : i = 36 := by omega
    subst e
    refine ev_iload_2 dX10_freedom_7 ?_
    refine ev_bipush_36 dX10_freedom_8 ?_
    refine ev_icmp_ge (tgt := 28) dX10_freedom_10 (by decide) (fun h10 => ?_) (fun h10 => absurd (Int32.le_refl _) h10)
    refine ev_iconst_0 dX10_freedom_28 ?_
    refine ev_istore_2 dX10_freedom_29 rfl rfl ?_
    refine ev_iconst_0 dX10_freedom_30 ?_
    refine ev_istore_3 dX10_freedom_31 rfl rfl ?_
    exact Ev.to (by rfl) rfl rfl (c_free_32 (σ := σ) (σ0 := σ2) hm hG hW ht hg0 (fun j a b => (hn.2.1 j a).trans (f1 j b)) (hn.2.2.trans l1) ((hn.2.1 71 (by decide)).trans hb1) _ 0 rfl (Nat.zero_le _) σ2 hn.1 frE.rf)
  | succ n ih =>
    intro i hn0 hi σ2 hn
    have hlt : i < 36 := by omega
    refine ev_iload_2 dX10_freedom_7 ?_
    refine ev_bipush_36 dX10_freedom_8 ?_
    refine ev_icmp_ge (tgt := 28) dX10_freedom_10 (by decide) (fun h10 => absurd h10 (nI_ge (b := 36) hlt (by decide))) (fun h10 => ?_)
    refine ev_aload_0 dX10_freedom_13 ?_
    refine gf_X10_11 dX10_freedom_14 hm.1 rfl ?_
    refine ev_iconst_1 dX10_freedom_17 ?_
    refine ev_iload_2 dX10_freedom_18 ?_
    refine ev_iadd dX10_freedom_19 ?_
    rw [show (1 : Int32) + nI i = nI (1 + i) from nI_add (1) (i)]
    refine ev_iconst_0 dX10_freedom_20 ?_
    refine ev_stk (k := 1 + i) hm.2.1 hn.1 rfl (by omega) (by decide) dX10_freedom_21 (fun σ21 hw21 hf21 hl21 => ?_)
    refine ev_iinc_2 (v := 1) dX10_freedom_22 (by decide) rfl rfl ?_
    rw [show nI i + 1 = nI (i + 1) from nI_add (i) 1]
    refine ev_goto (tgt := 7) dX10_freedom_25 (by decide) ?_
    exact ih (i + 1) (by omega) (by omega) _ ⟨hw21.trans zs_s, fun j xx => (hf21 j xx).trans (hn.2.1 j xx), hl21.trans hn.2.2⟩
set_option maxRecDepth 100000 in
set_option maxHeartbeats 4000000 in
theorem c_mFree {ae ad : Nat → Nat} {sh : mSh} {σ : mSt} (hm : mModel ad sh) {g : Nat → Int32} (hG : wfP g) (hW : wfL g) {t : Nat} (ht : t < 6) (hg : σ.1 62 = g) : Ct yX10_freedom cX10_freedom 4 (some .int) 6 0 0 [.ref (ad 61), .int (nI t)] ae ad sh σ (mPi ad sh (fun x σ' => x = mxF (frdF g t) (cN g * rN g) ∧ frH σ σ')) := by
  refine Ct.ofL (own := RX10) (ini := false) (ls := [some (.ref (ad 61)), some (.int (nI t)), none, none]) (by decide +kernel) rfl (fun h => by cases h) (Nat.le_of_ble_eq_true rfl) rfl ?_
  refine ev_aload_0 dX10_freedom_0 ?_
  refine ev_iconst_0 dX10_freedom_1 ?_
  refine cg_X10_210 (c_mKeeps hm (d := 0) (by decide) hg rfl) hm.1 dX10_freedom_2 rfl (Nat.le_of_ble_eq_true rfl) (fun σk hk1 => ?_)
  obtain ⟨k1, k2, k3⟩ := hk1
  have znow_2 := (k2 62 (by decide)).trans hg
  refine ev_iconst_0 dX10_freedom_5 ?_
  refine ev_istore_2 dX10_freedom_6 rfl rfl ?_
  exact Ev.to (by rfl) rfl rfl (c_free_7 (σ := σ) (σ1 := σk) hm hG hW ht hg k2 k3 k1 _ 0 rfl (Nat.zero_le _) σk ⟨znow_2.trans zs_0.symm, fun _ _ => rfl, rfl⟩)
set_option maxRecDepth 100000 in
set_option maxHeartbeats 4000000 in
theorem c_mPropNo {ae ad : Nat → Nat} {sh : mSh} {σ : mSt} (hm : mModel ad sh) {x c : Int32} (hx : isTy x = false) : Ct yX10_property cX10_property 6 (some .int) 7 0 0 [.ref (ad 61), .int x, .int c] ae ad sh σ (mPi ad sh (fun z σ' => z = -1 ∧ frH σ σ')) := by
  refine Ct.ofL (own := RX10) (ini := false) (ls := [some (.ref (ad 61)), some (.int x), some (.int c), none, none, none]) (by decide +kernel) rfl (fun h => by cases h) (Nat.le_of_ble_eq_true rfl) rfl ?_
  refine ev_iload_1 dX10_property_0 ?_
  refine cl_X10_120 c_mIsType dX10_property_1 rfl (Nat.le_of_ble_eq_true rfl) ?_
  refine ev_if_ne (tgt := 9) dX10_property_4 (by decide) (fun h4 => absurd h4 (by rw [hx]; decide)) (fun h4 => ?_)
  refine ev_iconst_m1 dX10_property_7 ?_
  exact ev_pi dX10_property_8 ⟨rfl, frH.E frE.rf⟩
theorem cnt_cut {c : Nat → Bool} {N : Nat} : ∀ M, N ≤ M → (∀ k, N ≤ k → k < M → c k = false) → cntF c M = cntF c N
  | 0, h, _ => by rw [show N = 0 by omega]
  | M + 1, h, hz => by
    by_cases z : N = M + 1
    · rw [z]
    · rw [cntF, hz M (by omega) (by omega), if_neg (by decide), Nat.add_zero, cnt_cut M (by omega) (fun k h1 h2 => hz k h1 (by omega))]
theorem mot_cut {g : Nat → Int32} (hG : wfP g) (t : Nat) : cntF (fun k => decide (1 ≤ mN g k ∧ tyN (mN g k) = t)) (cN g * rN g) = motG g t := (cnt_cut 36 (sq36 hG) (fun k h1 h2 => decide_eq_false (fun z => by
  have := (hG.2.2.1 k h2).2.2 h1
  omega))).symm

set_option maxRecDepth 100000 in
set_option maxHeartbeats 4000000 in
theorem c_mProp_81 {ae ad : Nat → Nat} {sh : mSh} {σ : mSt} (hm : mModel ad sh) {g : Nat → Int32} (hG : wfP g) (hW : wfL g) {t : Nat} (ht : t < 6) : ∀ (n k : Nat), pcG g t - k = n → k ≤ pcG g t → ∀ σ2 : mSt, σ2.1 62 = g → frE σ σ2 → Ev RX10 cX10_property 6 false (some .int) (mRm 7 0 0) ae (mPi ad sh (fun z σ' => z = dcG g t ∧ frH σ σ')) 81 [some (.ref (ad 61)), some (.int (nI t)), some (.int 1), some (.int (nI (58 + 21 * t))), some (.int (dcF (dmG g t) 0 k)), some (.int (nI k))] [] 0 0 ad sh σ2 := by
  have hpv := pc_val hW ht
  have hp6 := (hW.2.2.2.2.1 t ht).1
  intro n
  induction n with
  | zero =>
    intro k hn hk σ2 hg hfr
    have e : k = pcG g t := by omega
    subst e
    refine ev_iload_5 dX10_property_81 ?_
    refine ev_aload_0 dX10_property_83 ?_
    refine gf_X10_11 dX10_property_84 hm.1 rfl ?_
    refine ev_iload_3 dX10_property_87 ?_
    refine ev_iconst_2 dX10_property_88 ?_
    refine ev_iadd dX10_property_89 ?_
    rw [show nI (58 + 21 * t) + (2 : Int32) = nI (58 + 21 * t + 2) from nI_add (58 + 21 * t) (2)]
    refine ev_ldk (k := 58 + 21 * t + 2) hm.2.1 hg rfl (by omega) (by decide) dX10_property_90 ?_
    rw [show 58 + 21 * t + 2 = 60 + 21 * t by omega]
    refine ev_icmp_ge (tgt := 122) dX10_property_91 (by decide) (fun h91 => ?_) (fun h91 => absurd hpv.1 h91)
    refine ev_iload_4 dX10_property_122 ?_
    exact ev_pi dX10_property_124 ⟨rfl, frH.E hfr⟩
  | succ n ih =>
    intro k hn hk σ2 hg hfr
    have hlt : k < pcG g t := by omega
    obtain ⟨⟨w1, hmd⟩, ⟨w3, ha7⟩, hcd⟩ := hW.2.2.2.2.2.1 t ht k hlt
    obtain ⟨md, em, hmd2⟩ : ∃ md, g (61 + 21 * t + 3 * k) = nI md ∧ md < 64 := ⟨_, w1, hmd⟩
    have ecn : nI (dirL (atG g t k) (nI md) 0).length = popI (dmG g t (0 + k)) := by
      rw [← dir_cnt _ ha7 md hmd2, Nat.zero_add, dmG, mkG, em]
    refine ev_iload_5 dX10_property_81 ?_
    refine ev_aload_0 dX10_property_83 ?_
    refine gf_X10_11 dX10_property_84 hm.1 rfl ?_
    refine ev_iload_3 dX10_property_87 ?_
    refine ev_iconst_2 dX10_property_88 ?_
    refine ev_iadd dX10_property_89 ?_
    rw [show nI (58 + 21 * t) + (2 : Int32) = nI (58 + 21 * t + 2) from nI_add (58 + 21 * t) (2)]
    refine ev_ldk (k := 58 + 21 * t + 2) hm.2.1 hg rfl (by omega) (by decide) dX10_property_90 ?_
    rw [show 58 + 21 * t + 2 = 60 + 21 * t by omega]
    refine ev_icmp_ge (tgt := 122) dX10_property_91 (by decide) (fun h91 => absurd h91 (hpv.2 k hlt)) (fun h91 => ?_)
    refine ev_aload_0 dX10_property_94 ?_
    refine ev_iload_3 dX10_property_95 ?_
    refine ev_iconst_3 dX10_property_96 ?_
    refine ev_iadd dX10_property_97 ?_
    rw [show nI (58 + 21 * t) + (3 : Int32) = nI (58 + 21 * t + 3) from nI_add (58 + 21 * t) (3)]
    refine ev_iconst_3 dX10_property_98 ?_
    refine ev_iload_5 dX10_property_99 ?_
    refine ev_imul dX10_property_101 ?_
    rw [show (3 : Int32) * nI k = nI (3 * k) from nI_mul (3) (k)]
    refine ev_iadd dX10_property_102 ?_
    rw [show nI (58 + 21 * t + 3) + nI (3 * k) = nI (58 + 21 * t + 3 + (3 * k)) from nI_add (58 + 21 * t + 3) (3 * k)]
    rw [show 58 + 21 * t + 3 + 3 * k = 61 + 21 * t + 3 * k by omega]
    refine ev_iconst_0 dX10_property_103 ?_
    refine cg_X10_169 (c_mDirs hm hg (j := 61 + 21 * t + 3 * k) (a := atG g t k) (by omega) ((congrArg g (show 61 + 21 * t + 3 * k + 1 = 62 + 21 * t + 3 * k by omega)).trans w3) ha7) hm.1 dX10_property_104 rfl (Nat.le_of_ble_eq_true rfl) (fun σd hd0 => ?_)
    obtain ⟨hd, hfe⟩ := hd0
    rw [em] at hd
    have znow_104 := (hfe.1 62 (by decide) (by decide) (by decide)).trans hg
    refine ev_iload_4 dX10_property_107 ?_
    refine ev_aload_0 dX10_property_109 ?_
    refine gf_X10_159 dX10_property_110 hm.1 rfl ?_
    rw [hd.1, ecn]
    refine ev_iadd dX10_property_113 ?_
    refine ev_istore_4 dX10_property_114 rfl rfl ?_
    refine ev_iinc_5 (v := 1) dX10_property_116 (by decide) rfl rfl ?_
    rw [show nI k + 1 = nI (k + 1) from nI_add (k) 1]
    refine ev_goto (tgt := 81) dX10_property_119 (by decide) ?_
    exact Ev.to (by rfl) rfl rfl (ih (k + 1) (by omega) (by omega) _ znow_104 (hfr.tr hfe))
set_option maxRecDepth 100000 in
set_option maxHeartbeats 4000000 in
theorem c_mProp_141 {ae ad : Nat → Nat} {sh : mSh} {σ : mSt} (hm : mModel ad sh) {g : Nat → Int32} (hG : wfP g) (hW : wfL g) {t : Nat} (ht : t < 6) (hg : σ.1 62 = g) : ∀ (n i : Nat), cN g * rN g - i = n → i ≤ cN g * rN g → Ev RX10 cX10_property 6 false (some .int) (mRm 7 0 0) ae (mPi ad sh (fun z σ' => z = nI (motG g t) ∧ frH σ σ')) 141 [some (.ref (ad 61)), some (.int (nI t)), some (.int 4), some (.int (nI (58 + 21 * t))), some (.int (nI (cntF (fun k => decide (1 ≤ mN g k ∧ tyN (mN g k) = t)) i))), some (.int (nI i))] [] 0 0 ad sh σ := by
  have h36 := sq36 hG
  intro n
  induction n with
  | zero =>
    intro i hn hi
    have e : i = cN g * rN g := by omega
    subst e
    refine ev_iload_5 dX10_property_141 ?_
    refine ev_aload_0 dX10_property_143 ?_
    refine cl_X10_65 (c_mSquares hm hg hG) hm.1 dX10_property_144 rfl (Nat.le_of_ble_eq_true rfl) ?_
    refine ev_icmp_ge (tgt := 181) dX10_property_147 (by decide) (fun h147 => ?_) (fun h147 => absurd (Int32.le_refl _) h147)
    refine ev_iload_4 dX10_property_181 ?_
    exact ev_pi dX10_property_183 ⟨by rw [mot_cut hG], frH.E frE.rf⟩
  | succ n ih =>
    intro i hn hi
    have hlt : i < cN g * rN g := by omega
    have h12 := wf_m hG (q := i) (by omega)
    have e0 := m1_neg h12
    refine ev_iload_5 dX10_property_141 ?_
    refine ev_aload_0 dX10_property_143 ?_
    refine cl_X10_65 (c_mSquares hm hg hG) hm.1 dX10_property_144 rfl (Nat.le_of_ble_eq_true rfl) ?_
    refine ev_icmp_ge (tgt := 181) dX10_property_147 (by decide) (fun h147 => absurd h147 (nI_ge hlt (by omega))) (fun h147 => ?_)
    refine ev_aload_0 dX10_property_150 ?_
    refine ev_iload_5 dX10_property_151 ?_
    refine cl_X10_69 (c_mMan hm hg hG (q := (i)) (by omega)) hm.1 dX10_property_153 rfl (Nat.le_of_ble_eq_true rfl) ?_
    refine ev_if_lt (tgt := 175) dX10_property_156 (by decide) (fun h156 => ?_) (fun h156 => ?_)
    · refine ev_iinc_5 (v := 1) dX10_property_175 (by decide) rfl rfl ?_
      rw [show nI i + 1 = nI (i + 1) from nI_add (i) 1]
      refine ev_goto (tgt := 141) dX10_property_178 (by decide) ?_
      have hno : ¬ (decide (1 ≤ mN g i ∧ tyN (mN g i) = t)) = true := fun z => by
        have z2 := of_decide_eq_true z
        first
        | exact absurd (e0.mp h156) (by omega)
        | exact h169 (congrArg nI z2.2)
      exact Ev.to (by rw [cntF_f hno]) rfl rfl (ih (i + 1) (by omega) (by omega))
    · have m1 : 1 ≤ mN g i := Nat.pos_of_ne_zero (fun z => h156 (e0.mpr z))
      have hty := tyN_lt m1 h12
      refine ev_aload_0 dX10_property_159 ?_
      refine ev_iload_5 dX10_property_160 ?_
      refine cl_X10_69 (c_mMan hm hg hG (q := (i)) (by omega)) hm.1 dX10_property_162 rfl (Nat.le_of_ble_eq_true rfl) ?_
      refine ev_bipush_6 dX10_property_165 ?_
      refine ev_irem dX10_property_167 (show ¬ (6 : Int32) = 0 by decide) ?_
      rw [m1_rem m1 h12]
      refine ev_iload_1 dX10_property_168 ?_
      refine ev_icmp_ne (tgt := 175) dX10_property_169 (by decide) (fun h169 => ?_) (fun h169 => ?_)
      · refine ev_iinc_5 (v := 1) dX10_property_175 (by decide) rfl rfl ?_
        rw [show nI i + 1 = nI (i + 1) from nI_add (i) 1]
        refine ev_goto (tgt := 141) dX10_property_178 (by decide) ?_
        have hno : ¬ (decide (1 ≤ mN g i ∧ tyN (mN g i) = t)) = true := fun z => by
          have z2 := of_decide_eq_true z
          first
          | exact absurd (e0.mp h156) (by omega)
          | exact h169 (congrArg nI z2.2)
        exact Ev.to (by rw [cntF_f hno]) rfl rfl (ih (i + 1) (by omega) (by omega))
      · skip
        refine ev_iinc_4 (v := 1) dX10_property_172 (by decide) rfl rfl ?_
        rw [cnt_s]
        refine ev_iinc_5 (v := 1) dX10_property_175 (by decide) rfl rfl ?_
        rw [show nI i + 1 = nI (i + 1) from nI_add (i) 1]
        refine ev_goto (tgt := 141) dX10_property_178 (by decide) ?_
        exact Ev.to (by rw [cntF_t (decide_eq_true ⟨m1, (nI_eq (by omega) (by omega)).mp h169⟩)]) rfl rfl (ih (i + 1) (by omega) (by omega))
set_option maxRecDepth 100000 in
set_option maxHeartbeats 4000000 in
theorem c_mProp0 {ae ad : Nat → Nat} {sh : mSh} {σ : mSt} (hm : mModel ad sh) {g : Nat → Int32} (hG : wfP g) (hW : wfL g) {t : Nat} (ht : t < 6) (hg : σ.1 62 = g) : Ct yX10_property cX10_property 6 (some .int) 7 0 0 [.ref (ad 61), .int (nI t), .int 0] ae ad sh σ (mPi ad sh (fun z σ' => z = proA g t 0 ∧ frH σ σ')) := by
  refine Ct.ofL (own := RX10) (ini := false) (ls := [some (.ref (ad 61)), some (.int (nI t)), some (.int 0), none, none, none]) (by decide +kernel) rfl (fun h => by cases h) (Nat.le_of_ble_eq_true rfl) rfl ?_
  refine ev_iload_1 dX10_property_0 ?_
  refine cl_X10_120 c_mIsType dX10_property_1 rfl (Nat.le_of_ble_eq_true rfl) ?_
  refine ev_if_ne (tgt := 9) dX10_property_4 (by decide) (fun h4 => ?_) (fun h4 => ?_)
  · refine ev_iload_1 dX10_property_9 ?_
    refine cl_X10_54 (c_typeAt (t := (t))) dX10_property_10 rfl (Nat.le_of_ble_eq_true rfl) ?_
    refine ev_istore_3 dX10_property_13 rfl rfl ?_
    refine ev_iconst_0 dX10_property_14 ?_
    refine ev_istore_4 dX10_property_15 rfl rfl ?_
    refine ev_iload_2 dX10_property_17 ?_
    refine ev_tableIn (off := 38) (tgt := 56) dX10_property_18 (by decide) (by decide) (by decide) (by decide) ?_
    refine ev_aload_0 dX10_property_56 ?_
    refine ev_iload_1 dX10_property_57 ?_
    refine cl_X10_136 (c_mIsDef hm hg hG hW ht) hm.1 dX10_property_58 rfl (Nat.le_of_ble_eq_true rfl) ?_
    refine ev_if_eq (tgt := 75) dX10_property_61 (by decide) (fun h61 => ?_) (fun h61 => ?_)
    · refine ev_bipush_m5 dX10_property_75 ?_
      first
      | exact ev_pi dX10_property_77 ⟨by unfold proA; rw [if_pos rfl, if_neg (of_decide_eq_true (b2i_t h61)), show 58 + 21 * t + 2 = 60 + 21 * t by omega, ((hW.2.2.2.2.1 t ht).2.resolve_left (fun z => (of_decide_eq_true (b2i_t h61)) (by unfold pcG clN; rw [z]; decide))).1], frH.E frE.rf⟩
      | exact ev_pi dX10_property_77 ⟨by unfold proA; rw [if_pos rfl, if_pos (Classical.not_not.mp (of_decide_eq_false ((b2i_0 _).mp h61)))], frH.E frE.rf⟩
    · refine ev_aload_0 dX10_property_64 ?_
      refine gf_X10_11 dX10_property_65 hm.1 rfl ?_
      refine ev_iload_3 dX10_property_68 ?_
      refine ev_iconst_2 dX10_property_69 ?_
      refine ev_iadd dX10_property_70 ?_
      rw [show nI (58 + 21 * t) + (2 : Int32) = nI (58 + 21 * t + 2) from nI_add (58 + 21 * t) (2)]
      refine ev_ldk (k := 58 + 21 * t + 2) hm.2.1 hg rfl (by omega) (by decide) dX10_property_71 ?_
      refine ev_goto (tgt := 77) dX10_property_72 (by decide) ?_
      first
      | exact ev_pi dX10_property_77 ⟨by unfold proA; rw [if_pos rfl, if_neg (of_decide_eq_true (b2i_t h61)), show 58 + 21 * t + 2 = 60 + 21 * t by omega, ((hW.2.2.2.2.1 t ht).2.resolve_left (fun z => (of_decide_eq_true (b2i_t h61)) (by unfold pcG clN; rw [z]; decide))).1], frH.E frE.rf⟩
      | exact ev_pi dX10_property_77 ⟨by unfold proA; rw [if_pos rfl, if_pos (Classical.not_not.mp (of_decide_eq_false ((b2i_0 _).mp h61)))], frH.E frE.rf⟩
  · exact absurd h4 (by rw [isTy_of ht]; decide)
set_option maxRecDepth 100000 in
set_option maxHeartbeats 4000000 in
theorem c_mProp1 {ae ad : Nat → Nat} {sh : mSh} {σ : mSt} (hm : mModel ad sh) {g : Nat → Int32} (hG : wfP g) (hW : wfL g) {t : Nat} (ht : t < 6) (hg : σ.1 62 = g) : Ct yX10_property cX10_property 6 (some .int) 7 0 0 [.ref (ad 61), .int (nI t), .int 1] ae ad sh σ (mPi ad sh (fun z σ' => z = proA g t 1 ∧ frH σ σ')) := by
  refine Ct.ofL (own := RX10) (ini := false) (ls := [some (.ref (ad 61)), some (.int (nI t)), some (.int 1), none, none, none]) (by decide +kernel) rfl (fun h => by cases h) (Nat.le_of_ble_eq_true rfl) rfl ?_
  refine ev_iload_1 dX10_property_0 ?_
  refine cl_X10_120 c_mIsType dX10_property_1 rfl (Nat.le_of_ble_eq_true rfl) ?_
  refine ev_if_ne (tgt := 9) dX10_property_4 (by decide) (fun h4 => ?_) (fun h4 => ?_)
  · refine ev_iload_1 dX10_property_9 ?_
    refine cl_X10_54 (c_typeAt (t := (t))) dX10_property_10 rfl (Nat.le_of_ble_eq_true rfl) ?_
    refine ev_istore_3 dX10_property_13 rfl rfl ?_
    refine ev_iconst_0 dX10_property_14 ?_
    refine ev_istore_4 dX10_property_15 rfl rfl ?_
    refine ev_iload_2 dX10_property_17 ?_
    refine ev_tableIn (off := 60) (tgt := 78) dX10_property_18 (by decide) (by decide) (by decide) (by decide) ?_
    refine ev_iconst_0 dX10_property_78 ?_
    refine ev_istore_5 dX10_property_79 rfl rfl ?_
    have e1 : proA g t 1 = dcG g t := by unfold proA; rw [if_neg (by decide), if_pos rfl]
    rw [e1]
    exact Ev.to (by rfl) rfl rfl (c_mProp_81 hm hG hW ht _ 0 rfl (Nat.zero_le _) σ hg frE.rf)
  · exact absurd h4 (by rw [isTy_of ht]; decide)
set_option maxRecDepth 100000 in
set_option maxHeartbeats 4000000 in
theorem c_mProp2 {ae ad : Nat → Nat} {sh : mSh} {σ : mSt} (hm : mModel ad sh) {g : Nat → Int32} (hG : wfP g) (hW : wfL g) {t : Nat} (ht : t < 6) (hg : σ.1 62 = g) : Ct yX10_property cX10_property 6 (some .int) 7 0 0 [.ref (ad 61), .int (nI t), .int 2] ae ad sh σ (mPi ad sh (fun z σ' => z = proA g t 2 ∧ frH σ σ')) := by
  refine Ct.ofL (own := RX10) (ini := false) (ls := [some (.ref (ad 61)), some (.int (nI t)), some (.int 2), none, none, none]) (by decide +kernel) rfl (fun h => by cases h) (Nat.le_of_ble_eq_true rfl) rfl ?_
  refine ev_iload_1 dX10_property_0 ?_
  refine cl_X10_120 c_mIsType dX10_property_1 rfl (Nat.le_of_ble_eq_true rfl) ?_
  refine ev_if_ne (tgt := 9) dX10_property_4 (by decide) (fun h4 => ?_) (fun h4 => ?_)
  · refine ev_iload_1 dX10_property_9 ?_
    refine cl_X10_54 (c_typeAt (t := (t))) dX10_property_10 rfl (Nat.le_of_ble_eq_true rfl) ?_
    refine ev_istore_3 dX10_property_13 rfl rfl ?_
    refine ev_iconst_0 dX10_property_14 ?_
    refine ev_istore_4 dX10_property_15 rfl rfl ?_
    refine ev_iload_2 dX10_property_17 ?_
    refine ev_tableIn (off := 107) (tgt := 125) dX10_property_18 (by decide) (by decide) (by decide) (by decide) ?_
    refine ev_aload_0 dX10_property_125 ?_
    refine gf_X10_11 dX10_property_126 hm.1 rfl ?_
    refine ev_iload_3 dX10_property_129 ?_
    refine ev_ldk (k := 58 + 21 * t) hm.2.1 hg rfl (by omega) (by decide) dX10_property_130 ?_
    exact ev_pi dX10_property_131 ⟨by unfold proA; rw [if_neg (by decide)]; rw [if_neg (by decide)]; rw [if_pos rfl], frH.E frE.rf⟩
  · exact absurd h4 (by rw [isTy_of ht]; decide)
set_option maxRecDepth 100000 in
set_option maxHeartbeats 4000000 in
theorem c_mProp3 {ae ad : Nat → Nat} {sh : mSh} {σ : mSt} (hm : mModel ad sh) {g : Nat → Int32} (hG : wfP g) (hW : wfL g) {t : Nat} (ht : t < 6) (hg : σ.1 62 = g) : Ct yX10_property cX10_property 6 (some .int) 7 0 0 [.ref (ad 61), .int (nI t), .int 3] ae ad sh σ (mPi ad sh (fun z σ' => z = proA g t 3 ∧ frH σ σ')) := by
  refine Ct.ofL (own := RX10) (ini := false) (ls := [some (.ref (ad 61)), some (.int (nI t)), some (.int 3), none, none, none]) (by decide +kernel) rfl (fun h => by cases h) (Nat.le_of_ble_eq_true rfl) rfl ?_
  refine ev_iload_1 dX10_property_0 ?_
  refine cl_X10_120 c_mIsType dX10_property_1 rfl (Nat.le_of_ble_eq_true rfl) ?_
  refine ev_if_ne (tgt := 9) dX10_property_4 (by decide) (fun h4 => ?_) (fun h4 => ?_)
  · refine ev_iload_1 dX10_property_9 ?_
    refine cl_X10_54 (c_typeAt (t := (t))) dX10_property_10 rfl (Nat.le_of_ble_eq_true rfl) ?_
    refine ev_istore_3 dX10_property_13 rfl rfl ?_
    refine ev_iconst_0 dX10_property_14 ?_
    refine ev_istore_4 dX10_property_15 rfl rfl ?_
    refine ev_iload_2 dX10_property_17 ?_
    refine ev_tableIn (off := 114) (tgt := 132) dX10_property_18 (by decide) (by decide) (by decide) (by decide) ?_
    refine ev_aload_0 dX10_property_132 ?_
    refine ev_iload_1 dX10_property_133 ?_
    refine cl_X10_193 (c_mPromo hm hg hG hW ht) hm.1 dX10_property_134 rfl (Nat.le_of_ble_eq_true rfl) ?_
    exact ev_pi dX10_property_137 ⟨by unfold proA; rw [if_neg (by decide)]; rw [if_neg (by decide)]; rw [if_neg (by decide)]; rw [if_pos rfl, (hW.2.2.2.1 t ht).1]; rfl, frH.E frE.rf⟩
  · exact absurd h4 (by rw [isTy_of ht]; decide)
set_option maxRecDepth 100000 in
set_option maxHeartbeats 4000000 in
theorem c_mProp4 {ae ad : Nat → Nat} {sh : mSh} {σ : mSt} (hm : mModel ad sh) {g : Nat → Int32} (hG : wfP g) (hW : wfL g) {t : Nat} (ht : t < 6) (hg : σ.1 62 = g) : Ct yX10_property cX10_property 6 (some .int) 7 0 0 [.ref (ad 61), .int (nI t), .int 4] ae ad sh σ (mPi ad sh (fun z σ' => z = proA g t 4 ∧ frH σ σ')) := by
  refine Ct.ofL (own := RX10) (ini := false) (ls := [some (.ref (ad 61)), some (.int (nI t)), some (.int 4), none, none, none]) (by decide +kernel) rfl (fun h => by cases h) (Nat.le_of_ble_eq_true rfl) rfl ?_
  refine ev_iload_1 dX10_property_0 ?_
  refine cl_X10_120 c_mIsType dX10_property_1 rfl (Nat.le_of_ble_eq_true rfl) ?_
  refine ev_if_ne (tgt := 9) dX10_property_4 (by decide) (fun h4 => ?_) (fun h4 => ?_)
  · refine ev_iload_1 dX10_property_9 ?_
    refine cl_X10_54 (c_typeAt (t := (t))) dX10_property_10 rfl (Nat.le_of_ble_eq_true rfl) ?_
    refine ev_istore_3 dX10_property_13 rfl rfl ?_
    refine ev_iconst_0 dX10_property_14 ?_
    refine ev_istore_4 dX10_property_15 rfl rfl ?_
    refine ev_iload_2 dX10_property_17 ?_
    refine ev_tableIn (off := 120) (tgt := 138) dX10_property_18 (by decide) (by decide) (by decide) (by decide) ?_
    refine ev_iconst_0 dX10_property_138 ?_
    refine ev_istore_5 dX10_property_139 rfl rfl ?_
    have e1 : proA g t 4 = nI (motG g t) := by unfold proA; rw [if_neg (by decide)]; rw [if_neg (by decide)]; rw [if_neg (by decide)]; rw [if_neg (by decide)]; rw [if_pos rfl]
    rw [e1]
    exact Ev.to (by rfl) rfl rfl (c_mProp_141 hm hG hW ht hg _ 0 rfl (Nat.zero_le _))
  · exact absurd h4 (by rw [isTy_of ht]; decide)
set_option maxRecDepth 100000 in
set_option maxHeartbeats 4000000 in
theorem c_mProp5 {ae ad : Nat → Nat} {sh : mSh} {σ : mSt} (hm : mModel ad sh) {g : Nat → Int32} (hG : wfP g) (hW : wfL g) {t : Nat} (ht : t < 6) (hg : σ.1 62 = g) : Ct yX10_property cX10_property 6 (some .int) 7 0 0 [.ref (ad 61), .int (nI t), .int 5] ae ad sh σ (mPi ad sh (fun z σ' => z = proA g t 5 ∧ frH σ σ')) := by
  refine Ct.ofL (own := RX10) (ini := false) (ls := [some (.ref (ad 61)), some (.int (nI t)), some (.int 5), none, none, none]) (by decide +kernel) rfl (fun h => by cases h) (Nat.le_of_ble_eq_true rfl) rfl ?_
  refine ev_iload_1 dX10_property_0 ?_
  refine cl_X10_120 c_mIsType dX10_property_1 rfl (Nat.le_of_ble_eq_true rfl) ?_
  refine ev_if_ne (tgt := 9) dX10_property_4 (by decide) (fun h4 => ?_) (fun h4 => ?_)
  · refine ev_iload_1 dX10_property_9 ?_
    refine cl_X10_54 (c_typeAt (t := (t))) dX10_property_10 rfl (Nat.le_of_ble_eq_true rfl) ?_
    refine ev_istore_3 dX10_property_13 rfl rfl ?_
    refine ev_iconst_0 dX10_property_14 ?_
    refine ev_istore_4 dX10_property_15 rfl rfl ?_
    refine ev_iload_2 dX10_property_17 ?_
    refine ev_tableIn (off := 166) (tgt := 184) dX10_property_18 (by decide) (by decide) (by decide) (by decide) ?_
    refine ev_aload_0 dX10_property_184 ?_
    refine ev_iload_1 dX10_property_185 ?_
    refine cg_X10_276 (c_mFree hm hG hW ht hg) hm.1 dX10_property_186 rfl (Nat.le_of_ble_eq_true rfl) (fun r1 σ1 h1z => ?_)
    obtain ⟨e1, f1⟩ := h1z
    exact ev_pi dX10_property_189 ⟨by unfold proA; rw [if_neg (by decide)]; rw [if_neg (by decide)]; rw [if_neg (by decide)]; rw [if_neg (by decide)]; rw [if_neg (by decide)]; rw [if_pos rfl]; exact e1, f1⟩
  · exact absurd h4 (by rw [isTy_of ht]; decide)
set_option maxRecDepth 100000 in
set_option maxHeartbeats 4000000 in
theorem c_mPropN {ae ad : Nat → Nat} {sh : mSh} {σ : mSt} (hm : mModel ad sh) {g : Nat → Int32} (hG : wfP g) (hW : wfL g) {t : Nat} (ht : t < 6) (hg : σ.1 62 = g) {c : Int32} (hc : c.toInt < 0 ∨ 5 < c.toInt) : Ct yX10_property cX10_property 6 (some .int) 7 0 0 [.ref (ad 61), .int (nI t), .int c] ae ad sh σ (mPi ad sh (fun z σ' => z = proA g t c ∧ frH σ σ')) := by
  refine Ct.ofL (own := RX10) (ini := false) (ls := [some (.ref (ad 61)), some (.int (nI t)), some (.int c), none, none, none]) (by decide +kernel) rfl (fun h => by cases h) (Nat.le_of_ble_eq_true rfl) rfl ?_
  refine ev_iload_1 dX10_property_0 ?_
  refine cl_X10_120 c_mIsType dX10_property_1 rfl (Nat.le_of_ble_eq_true rfl) ?_
  refine ev_if_ne (tgt := 9) dX10_property_4 (by decide) (fun h4 => ?_) (fun h4 => ?_)
  · refine ev_iload_1 dX10_property_9 ?_
    refine cl_X10_54 (c_typeAt (t := (t))) dX10_property_10 rfl (Nat.le_of_ble_eq_true rfl) ?_
    refine ev_istore_3 dX10_property_13 rfl rfl ?_
    refine ev_iconst_0 dX10_property_14 ?_
    refine ev_istore_4 dX10_property_15 rfl rfl ?_
    refine ev_iload_2 dX10_property_17 ?_
    refine ev_tableOut (tgt := 190) dX10_property_18 hc (by decide) ?_
    refine ev_iconst_m1 dX10_property_190 ?_
    refine ev_pi dX10_property_191 ⟨?_, frH.E frE.rf⟩
    have n : ∀ z : Int32, 0 ≤ z.toInt → z.toInt ≤ 5 → ¬ c = z := fun z a b e => by rw [e] at hc; omega
    unfold proA
    rw [if_neg (n 0 (by decide) (by decide)), if_neg (n 1 (by decide) (by decide)), if_neg (n 2 (by decide) (by decide)), if_neg (n 3 (by decide) (by decide)), if_neg (n 4 (by decide) (by decide)), if_neg (n 5 (by decide) (by decide))]
  · exact absurd h4 (by rw [isTy_of ht]; decide)
theorem c_mProp {ae ad : Nat → Nat} {sh : mSh} {σ : mSt} (hm : mModel ad sh) {g : Nat → Int32} (hG : wfP g) (hW : wfL g) (hg : σ.1 62 = g) {x c : Int32} : Ct yX10_property cX10_property 6 (some .int) 7 0 0 [.ref (ad 61), .int x, .int c] ae ad sh σ (mPi ad sh (fun z σ' => z = proG g x c ∧ frH σ σ')) := by
  by_cases hx : isTy x = true
  · obtain ⟨t, ht, e⟩ := isTy_nI hx
    subst e
    have e2 : proG g (nI t) c = proA g t c := by unfold proG; rw [if_pos hx, nI_clamp (by omega)]
    rw [e2]
    by_cases hc : c.toInt < 0 ∨ 5 < c.toInt
    · exact c_mPropN hm hG hW ht hg hc
    · obtain ⟨k, hk, e⟩ := tab_in (n := 5) (by decide) hc
      subst e
      rcases (show k = 0 ∨ k = 1 ∨ k = 2 ∨ k = 3 ∨ k = 4 ∨ k = 5 by omega) with e | e | e | e | e | e <;> subst e
      · exact c_mProp0 hm hG hW ht hg
      · exact c_mProp1 hm hG hW ht hg
      · exact c_mProp2 hm hG hW ht hg
      · exact c_mProp3 hm hG hW ht hg
      · exact c_mProp4 hm hG hW ht hg
      · exact c_mProp5 hm hG hW ht hg
  · have e2 : proG g x c = -1 := if_neg hx
    rw [e2]
    exact c_mPropNo hm (by cases h : isTy x; rfl; exact absurd h hx)
