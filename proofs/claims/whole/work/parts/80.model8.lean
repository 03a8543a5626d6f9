/-- a row on the way from g0 to the row after a move -/
def rowQ (g0 g : Nat → Int32) (M Hd : Nat → Nat) (S : Nat → Bool) : Prop := g 0 = g0 0 ∧ (∀ q, q < 36 → g (1 + q) = nI (M q)) ∧ (∀ i, i < 12 → g (37 + i) = nI (Hd i)) ∧ (∀ k, k < 4 → g (49 + k) = if (S (caN g0 k 2) || S (caN g0 k 4)) = true then 0 else g0 (49 + k)) ∧ ∀ i, 53 ≤ i → g i = g0 i
section RQ
variable {g0 g : Nat → Int32} {M Hd : Nat → Nat} {S : Nat → Bool}
theorem rowQ.st (hG : wfP g0) : rowQ g0 g0 (mN g0) (hN g0) (fun _ => false) := ⟨rfl, fun q hq => (hG.2.2.1 q hq).1, fun i hi => (hG.2.2.2.1 i hi).1, fun k _ => by simp, fun _ _ => rfl⟩
theorem rowQ.put (h : rowQ g0 g M Hd S) {q m : Nat} {x : Int32} (hx : x = nI m) (hq : q < 36) : rowQ g0 (upd g (1 + q) x) (updN M q m) Hd S := by
  obtain ⟨a1, a2, a3, a4, a5⟩ := h
  refine ⟨by rw [upd_ne (by omega)]; exact a1, fun k hk => ?_, fun i hi => by rw [upd_ne (by omega)]; exact a3 i hi, fun k hk => by rw [upd_ne (by omega)]; exact a4 k hk, fun i hi => by rw [upd_ne (by omega)]; exact a5 i hi⟩
  unfold updN
  by_cases z : k = q
  · subst z; rw [upd_at, if_pos rfl]; exact hx
  · rw [upd_ne (by omega), if_neg z]; exact a2 k hk
theorem rowQ.hand (h : rowQ g0 g M Hd S) {j n : Nat} {x : Int32} (hx : x = nI n) (hj : j < 12) : rowQ g0 (upd g (37 + j) x) M (updN Hd j n) S := by
  obtain ⟨a1, a2, a3, a4, a5⟩ := h
  refine ⟨by rw [upd_ne (by omega)]; exact a1, fun k hk => by rw [upd_ne (by omega)]; exact a2 k hk, fun i hi => ?_, fun k hk => by rw [upd_ne (by omega)]; exact a4 k hk, fun i hi => by rw [upd_ne (by omega)]; exact a5 i hi⟩
  unfold updN
  by_cases z : i = j
  · subst z; rw [upd_at, if_pos rfl]; exact hx
  · rw [upd_ne (by omega), if_neg z]; exact a3 i hi
theorem rowQ.tc (h : rowQ g0 g M Hd S) (q : Nat) : rowQ g0 (tcR g (fun k => decide (caN g0 k 2 = q) || decide (caN g0 k 4 = q))) M Hd (fun x => S x || decide (x = q)) := by
  obtain ⟨a1, a2, a3, a4, a5⟩ := h
  refine ⟨by rw [tc_out (by omega)]; exact a1, fun k hk => by rw [tc_out (by omega)]; exact a2 k hk, fun i hi => by rw [tc_out (by omega)]; exact a3 i hi, fun k hk => ?_, fun i hi => by rw [tc_out (by omega)]; exact a5 i hi⟩
  rw [tc_in hk, a4 k hk]
  show (if (decide (caN g0 k 2 = q) || decide (caN g0 k 4 = q)) = true then 0 else if (S (caN g0 k 2) || S (caN g0 k 4)) = true then 0 else g0 (49 + k)) = if ((S (caN g0 k 2) || decide (caN g0 k 2 = q)) || (S (caN g0 k 4) || decide (caN g0 k 4 = q))) = true then 0 else g0 (49 + k)
  generalize S (caN g0 k 2) = s1
  generalize S (caN g0 k 4) = s2
  generalize decide (caN g0 k 2 = q) = d1
  generalize decide (caN g0 k 4 = q) = d2
  cases s1 <;> cases s2 <;> cases d1 <;> cases d2 <;> rfl
theorem rowQ.ca (h : rowQ g0 g M Hd S) (hW : wfL g0) {k i : Nat} (hk : k < 4) (h1 : 1 ≤ i) (h5 : i ≤ 5) : g (184 + 6 * k + i) = nI (caN g0 k i) ∧ caN g0 k i < 36 := by
  rw [h.2.2.2.2 _ (by omega)]
  exact (hW.2.2.2.2.2.2 k hk).2.1 i h1 h5
theorem rowQ.tca (h : rowQ g0 g M Hd S) (hW : wfL g0) : ∀ k, k < 4 → (g (184 + 6 * k + 2) = nI (caN g0 k 2) ∧ caN g0 k 2 < 2 ^ 31) ∧ g (184 + 6 * k + 4) = nI (caN g0 k 4) ∧ caN g0 k 4 < 2 ^ 31 := fun k hk => by
  obtain ⟨a1, a2⟩ := h.ca hW hk (i := 2) (by decide) (by decide)
  obtain ⟨b1, b2⟩ := h.ca hW hk (i := 4) (by decide) (by decide)
  exact ⟨⟨a1, by omega⟩, b1, by omega⟩
theorem rowQ.cl (h : rowQ g0 g M Hd S) {i : Nat} (hi : 53 ≤ i) : clN g i = clN g0 i := by rw [clN, clN, h.2.2.2.2 i hi]
theorem rowQ.rig (h : rowQ g0 g M Hd S) (hG : wfP g0) {k : Nat} (hk : k < 4) : g (49 + k) = nI (riN g k) ∧ riN g k ≤ riN g0 k := by
  have h4 := h.2.2.2.1 k hk
  obtain ⟨b1, b2⟩ := hG.2.2.2.2.1 k hk
  by_cases z : (S (caN g0 k 2) || S (caN g0 k 4)) = true
  · rw [if_pos z] at h4
    have e : riN g k = 0 := cl_z h4
    rw [e, h4]; exact ⟨rfl, Nat.zero_le _⟩
  · rw [if_neg z] at h4
    have e : riN g k = riN g0 k := by unfold riN clN; rw [h4]
    rw [e, h4]; exact ⟨b1, Nat.le_refl _⟩
theorem rowQ.okP (h : rowQ g0 g M Hd S) (hG : wfP g0) (hM : ∀ q, q < 36 → M q ≤ 12 ∧ (cN g0 * rN g0 ≤ q → M q = 0)) (hH : ∀ i, i < 12 → Hd i ≤ 9) : wfP g := by
  have ec : cN g = cN g0 := h.cl (by decide)
  have er : rN g = rN g0 := h.cl (by decide)
  obtain ⟨h1, h2, h3, h4, h5, h6, h7⟩ := hG
  refine ⟨by rw [ec, h.2.2.2.2 _ (by decide)]; exact h1, by rw [er, h.2.2.2.2 _ (by decide)]; exact h2, fun q hq => ?_, fun i hi => ?_, fun k hk => ?_, ?_, ?_⟩
  · have e : mN g q = M q := clN_nI (h.2.1 q hq) (by have := (hM q hq).1; omega)
    rw [e, ec, er]; exact ⟨h.2.1 q hq, hM q hq⟩
  · have e : hN g i = Hd i := clN_nI (h.2.2.1 i hi) (by have := hH i hi; omega)
    rw [e]; exact ⟨h.2.2.1 i hi, hH i hi⟩
  · obtain ⟨a, b⟩ := h.rig ⟨h1, h2, h3, h4, h5, h6, h7⟩ hk
    exact ⟨a, Nat.le_trans b (h5 k hk).2⟩
  · have e : tuN g = tuN g0 := by unfold tuN clN; rw [h.1]
    rw [e, h.1]; exact h6
  · have e : tuN g = tuN g0 := by unfold tuN clN; rw [h.1]
    rw [e]; exact h7
theorem rowQ.okL (h : rowQ g0 g M Hd S) (hG : wfP g0) (hW : wfL g0) : wfL g := wfL_of (fun i h1 _ _ => h.2.2.2.2 i h1) (fun k hk z => by
  obtain ⟨a, b⟩ := h.rig hG hk
  have := (hG.2.2.2.2.1 k hk).2
  omega) hW
/-- the type as which a man arrives -/
def aN (g : Nat → Int32) (t s q : Nat) : Nat := if 1 ≤ proN g t ∧ farG g s q = true then proN g t - 1 else t
theorem rowQ.arr (h : rowQ g0 g M Hd S) (t s q : Nat) : (if 1 ≤ proN g t ∧ farG g s q = true then proN g t - 1 else t) = aN g0 t s q := by
  have e : proN g t = proN g0 t := h.cl (by omega)
  have ec : cN g = cN g0 := h.cl (by decide)
  have er : rN g = rN g0 := h.cl (by decide)
  have ef : farG g s q = farG g0 s q := by unfold farG; rw [ec, er]
  rw [e, ef]; rfl
theorem rowQ.fin (h : rowQ g0 g M Hd S) (hG : wfP g0) {m : Nat} (hM : ∀ q, q < 36 → M q = sqP g0 m q) (hH : ∀ i, i < 12 → Hd i = hdP g0 m i) (hS : ∀ k, k < 4 → (S (caN g0 k 2) || S (caN g0 k 4)) = tchB g0 m k) : upd g 0 (nI (1 - tuN g0)) = playsG g0 m := by
  funext i
  by_cases z0 : i = 0
  · subst z0; rw [upd_at]; rfl
  rw [upd_ne z0]
  by_cases z1 : i < 37
  · have e : i = 1 + (i - 1) := by omega
    rw [e, h.2.1 _ (by omega), pl_sq (by omega), hM _ (by omega)]
  by_cases z2 : i < 49
  · have e : i = 37 + (i - 37) := by omega
    rw [e, h.2.2.1 _ (by omega), pl_hd (by omega), hH _ (by omega)]
  by_cases z3 : i < 53
  · have e : i = 49 + (i - 49) := by omega
    rw [e, h.2.2.2.1 _ (by omega), pl_ri (by omega), hS _ (by omega)]
    unfold riP
    by_cases y : tchB g0 m (i - 49) = true
    · rw [if_pos y, if_pos y]; rfl
    · rw [if_neg y, if_neg y]; exact (hG.2.2.2.2.1 _ (by omega)).1
  · rw [h.2.2.2.2 i (by omega), pl_hi (by omega)]
end RQ
theorem arr_aN {g : Nat → Int32} (hG : wfP g) {m : Nat} (hm : mvOk g m) (hk : mK m = 0) : arrN g m = 1 + aN g (tyN (mN g (mA m))) (tuN g) (mB m) + 6 * tuN g := by
  obtain ⟨m1, m2, m3, m4, m5⟩ := mv0 hm hk
  have h36 := sq36 hG
  have h12 := wf_m hG (q := mA m) (by omega)
  have hgo := goer_0 (g := g) hk
  have htu : sdN (mN g (mA m)) = tuN g := m4
  have hman : mN g (mA m) = 1 + tyN (mN g (mA m)) + 6 * sdN (mN g (mA m)) := by unfold tyN sdN; split <;> omega
  unfold arrN aN proB
  rw [hgo, htu]
  by_cases h1 : 1 ≤ proN g (tyN (mN g (mA m)))
  · by_cases h2 : farG g (tuN g) (mB m) = true
    · rw [if_pos (by rw [hk, h2, decide_eq_true h1]; rfl), if_pos ⟨h1, h2⟩]
    · have h3 : farG g (tuN g) (mB m) = false := by cases h : farG g (tuN g) (mB m); rfl; exact absurd h h2
      rw [if_neg (by rw [h3]; simp), if_neg (fun z => h2 z.2)]; omega
  · rw [if_neg (by rw [decide_eq_false h1]; simp), if_neg (fun z => h1 z.1)]; omega

set_option maxRecDepth 100000 in
set_option maxHeartbeats 4000000 in
theorem c_mPlays1 {ae ad : Nat → Nat} {sh : mSh} {σ : mSt} (hm : mModel ad sh) {g : Nat → Int32} (hg : σ.1 62 = g) (hG : wfP g) (hW : wfL g) {m : Nat} (hm0 : mvOk g m) (hk : mK m = 1) {f t : Int32} : Ct yX10_plays cX10_plays 10 none 3 0 0 [.ref (ad 61), .int 1, .int f, .int t, .int (nI (mA m))] ae ad sh σ (mPv ad sh (fun σ' => nowR σ σ' (playsG g m))) := by
  refine Ct.ofL (own := RX10) (ini := false) (ls := [some (.ref (ad 61)), some (.int 1), some (.int f), some (.int t), some (.int (nI (mA m))), none, none, none, none, none]) (by decide +kernel) rfl (fun h => by cases h) (Nat.le_of_ble_eq_true rfl) rfl ?_
  have hr := rowQ.st hG
  have hk4 := mA_4 hm0 hk
  have c2 := (hr.ca hW hk4 (i := 2) (by decide) (by decide)).2
  have c3 := (hr.ca hW hk4 (i := 3) (by decide) (by decide)).2
  have c4 := (hr.ca hW hk4 (i := 4) (by decide) (by decide)).2
  have c5 := (hr.ca hW hk4 (i := 5) (by decide) (by decide)).2
  refine ev_aload_0 dX10_plays_0 ?_
  refine gf_X10_11 dX10_plays_1 hm.1 rfl ?_
  refine ev_iconst_0 dX10_plays_4 ?_
  refine ev_ldk (k := 0) hm.2.1 hg rfl (by omega) (by decide) dX10_plays_5 ?_
  rw [hG.2.2.2.2.2.1]
  refine ev_istore_5 dX10_plays_6 rfl rfl ?_
  refine ev_iload_1 dX10_plays_8 ?_
  refine ev_iconst_1 dX10_plays_9 ?_
  refine ev_icmp_ne (tgt := 159) dX10_plays_10 (by decide) (fun h10 => absurd h10 (by decide)) (fun h10 => ?_)
  refine ev_iload_4 dX10_plays_13 ?_
  refine cl_X10_72 (c_castleAt (t := (mA m))) dX10_plays_15 rfl (Nat.le_of_ble_eq_true rfl) ?_
  refine ev_istore_6 dX10_plays_18 rfl rfl ?_
  refine ev_aload_0 dX10_plays_20 ?_
  refine gf_X10_11 dX10_plays_21 hm.1 rfl ?_
  refine ev_iconst_1 dX10_plays_24 ?_
  refine ev_aload_0 dX10_plays_25 ?_
  refine gf_X10_11 dX10_plays_26 hm.1 rfl ?_
  refine ev_iload_6 dX10_plays_29 ?_
  refine ev_iconst_2 dX10_plays_31 ?_
  refine ev_iadd dX10_plays_32 ?_
  rw [show nI (184 + 6 * mA m) + (2 : Int32) = nI (184 + 6 * mA m + 2) from nI_add (184 + 6 * mA m) (2)]
  refine ev_ldk (k := 184 + 6 * mA m + 2) hm.2.1 hg rfl (by omega) (by decide) dX10_plays_33 ?_
  rw [(hr.ca hW hk4 (i := 2) (by decide) (by decide)).1]
  refine ev_iadd dX10_plays_34 ?_
  rw [show (1 : Int32) + nI (caN g (mA m) 2) = nI (1 + (caN g (mA m) 2)) from nI_add (1) (caN g (mA m) 2)]
  refine ev_ldk (k := 1 + (caN g (mA m) 2)) hm.2.1 hg rfl (by omega) (by decide) dX10_plays_35 ?_
  rw [hr.2.1 _ (c2)]
  refine ev_istore_7 dX10_plays_36 rfl rfl ?_
  refine ev_aload_0 dX10_plays_38 ?_
  refine gf_X10_11 dX10_plays_39 hm.1 rfl ?_
  refine ev_iconst_1 dX10_plays_42 ?_
  refine ev_aload_0 dX10_plays_43 ?_
  refine gf_X10_11 dX10_plays_44 hm.1 rfl ?_
  refine ev_iload_6 dX10_plays_47 ?_
  refine ev_iconst_4 dX10_plays_49 ?_
  refine ev_iadd dX10_plays_50 ?_
  rw [show nI (184 + 6 * mA m) + (4 : Int32) = nI (184 + 6 * mA m + 4) from nI_add (184 + 6 * mA m) (4)]
  refine ev_ldk (k := 184 + 6 * mA m + 4) hm.2.1 hg rfl (by omega) (by decide) dX10_plays_51 ?_
  rw [(hr.ca hW hk4 (i := 4) (by decide) (by decide)).1]
  refine ev_iadd dX10_plays_52 ?_
  rw [show (1 : Int32) + nI (caN g (mA m) 4) = nI (1 + (caN g (mA m) 4)) from nI_add (1) (caN g (mA m) 4)]
  refine ev_ldk (k := 1 + (caN g (mA m) 4)) hm.2.1 hg rfl (by omega) (by decide) dX10_plays_53 ?_
  rw [hr.2.1 _ (c4)]
  refine ev_istore_8 dX10_plays_54 rfl rfl ?_
  refine ev_aload_0 dX10_plays_56 ?_
  refine gf_X10_11 dX10_plays_57 hm.1 rfl ?_
  refine ev_iconst_1 dX10_plays_60 ?_
  refine ev_aload_0 dX10_plays_61 ?_
  refine gf_X10_11 dX10_plays_62 hm.1 rfl ?_
  refine ev_iload_6 dX10_plays_65 ?_
  refine ev_iconst_2 dX10_plays_67 ?_
  refine ev_iadd dX10_plays_68 ?_
  rw [show nI (184 + 6 * mA m) + (2 : Int32) = nI (184 + 6 * mA m + 2) from nI_add (184 + 6 * mA m) (2)]
  refine ev_ldk (k := 184 + 6 * mA m + 2) hm.2.1 hg rfl (by omega) (by decide) dX10_plays_69 ?_
  rw [(hr.ca hW hk4 (i := 2) (by decide) (by decide)).1]
  refine ev_iadd dX10_plays_70 ?_
  rw [show (1 : Int32) + nI (caN g (mA m) 2) = nI (1 + (caN g (mA m) 2)) from nI_add (1) (caN g (mA m) 2)]
  refine ev_iconst_0 dX10_plays_71 ?_
  refine ev_stk (k := 1 + (caN g (mA m) 2)) hm.2.1 hg rfl (by omega) (by decide) dX10_plays_72 (fun σ72 hw72 hf72 hl72 => ?_)
  have hr := hr.put (q := caN g (mA m) 2) (m := 0) (x := 0) rfl c2
  refine ev_aload_0 dX10_plays_73 ?_
  refine gf_X10_11 dX10_plays_74 hm.1 rfl ?_
  refine ev_iconst_1 dX10_plays_77 ?_
  refine ev_aload_0 dX10_plays_78 ?_
  refine gf_X10_11 dX10_plays_79 hm.1 rfl ?_
  refine ev_iload_6 dX10_plays_82 ?_
  refine ev_iconst_4 dX10_plays_84 ?_
  refine ev_iadd dX10_plays_85 ?_
  rw [show nI (184 + 6 * mA m) + (4 : Int32) = nI (184 + 6 * mA m + 4) from nI_add (184 + 6 * mA m) (4)]
  refine ev_ldk (k := 184 + 6 * mA m + 4) hm.2.1 hw72 rfl (by omega) (by decide) dX10_plays_86 ?_
  rw [(hr.ca hW hk4 (i := 4) (by decide) (by decide)).1]
  refine ev_iadd dX10_plays_87 ?_
  rw [show (1 : Int32) + nI (caN g (mA m) 4) = nI (1 + (caN g (mA m) 4)) from nI_add (1) (caN g (mA m) 4)]
  refine ev_iconst_0 dX10_plays_88 ?_
  refine ev_stk (k := 1 + (caN g (mA m) 4)) hm.2.1 hw72 rfl (by omega) (by decide) dX10_plays_89 (fun σ89 hw89 hf89 hl89 => ?_)
  have hr := hr.put (q := caN g (mA m) 4) (m := 0) (x := 0) rfl c4
  refine ev_aload_0 dX10_plays_90 ?_
  refine gf_X10_11 dX10_plays_91 hm.1 rfl ?_
  refine ev_iconst_1 dX10_plays_94 ?_
  refine ev_aload_0 dX10_plays_95 ?_
  refine gf_X10_11 dX10_plays_96 hm.1 rfl ?_
  refine ev_iload_6 dX10_plays_99 ?_
  refine ev_iconst_3 dX10_plays_101 ?_
  refine ev_iadd dX10_plays_102 ?_
  rw [show nI (184 + 6 * mA m) + (3 : Int32) = nI (184 + 6 * mA m + 3) from nI_add (184 + 6 * mA m) (3)]
  refine ev_ldk (k := 184 + 6 * mA m + 3) hm.2.1 hw89 rfl (by omega) (by decide) dX10_plays_103 ?_
  rw [(hr.ca hW hk4 (i := 3) (by decide) (by decide)).1]
  refine ev_iadd dX10_plays_104 ?_
  rw [show (1 : Int32) + nI (caN g (mA m) 3) = nI (1 + (caN g (mA m) 3)) from nI_add (1) (caN g (mA m) 3)]
  refine ev_iload_7 dX10_plays_105 ?_
  refine ev_stk (k := 1 + (caN g (mA m) 3)) hm.2.1 hw89 rfl (by omega) (by decide) dX10_plays_107 (fun σ107 hw107 hf107 hl107 => ?_)
  have hr := hr.put (q := caN g (mA m) 3) (m := mN g (caN g (mA m) 2)) rfl c3
  refine ev_aload_0 dX10_plays_108 ?_
  refine gf_X10_11 dX10_plays_109 hm.1 rfl ?_
  refine ev_iconst_1 dX10_plays_112 ?_
  refine ev_aload_0 dX10_plays_113 ?_
  refine gf_X10_11 dX10_plays_114 hm.1 rfl ?_
  refine ev_iload_6 dX10_plays_117 ?_
  refine ev_iconst_5 dX10_plays_119 ?_
  refine ev_iadd dX10_plays_120 ?_
  rw [show nI (184 + 6 * mA m) + (5 : Int32) = nI (184 + 6 * mA m + 5) from nI_add (184 + 6 * mA m) (5)]
  refine ev_ldk (k := 184 + 6 * mA m + 5) hm.2.1 hw107 rfl (by omega) (by decide) dX10_plays_121 ?_
  rw [(hr.ca hW hk4 (i := 5) (by decide) (by decide)).1]
  refine ev_iadd dX10_plays_122 ?_
  rw [show (1 : Int32) + nI (caN g (mA m) 5) = nI (1 + (caN g (mA m) 5)) from nI_add (1) (caN g (mA m) 5)]
  refine ev_iload_8 dX10_plays_123 ?_
  refine ev_stk (k := 1 + (caN g (mA m) 5)) hm.2.1 hw107 rfl (by omega) (by decide) dX10_plays_125 (fun σ125 hw125 hf125 hl125 => ?_)
  have hr := hr.put (q := caN g (mA m) 5) (m := mN g (caN g (mA m) 4)) rfl c5
  refine ev_iconst_2 dX10_plays_126 ?_
  refine ev_istore_9 dX10_plays_127 rfl rfl ?_
  refine ev_iload_9 dX10_plays_129 ?_
  refine ev_bipush_6 dX10_plays_131 ?_
  refine ev_icmp_ge (tgt := 156) dX10_plays_133 (by decide) (fun h133 => absurd h133 (by decide)) (fun h133 => ?_)
  refine ev_aload_0 dX10_plays_136 ?_
  refine ev_aload_0 dX10_plays_137 ?_
  refine gf_X10_11 dX10_plays_138 hm.1 rfl ?_
  refine ev_iload_6 dX10_plays_141 ?_
  refine ev_iload_9 dX10_plays_143 ?_
  refine ev_iadd dX10_plays_145 ?_
  rw [show nI (184 + 6 * mA m) + (2 : Int32) = nI (184 + 6 * mA m + 2) from nI_add (184 + 6 * mA m) (2)]
  refine ev_ldk (k := 184 + 6 * mA m + 2) hm.2.1 hw125 rfl (by omega) (by decide) dX10_plays_146 ?_
  rw [(hr.ca hW hk4 (i := 2) (by decide) (by decide)).1]
  refine cg_X10_199 (c_mTouch hm (q := (caN g (mA m) 2)) (by omega) (hr.tca hW) hw125) hm.1 dX10_plays_147 rfl (Nat.le_of_ble_eq_true rfl) (fun σt147 ht147 => ?_)
  obtain ⟨t1_147, t2_147, t3_147⟩ := ht147
  have hr := hr.tc ((caN g (mA m) 2))
  refine ev_iinc_9 (v := 1) dX10_plays_150 (by decide) rfl rfl ?_
  rw [show (2 : Int32) + (1) = 3 from rfl]
  refine ev_goto (tgt := 129) dX10_plays_153 (by decide) ?_
  refine ev_iload_9 dX10_plays_129 ?_
  refine ev_bipush_6 dX10_plays_131 ?_
  refine ev_icmp_ge (tgt := 156) dX10_plays_133 (by decide) (fun h133 => absurd h133 (by decide)) (fun h133 => ?_)
  refine ev_aload_0 dX10_plays_136 ?_
  refine ev_aload_0 dX10_plays_137 ?_
  refine gf_X10_11 dX10_plays_138 hm.1 rfl ?_
  refine ev_iload_6 dX10_plays_141 ?_
  refine ev_iload_9 dX10_plays_143 ?_
  refine ev_iadd dX10_plays_145 ?_
  rw [show nI (184 + 6 * mA m) + (3 : Int32) = nI (184 + 6 * mA m + 3) from nI_add (184 + 6 * mA m) (3)]
  refine ev_ldk (k := 184 + 6 * mA m + 3) hm.2.1 t1_147 rfl (by omega) (by decide) dX10_plays_146 ?_
  rw [(hr.ca hW hk4 (i := 3) (by decide) (by decide)).1]
  refine cg_X10_199 (c_mTouch hm (q := (caN g (mA m) 3)) (by omega) (hr.tca hW) t1_147) hm.1 dX10_plays_147 rfl (Nat.le_of_ble_eq_true rfl) (fun σt147r1 ht147r1 => ?_)
  obtain ⟨t1_147r1, t2_147r1, t3_147r1⟩ := ht147r1
  have hr := hr.tc ((caN g (mA m) 3))
  refine ev_iinc_9 (v := 1) dX10_plays_150 (by decide) rfl rfl ?_
  rw [show (3 : Int32) + (1) = 4 from rfl]
  refine ev_goto (tgt := 129) dX10_plays_153 (by decide) ?_
  refine ev_iload_9 dX10_plays_129 ?_
  refine ev_bipush_6 dX10_plays_131 ?_
  refine ev_icmp_ge (tgt := 156) dX10_plays_133 (by decide) (fun h133 => absurd h133 (by decide)) (fun h133 => ?_)
  refine ev_aload_0 dX10_plays_136 ?_
  refine ev_aload_0 dX10_plays_137 ?_
  refine gf_X10_11 dX10_plays_138 hm.1 rfl ?_
  refine ev_iload_6 dX10_plays_141 ?_
  refine ev_iload_9 dX10_plays_143 ?_
  refine ev_iadd dX10_plays_145 ?_
  rw [show nI (184 + 6 * mA m) + (4 : Int32) = nI (184 + 6 * mA m + 4) from nI_add (184 + 6 * mA m) (4)]
  refine ev_ldk (k := 184 + 6 * mA m + 4) hm.2.1 t1_147r1 rfl (by omega) (by decide) dX10_plays_146 ?_
  rw [(hr.ca hW hk4 (i := 4) (by decide) (by decide)).1]
  refine cg_X10_199 (c_mTouch hm (q := (caN g (mA m) 4)) (by omega) (hr.tca hW) t1_147r1) hm.1 dX10_plays_147 rfl (Nat.le_of_ble_eq_true rfl) (fun σt147r2 ht147r2 => ?_)
  obtain ⟨t1_147r2, t2_147r2, t3_147r2⟩ := ht147r2
  have hr := hr.tc ((caN g (mA m) 4))
  refine ev_iinc_9 (v := 1) dX10_plays_150 (by decide) rfl rfl ?_
  rw [show (4 : Int32) + (1) = 5 from rfl]
  refine ev_goto (tgt := 129) dX10_plays_153 (by decide) ?_
  refine ev_iload_9 dX10_plays_129 ?_
  refine ev_bipush_6 dX10_plays_131 ?_
  refine ev_icmp_ge (tgt := 156) dX10_plays_133 (by decide) (fun h133 => absurd h133 (by decide)) (fun h133 => ?_)
  refine ev_aload_0 dX10_plays_136 ?_
  refine ev_aload_0 dX10_plays_137 ?_
  refine gf_X10_11 dX10_plays_138 hm.1 rfl ?_
  refine ev_iload_6 dX10_plays_141 ?_
  refine ev_iload_9 dX10_plays_143 ?_
  refine ev_iadd dX10_plays_145 ?_
  rw [show nI (184 + 6 * mA m) + (5 : Int32) = nI (184 + 6 * mA m + 5) from nI_add (184 + 6 * mA m) (5)]
  refine ev_ldk (k := 184 + 6 * mA m + 5) hm.2.1 t1_147r2 rfl (by omega) (by decide) dX10_plays_146 ?_
  rw [(hr.ca hW hk4 (i := 5) (by decide) (by decide)).1]
  refine cg_X10_199 (c_mTouch hm (q := (caN g (mA m) 5)) (by omega) (hr.tca hW) t1_147r2) hm.1 dX10_plays_147 rfl (Nat.le_of_ble_eq_true rfl) (fun σt147r3 ht147r3 => ?_)
  obtain ⟨t1_147r3, t2_147r3, t3_147r3⟩ := ht147r3
  have hr := hr.tc ((caN g (mA m) 5))
  refine ev_iinc_9 (v := 1) dX10_plays_150 (by decide) rfl rfl ?_
  rw [show (5 : Int32) + (1) = 6 from rfl]
  refine ev_goto (tgt := 129) dX10_plays_153 (by decide) ?_
  refine ev_iload_9 dX10_plays_129 ?_
  refine ev_bipush_6 dX10_plays_131 ?_
  refine ev_icmp_ge (tgt := 156) dX10_plays_133 (by decide) (fun h133 => ?_) (fun h133 => (by exfalso; revert h133; decide))
  refine ev_goto (tgt := 314) dX10_plays_156 (by decide) ?_
  refine ev_aload_0 dX10_plays_314 ?_
  refine gf_X10_11 dX10_plays_315 hm.1 rfl ?_
  refine ev_iconst_0 dX10_plays_318 ?_
  refine ev_iconst_1 dX10_plays_319 ?_
  refine ev_iload_5 dX10_plays_320 ?_
  refine ev_isub dX10_plays_322 ?_
  rw [show (1 : Int32) - nI (tuN g) = nI (1 - tuN g) from nI_sub (tu_le hG)]
  refine ev_stk (k := 0) hm.2.1 t1_147r3 rfl (by omega) (by decide) dX10_plays_323 (fun σ323 hw323 hf323 hl323 => ?_)
  refine ev_pv dX10_plays_324 ⟨hw323.trans (hr.fin hG (fun q hq => ?_) (fun i hi => ?_) (fun k hk4 => ?_)), fun j x62 => ?_, ?_⟩
  · exact congrFun (sq_cast hk) q
  · exact congrFun (hd_cast hk) i
  · unfold tchB tSet; simp [anyF, hk, eq_comm, Bool.or_comm, Bool.or_left_comm, Bool.or_assoc]
  · rw [hf323 j x62, t2_147r3 j x62, t2_147r2 j x62, t2_147r1 j x62, t2_147 j x62, hf125 j x62, hf107 j x62, hf89 j x62, hf72 j x62]
  · rw [hl323, t3_147r3, t3_147r2, t3_147r1, t3_147, hl125, hl107, hl89, hl72]
set_option maxRecDepth 100000 in
set_option maxHeartbeats 4000000 in
theorem c_mPlays2 {ae ad : Nat → Nat} {sh : mSh} {σ : mSt} (hm : mModel ad sh) {g : Nat → Int32} (hg : σ.1 62 = g) (hG : wfP g) (hW : wfL g) {m : Nat} (hm0 : mvOk g m) (hk : mK m = 2) : Ct yX10_plays cX10_plays 10 none 3 0 0 [.ref (ad 61), .int 2, .int (-5), .int (nI (mB m)), .int (nI (mA m))] ae ad sh σ (mPv ad sh (fun σ' => nowR σ σ' (playsG g m))) := by
  refine Ct.ofL (own := RX10) (ini := false) (ls := [some (.ref (ad 61)), some (.int 2), some (.int (-5)), some (.int (nI (mB m))), some (.int (nI (mA m))), none, none, none, none, none]) (by decide +kernel) rfl (fun h => by cases h) (Nat.le_of_ble_eq_true rfl) rfl ?_
  have hr := rowQ.st hG
  have h36 := sq36 hG
  obtain ⟨m1, m2, m3, m4⟩ := mv2 hm0 hk
  have htu := tu_le hG
  have hi : 6 * tuN g + mA m < 12 := by omega
  refine ev_aload_0 dX10_plays_0 ?_
  refine gf_X10_11 dX10_plays_1 hm.1 rfl ?_
  refine ev_iconst_0 dX10_plays_4 ?_
  refine ev_ldk (k := 0) hm.2.1 hg rfl (by omega) (by decide) dX10_plays_5 ?_
  rw [hG.2.2.2.2.2.1]
  refine ev_istore_5 dX10_plays_6 rfl rfl ?_
  refine ev_iload_1 dX10_plays_8 ?_
  refine ev_iconst_1 dX10_plays_9 ?_
  refine ev_icmp_ne (tgt := 159) dX10_plays_10 (by decide) (fun h10 => ?_) (fun h10 => (by exfalso; revert h10; decide))
  refine ev_iload_1 dX10_plays_159 ?_
  refine ev_iconst_2 dX10_plays_160 ?_
  refine ev_icmp_ne (tgt := 210) dX10_plays_161 (by decide) (fun h161 => absurd h161 (by decide)) (fun h161 => ?_)
  refine ev_aload_0 dX10_plays_164 ?_
  refine gf_X10_11 dX10_plays_165 hm.1 rfl ?_
  refine ev_bipush_37 dX10_plays_168 ?_
  refine ev_bipush_6 dX10_plays_170 ?_
  refine ev_iload_5 dX10_plays_172 ?_
  refine ev_imul dX10_plays_174 ?_
  rw [show (6 : Int32) * nI (tuN g) = nI (6 * (tuN g)) from nI_mul (6) (tuN g)]
  refine ev_iadd dX10_plays_175 ?_
  rw [show (37 : Int32) + nI (6 * (tuN g)) = nI (37 + (6 * (tuN g))) from nI_add (37) (6 * (tuN g))]
  refine ev_iload_4 dX10_plays_176 ?_
  refine ev_iadd dX10_plays_178 ?_
  rw [show nI (37 + (6 * (tuN g))) + nI (mA m) = nI (37 + (6 * (tuN g)) + (mA m)) from nI_add (37 + (6 * (tuN g))) (mA m)]
  refine ev_dup2 dX10_plays_179 rfl rfl ?_
  refine ev_ldk (k := 37 + (6 * (tuN g)) + (mA m)) hm.2.1 hg rfl (by omega) (by decide) dX10_plays_180 ?_
  rw [show g (37 + 6 * tuN g + mA m) = nI (hN g (6 * tuN g + mA m)) from by rw [Nat.add_assoc]; exact hr.2.2.1 _ hi]
  refine ev_iconst_1 dX10_plays_181 ?_
  refine ev_isub dX10_plays_182 ?_
  rw [show nI (hN g (6 * tuN g + mA m)) - 1 = nI (hN g (6 * tuN g + mA m) - 1) from nI_sub m4]
  refine ev_stk (k := 37 + (6 * (tuN g)) + (mA m)) hm.2.1 hg rfl (by omega) (by decide) dX10_plays_183 (fun σ183 hw183 hf183 hl183 => ?_)
  have hr := hr.hand (n := hN g (6 * tuN g + mA m) - 1) (x := nI (hN g (6 * tuN g + mA m) - 1)) rfl hi
  rw [← Nat.add_assoc] at hr
  refine ev_aload_0 dX10_plays_184 ?_
  refine gf_X10_11 dX10_plays_185 hm.1 rfl ?_
  refine ev_iconst_1 dX10_plays_188 ?_
  refine ev_iload_3 dX10_plays_189 ?_
  refine ev_iadd dX10_plays_190 ?_
  rw [show (1 : Int32) + nI (mB m) = nI (1 + (mB m)) from nI_add (1) (mB m)]
  refine ev_iconst_1 dX10_plays_191 ?_
  refine ev_iload_4 dX10_plays_192 ?_
  refine ev_iadd dX10_plays_194 ?_
  rw [show (1 : Int32) + nI (mA m) = nI (1 + (mA m)) from nI_add (1) (mA m)]
  refine ev_bipush_6 dX10_plays_195 ?_
  refine ev_iload_5 dX10_plays_197 ?_
  refine ev_imul dX10_plays_199 ?_
  rw [show (6 : Int32) * nI (tuN g) = nI (6 * (tuN g)) from nI_mul (6) (tuN g)]
  refine ev_iadd dX10_plays_200 ?_
  rw [show nI (1 + (mA m)) + nI (6 * (tuN g)) = nI (1 + (mA m) + (6 * (tuN g))) from nI_add (1 + (mA m)) (6 * (tuN g))]
  refine ev_stk (k := 1 + (mB m)) hm.2.1 hw183 rfl (by omega) (by decide) dX10_plays_201 (fun σ201 hw201 hf201 hl201 => ?_)
  have hr := hr.put (q := mB m) (m := 1 + mA m + 6 * tuN g) (x := nI (1 + mA m + 6 * tuN g)) rfl (by omega)
  refine ev_aload_0 dX10_plays_202 ?_
  refine ev_iload_3 dX10_plays_203 ?_
  refine cg_X10_199 (c_mTouch hm (q := (mB m)) (by omega) (hr.tca hW) hw201) hm.1 dX10_plays_204 rfl (Nat.le_of_ble_eq_true rfl) (fun σt204 ht204 => ?_)
  obtain ⟨t1_204, t2_204, t3_204⟩ := ht204
  have hr := hr.tc ((mB m))
  refine ev_goto (tgt := 314) dX10_plays_207 (by decide) ?_
  refine ev_aload_0 dX10_plays_314 ?_
  refine gf_X10_11 dX10_plays_315 hm.1 rfl ?_
  refine ev_iconst_0 dX10_plays_318 ?_
  refine ev_iconst_1 dX10_plays_319 ?_
  refine ev_iload_5 dX10_plays_320 ?_
  refine ev_isub dX10_plays_322 ?_
  rw [show (1 : Int32) - nI (tuN g) = nI (1 - tuN g) from nI_sub (tu_le hG)]
  refine ev_stk (k := 0) hm.2.1 t1_204 rfl (by omega) (by decide) dX10_plays_323 (fun σ323 hw323 hf323 hl323 => ?_)
  refine ev_pv dX10_plays_324 ⟨hw323.trans (hr.fin hG (fun q hq => ?_) (fun i hi => ?_) (fun k hk4 => ?_)), fun j x62 => ?_, ?_⟩
  · exact congrFun ((show updN (mN g) (mB m) (1 + mA m + 6 * tuN g) = sqP g m from by rw [← sq_drop hk]; unfold goerN; rw [if_neg (by omega), if_neg (by omega)])) q
  · exact congrFun (hd_drop hk) i
  · unfold tchB tSet; simp [hk]
  · rw [hf323 j x62, t2_204 j x62, hf201 j x62, hf183 j x62]
  · rw [hl323, t3_204, hl201, hl183]
set_option maxRecDepth 100000 in
set_option maxHeartbeats 4000000 in
theorem c_mPlays0 {ae ad : Nat → Nat} {sh : mSh} {σ : mSt} (hm : mModel ad sh) {g : Nat → Int32} (hg : σ.1 62 = g) (hG : wfP g) (hW : wfL g) {m : Nat} (hm0 : mvOk g m) (hk : mK m = 0) : Ct yX10_plays cX10_plays 10 none 3 0 0 [.ref (ad 61), .int 0, .int (nI (mA m)), .int (nI (mB m)), .int (nI (tyN (mN g (mA m))))] ae ad sh σ (mPv ad sh (fun σ' => nowR σ σ' (playsG g m))) := by
  refine Ct.ofL (own := RX10) (ini := false) (ls := [some (.ref (ad 61)), some (.int 0), some (.int (nI (mA m))), some (.int (nI (mB m))), some (.int (nI (tyN (mN g (mA m))))), none, none, none, none, none]) (by decide +kernel) rfl (fun h => by cases h) (Nat.le_of_ble_eq_true rfl) rfl ?_
  have hr := rowQ.st hG
  have h36 := sq36 hG
  obtain ⟨m1, m2, m3, m4, m5⟩ := mv0 hm0 hk
  have htu := tu_le hG
  have cap12 := wf_m hG (q := mB m) (by omega)
  have go12 := wf_m hG (q := mA m) (by omega)
  have hty := tyN_lt m3 go12
  refine ev_aload_0 dX10_plays_0 ?_
  refine gf_X10_11 dX10_plays_1 hm.1 rfl ?_
  refine ev_iconst_0 dX10_plays_4 ?_
  refine ev_ldk (k := 0) hm.2.1 hg rfl (by omega) (by decide) dX10_plays_5 ?_
  rw [hG.2.2.2.2.2.1]
  refine ev_istore_5 dX10_plays_6 rfl rfl ?_
  refine ev_iload_1 dX10_plays_8 ?_
  refine ev_iconst_1 dX10_plays_9 ?_
  refine ev_icmp_ne (tgt := 159) dX10_plays_10 (by decide) (fun h10 => ?_) (fun h10 => (by exfalso; revert h10; decide))
  refine ev_iload_1 dX10_plays_159 ?_
  refine ev_iconst_2 dX10_plays_160 ?_
  refine ev_icmp_ne (tgt := 210) dX10_plays_161 (by decide) (fun h161 => ?_) (fun h161 => (by exfalso; revert h161; decide))
  refine ev_aload_0 dX10_plays_210 ?_
  refine ev_iload_3 dX10_plays_211 ?_
  refine cl_X10_69 (c_mMan hm hg hG (q := (mB m)) (by omega)) hm.1 dX10_plays_212 rfl (Nat.le_of_ble_eq_true rfl) ?_
  refine ev_istore_6 dX10_plays_215 rfl rfl ?_
  refine ev_iload_6 dX10_plays_217 ?_
  refine ev_if_lt (tgt := 270) dX10_plays_219 (by decide) (fun h219 => ?_) (fun h219 => ?_)
  · have hH : ∀ i, i < 12 → hN g i ≤ 9 := fun i hi2 => (hG.2.2.2.1 i hi2).2
    refine ev_aload_0 dX10_plays_270 ?_
    refine gf_X10_11 dX10_plays_271 hm.1 rfl ?_
    refine ev_iconst_1 dX10_plays_274 ?_
    refine ev_iload_2 dX10_plays_275 ?_
    refine ev_iadd dX10_plays_276 ?_
    rw [show (1 : Int32) + nI (mA m) = nI (1 + (mA m)) from nI_add (1) (mA m)]
    refine ev_iconst_0 dX10_plays_277 ?_
    refine ev_stk (k := 1 + (mA m)) hm.2.1 hg rfl (by omega) (by decide) dX10_plays_278 (fun σ278 hw278 hf278 hl278 => ?_)
    have hr := hr.put (q := mA m) (m := 0) (x := 0) rfl (by omega)
    have hM : ∀ q, q < 36 → updN (mN g) (mA m) 0 q ≤ 12 ∧ (cN g * rN g ≤ q → updN (mN g) (mA m) 0 q = 0) := fun q hq => by
      have := (hG.2.2.1 q hq).2
      unfold updN
      split
      · omega
      · exact this
    refine ev_aload_0 dX10_plays_279 ?_
    refine gf_X10_11 dX10_plays_280 hm.1 rfl ?_
    refine ev_iconst_1 dX10_plays_283 ?_
    refine ev_iload_3 dX10_plays_284 ?_
    refine ev_iadd dX10_plays_285 ?_
    rw [show (1 : Int32) + nI (mB m) = nI (1 + (mB m)) from nI_add (1) (mB m)]
    refine ev_iconst_1 dX10_plays_286 ?_
    refine ev_aload_0 dX10_plays_287 ?_
    refine ev_iload_4 dX10_plays_288 ?_
    refine ev_iload_3 dX10_plays_290 ?_
    refine ev_iload_5 dX10_plays_291 ?_
    refine cl_X10_206 (c_mArr hm hw278 (hr.okP hG hM hH) (hr.okL hG hW) (t := (tyN (mN g (mA m)))) hty (q := (mB m)) (by omega) (s := (tuN g)) htu) hm.1 dX10_plays_293 rfl (Nat.le_of_ble_eq_true rfl) ?_
    rw [hr.arr]
    refine ev_iadd dX10_plays_296 ?_
    rw [show (1 : Int32) + nI (aN g (tyN (mN g (mA m))) (tuN g) (mB m)) = nI (1 + (aN g (tyN (mN g (mA m))) (tuN g) (mB m))) from nI_add (1) (aN g (tyN (mN g (mA m))) (tuN g) (mB m))]
    refine ev_bipush_6 dX10_plays_297 ?_
    refine ev_iload_5 dX10_plays_299 ?_
    refine ev_imul dX10_plays_301 ?_
    rw [show (6 : Int32) * nI (tuN g) = nI (6 * (tuN g)) from nI_mul (6) (tuN g)]
    refine ev_iadd dX10_plays_302 ?_
    rw [show nI (1 + (aN g (tyN (mN g (mA m))) (tuN g) (mB m))) + nI (6 * (tuN g)) = nI (1 + (aN g (tyN (mN g (mA m))) (tuN g) (mB m)) + (6 * (tuN g))) from nI_add (1 + (aN g (tyN (mN g (mA m))) (tuN g) (mB m))) (6 * (tuN g))]
    refine ev_stk (k := 1 + (mB m)) hm.2.1 hw278 rfl (by omega) (by decide) dX10_plays_303 (fun σ303 hw303 hf303 hl303 => ?_)
    have hr := hr.put (q := mB m) (m := 1 + aN g (tyN (mN g (mA m))) (tuN g) (mB m) + 6 * tuN g) (x := nI (1 + (aN g (tyN (mN g (mA m))) (tuN g) (mB m)) + 6 * tuN g)) rfl (by omega)
    refine ev_aload_0 dX10_plays_304 ?_
    refine ev_iload_2 dX10_plays_305 ?_
    refine cg_X10_199 (c_mTouch hm (q := (mA m)) (by omega) (hr.tca hW) hw303) hm.1 dX10_plays_306 rfl (Nat.le_of_ble_eq_true rfl) (fun σt306 ht306 => ?_)
    obtain ⟨t1_306, t2_306, t3_306⟩ := ht306
    have hr := hr.tc ((mA m))
    refine ev_aload_0 dX10_plays_309 ?_
    refine ev_iload_3 dX10_plays_310 ?_
    refine cg_X10_199 (c_mTouch hm (q := (mB m)) (by omega) (hr.tca hW) t1_306) hm.1 dX10_plays_311 rfl (Nat.le_of_ble_eq_true rfl) (fun σt311 ht311 => ?_)
    obtain ⟨t1_311, t2_311, t3_311⟩ := ht311
    have hr := hr.tc ((mB m))
    refine ev_aload_0 dX10_plays_314 ?_
    refine gf_X10_11 dX10_plays_315 hm.1 rfl ?_
    refine ev_iconst_0 dX10_plays_318 ?_
    refine ev_iconst_1 dX10_plays_319 ?_
    refine ev_iload_5 dX10_plays_320 ?_
    refine ev_isub dX10_plays_322 ?_
    rw [show (1 : Int32) - nI (tuN g) = nI (1 - tuN g) from nI_sub (tu_le hG)]
    refine ev_stk (k := 0) hm.2.1 t1_311 rfl (by omega) (by decide) dX10_plays_323 (fun σ323 hw323 hf323 hl323 => ?_)
    refine ev_pv dX10_plays_324 ⟨hw323.trans (hr.fin hG (fun q hq => ?_) (fun i hi => ?_) (fun k hk4 => ?_)), fun j x62 => ?_, ?_⟩
    · exact congrFun ((show updN (updN (mN g) (mA m) 0) (mB m) (1 + aN g (tyN (mN g (mA m))) (tuN g) (mB m) + 6 * tuN g) = sqP g m from by rw [← arr_aN hG hm0 hk]; exact sq_man hk)) q
    · exact congrFun (hd_no hk (by
        have ec : capN g m = mN g (mB m) := if_pos hk
        unfold gainB
        rw [ec]
        first
        | (rw [decide_eq_false (show ¬ ¬ mN g (mB m) = 0 from fun z => z ((m1_neg cap12).mp h219))]; rfl)
        | (rw [decide_eq_false (show ¬ clN g 55 = 1 from fun z => h230 (by rw [hW.1.1, z]; rfl))]; simp))) i
    · unfold tchB tSet; simp [hk, Bool.or_comm]
    · rw [hf323 j x62, t2_311 j x62, t2_306 j x62, hf303 j x62, hf278 j x62]
    · rw [hl323, t3_311, t3_306, hl303, hl278]
  · refine ev_aload_0 dX10_plays_222 ?_
    refine gf_X10_11 dX10_plays_223 hm.1 rfl ?_
    refine ev_bipush_55 dX10_plays_226 ?_
    refine ev_ldk (k := 55) hm.2.1 hg rfl (by omega) (by decide) dX10_plays_228 ?_
    refine ev_iconst_1 dX10_plays_229 ?_
    refine ev_icmp_ne (tgt := 270) dX10_plays_230 (by decide) (fun h230 => ?_) (fun h230 => ?_)
    · have hH : ∀ i, i < 12 → hN g i ≤ 9 := fun i hi2 => (hG.2.2.2.1 i hi2).2
      refine ev_aload_0 dX10_plays_270 ?_
      refine gf_X10_11 dX10_plays_271 hm.1 rfl ?_
      refine ev_iconst_1 dX10_plays_274 ?_
      refine ev_iload_2 dX10_plays_275 ?_
      refine ev_iadd dX10_plays_276 ?_
      rw [show (1 : Int32) + nI (mA m) = nI (1 + (mA m)) from nI_add (1) (mA m)]
      refine ev_iconst_0 dX10_plays_277 ?_
      refine ev_stk (k := 1 + (mA m)) hm.2.1 hg rfl (by omega) (by decide) dX10_plays_278 (fun σ278 hw278 hf278 hl278 => ?_)
      have hr := hr.put (q := mA m) (m := 0) (x := 0) rfl (by omega)
      have hM : ∀ q, q < 36 → updN (mN g) (mA m) 0 q ≤ 12 ∧ (cN g * rN g ≤ q → updN (mN g) (mA m) 0 q = 0) := fun q hq => by
        have := (hG.2.2.1 q hq).2
        unfold updN
        split
        · omega
        · exact this
      refine ev_aload_0 dX10_plays_279 ?_
      refine gf_X10_11 dX10_plays_280 hm.1 rfl ?_
      refine ev_iconst_1 dX10_plays_283 ?_
      refine ev_iload_3 dX10_plays_284 ?_
      refine ev_iadd dX10_plays_285 ?_
      rw [show (1 : Int32) + nI (mB m) = nI (1 + (mB m)) from nI_add (1) (mB m)]
      refine ev_iconst_1 dX10_plays_286 ?_
      refine ev_aload_0 dX10_plays_287 ?_
      refine ev_iload_4 dX10_plays_288 ?_
      refine ev_iload_3 dX10_plays_290 ?_
      refine ev_iload_5 dX10_plays_291 ?_
      refine cl_X10_206 (c_mArr hm hw278 (hr.okP hG hM hH) (hr.okL hG hW) (t := (tyN (mN g (mA m)))) hty (q := (mB m)) (by omega) (s := (tuN g)) htu) hm.1 dX10_plays_293 rfl (Nat.le_of_ble_eq_true rfl) ?_
      rw [hr.arr]
      refine ev_iadd dX10_plays_296 ?_
      rw [show (1 : Int32) + nI (aN g (tyN (mN g (mA m))) (tuN g) (mB m)) = nI (1 + (aN g (tyN (mN g (mA m))) (tuN g) (mB m))) from nI_add (1) (aN g (tyN (mN g (mA m))) (tuN g) (mB m))]
      refine ev_bipush_6 dX10_plays_297 ?_
      refine ev_iload_5 dX10_plays_299 ?_
      refine ev_imul dX10_plays_301 ?_
      rw [show (6 : Int32) * nI (tuN g) = nI (6 * (tuN g)) from nI_mul (6) (tuN g)]
      refine ev_iadd dX10_plays_302 ?_
      rw [show nI (1 + (aN g (tyN (mN g (mA m))) (tuN g) (mB m))) + nI (6 * (tuN g)) = nI (1 + (aN g (tyN (mN g (mA m))) (tuN g) (mB m)) + (6 * (tuN g))) from nI_add (1 + (aN g (tyN (mN g (mA m))) (tuN g) (mB m))) (6 * (tuN g))]
      refine ev_stk (k := 1 + (mB m)) hm.2.1 hw278 rfl (by omega) (by decide) dX10_plays_303 (fun σ303 hw303 hf303 hl303 => ?_)
      have hr := hr.put (q := mB m) (m := 1 + aN g (tyN (mN g (mA m))) (tuN g) (mB m) + 6 * tuN g) (x := nI (1 + (aN g (tyN (mN g (mA m))) (tuN g) (mB m)) + 6 * tuN g)) rfl (by omega)
      refine ev_aload_0 dX10_plays_304 ?_
      refine ev_iload_2 dX10_plays_305 ?_
      refine cg_X10_199 (c_mTouch hm (q := (mA m)) (by omega) (hr.tca hW) hw303) hm.1 dX10_plays_306 rfl (Nat.le_of_ble_eq_true rfl) (fun σt306 ht306 => ?_)
      obtain ⟨t1_306, t2_306, t3_306⟩ := ht306
      have hr := hr.tc ((mA m))
      refine ev_aload_0 dX10_plays_309 ?_
      refine ev_iload_3 dX10_plays_310 ?_
      refine cg_X10_199 (c_mTouch hm (q := (mB m)) (by omega) (hr.tca hW) t1_306) hm.1 dX10_plays_311 rfl (Nat.le_of_ble_eq_true rfl) (fun σt311 ht311 => ?_)
      obtain ⟨t1_311, t2_311, t3_311⟩ := ht311
      have hr := hr.tc ((mB m))
      refine ev_aload_0 dX10_plays_314 ?_
      refine gf_X10_11 dX10_plays_315 hm.1 rfl ?_
      refine ev_iconst_0 dX10_plays_318 ?_
      refine ev_iconst_1 dX10_plays_319 ?_
      refine ev_iload_5 dX10_plays_320 ?_
      refine ev_isub dX10_plays_322 ?_
      rw [show (1 : Int32) - nI (tuN g) = nI (1 - tuN g) from nI_sub (tu_le hG)]
      refine ev_stk (k := 0) hm.2.1 t1_311 rfl (by omega) (by decide) dX10_plays_323 (fun σ323 hw323 hf323 hl323 => ?_)
      refine ev_pv dX10_plays_324 ⟨hw323.trans (hr.fin hG (fun q hq => ?_) (fun i hi => ?_) (fun k hk4 => ?_)), fun j x62 => ?_, ?_⟩
      · exact congrFun ((show updN (updN (mN g) (mA m) 0) (mB m) (1 + aN g (tyN (mN g (mA m))) (tuN g) (mB m) + 6 * tuN g) = sqP g m from by rw [← arr_aN hG hm0 hk]; exact sq_man hk)) q
      · exact congrFun (hd_no hk (by
          have ec : capN g m = mN g (mB m) := if_pos hk
          unfold gainB
          rw [ec]
          first
          | (rw [decide_eq_false (show ¬ ¬ mN g (mB m) = 0 from fun z => z ((m1_neg cap12).mp h219))]; rfl)
          | (rw [decide_eq_false (show ¬ clN g 55 = 1 from fun z => h230 (by rw [hW.1.1, z]; rfl))]; simp))) i
      · unfold tchB tSet; simp [hk, Bool.or_comm]
      · rw [hf323 j x62, t2_311 j x62, t2_306 j x62, hf303 j x62, hf278 j x62]
      · rw [hl323, t3_311, t3_306, hl303, hl278]
    · have c0 : ¬ mN g (mB m) = 0 := fun z => h219 ((m1_neg cap12).mpr z)
      have c1 : 1 ≤ mN g (mB m) := by omega
      have ct := tyN_lt c1 cap12
      have hi : 6 * tuN g + tyN (mN g (mB m)) < 12 := by omega
      have h9 := (hG.2.2.2.1 _ hi).2
      refine ev_bipush_37 dX10_plays_233 ?_
      refine ev_bipush_6 dX10_plays_235 ?_
      refine ev_iload_5 dX10_plays_237 ?_
      refine ev_imul dX10_plays_239 ?_
      rw [show (6 : Int32) * nI (tuN g) = nI (6 * (tuN g)) from nI_mul (6) (tuN g)]
      refine ev_iadd dX10_plays_240 ?_
      rw [show (37 : Int32) + nI (6 * (tuN g)) = nI (37 + (6 * (tuN g))) from nI_add (37) (6 * (tuN g))]
      refine ev_iload_6 dX10_plays_241 ?_
      refine ev_bipush_6 dX10_plays_243 ?_
      refine ev_irem dX10_plays_245 (show ¬ (6 : Int32) = 0 by decide) ?_
      rw [m1_rem c1 cap12]
      refine ev_iadd dX10_plays_246 ?_
      rw [show nI (37 + (6 * (tuN g))) + nI (tyN (mN g (mB m))) = nI (37 + (6 * (tuN g)) + (tyN (mN g (mB m)))) from nI_add (37 + (6 * (tuN g))) (tyN (mN g (mB m)))]
      refine ev_istore_7 dX10_plays_247 rfl rfl ?_
      refine ev_aload_0 dX10_plays_249 ?_
      refine gf_X10_11 dX10_plays_250 hm.1 rfl ?_
      refine ev_iload_7 dX10_plays_253 ?_
      refine ev_bipush_9 dX10_plays_255 ?_
      refine ev_aload_0 dX10_plays_257 ?_
      refine gf_X10_11 dX10_plays_258 hm.1 rfl ?_
      refine ev_iload_7 dX10_plays_261 ?_
      refine ev_ldk (k := 37 + (6 * (tuN g)) + (tyN (mN g (mB m)))) hm.2.1 hg rfl (by omega) (by decide) dX10_plays_263 ?_
      rw [show g (37 + 6 * tuN g + (tyN (mN g (mB m)))) = nI (hN g (6 * tuN g + tyN (mN g (mB m)))) from by rw [Nat.add_assoc]; exact hr.2.2.1 _ hi]
      refine ev_iconst_1 dX10_plays_264 ?_
      refine ev_iadd dX10_plays_265 ?_
      rw [show nI (hN g (6 * tuN g + tyN (mN g (mB m)))) + (1 : Int32) = nI (hN g (6 * tuN g + tyN (mN g (mB m))) + 1) from nI_add (hN g (6 * tuN g + tyN (mN g (mB m)))) (1)]
      refine ev_min lk_X10_203 (Nat.le_of_ble_eq_true rfl) (Nat.le_of_ble_eq_true rfl) (Nat.le_of_ble_eq_true rfl) (Nat.zero_le _) (Nat.zero_le _) dX10_plays_266 ?_
      rw [show minR 9 (nI (hN g (6 * tuN g + tyN (mN g (mB m))) + 1)) = nI (min 9 (hN g (6 * tuN g + tyN (mN g (mB m))) + 1)) from minR_nI (a := 9) (by decide) (by omega)]
      refine ev_stk (k := 37 + (6 * (tuN g)) + (tyN (mN g (mB m)))) hm.2.1 hg rfl (by omega) (by decide) dX10_plays_269 (fun σ269 hw269 hf269 hl269 => ?_)
      have hr := hr.hand (j := 6 * tuN g + tyN (mN g (mB m))) (n := min 9 (hN g (6 * tuN g + tyN (mN g (mB m))) + 1)) (x := nI (min 9 (hN g (6 * tuN g + tyN (mN g (mB m))) + 1))) rfl hi
      rw [← Nat.add_assoc] at hr
      have hH : ∀ i, i < 12 → updN (hN g) (6 * tuN g + tyN (mN g (mB m))) (min 9 (hN g (6 * tuN g + tyN (mN g (mB m))) + 1)) i ≤ 9 := fun i hi2 => by
        have := (hG.2.2.2.1 i hi2).2
        unfold updN
        split <;> omega
      refine ev_aload_0 dX10_plays_270 ?_
      refine gf_X10_11 dX10_plays_271 hm.1 rfl ?_
      refine ev_iconst_1 dX10_plays_274 ?_
      refine ev_iload_2 dX10_plays_275 ?_
      refine ev_iadd dX10_plays_276 ?_
      rw [show (1 : Int32) + nI (mA m) = nI (1 + (mA m)) from nI_add (1) (mA m)]
      refine ev_iconst_0 dX10_plays_277 ?_
      refine ev_stk (k := 1 + (mA m)) hm.2.1 hw269 rfl (by omega) (by decide) dX10_plays_278 (fun σ278 hw278 hf278 hl278 => ?_)
      have hr := hr.put (q := mA m) (m := 0) (x := 0) rfl (by omega)
      have hM : ∀ q, q < 36 → updN (mN g) (mA m) 0 q ≤ 12 ∧ (cN g * rN g ≤ q → updN (mN g) (mA m) 0 q = 0) := fun q hq => by
        have := (hG.2.2.1 q hq).2
        unfold updN
        split
        · omega
        · exact this
      refine ev_aload_0 dX10_plays_279 ?_
      refine gf_X10_11 dX10_plays_280 hm.1 rfl ?_
      refine ev_iconst_1 dX10_plays_283 ?_
      refine ev_iload_3 dX10_plays_284 ?_
      refine ev_iadd dX10_plays_285 ?_
      rw [show (1 : Int32) + nI (mB m) = nI (1 + (mB m)) from nI_add (1) (mB m)]
      refine ev_iconst_1 dX10_plays_286 ?_
      refine ev_aload_0 dX10_plays_287 ?_
      refine ev_iload_4 dX10_plays_288 ?_
      refine ev_iload_3 dX10_plays_290 ?_
      refine ev_iload_5 dX10_plays_291 ?_
      refine cl_X10_206 (c_mArr hm hw278 (hr.okP hG hM hH) (hr.okL hG hW) (t := (tyN (mN g (mA m)))) hty (q := (mB m)) (by omega) (s := (tuN g)) htu) hm.1 dX10_plays_293 rfl (Nat.le_of_ble_eq_true rfl) ?_
      rw [hr.arr]
      refine ev_iadd dX10_plays_296 ?_
      rw [show (1 : Int32) + nI (aN g (tyN (mN g (mA m))) (tuN g) (mB m)) = nI (1 + (aN g (tyN (mN g (mA m))) (tuN g) (mB m))) from nI_add (1) (aN g (tyN (mN g (mA m))) (tuN g) (mB m))]
      refine ev_bipush_6 dX10_plays_297 ?_
      refine ev_iload_5 dX10_plays_299 ?_
      refine ev_imul dX10_plays_301 ?_
      rw [show (6 : Int32) * nI (tuN g) = nI (6 * (tuN g)) from nI_mul (6) (tuN g)]
      refine ev_iadd dX10_plays_302 ?_
      rw [show nI (1 + (aN g (tyN (mN g (mA m))) (tuN g) (mB m))) + nI (6 * (tuN g)) = nI (1 + (aN g (tyN (mN g (mA m))) (tuN g) (mB m)) + (6 * (tuN g))) from nI_add (1 + (aN g (tyN (mN g (mA m))) (tuN g) (mB m))) (6 * (tuN g))]
      refine ev_stk (k := 1 + (mB m)) hm.2.1 hw278 rfl (by omega) (by decide) dX10_plays_303 (fun σ303 hw303 hf303 hl303 => ?_)
      have hr := hr.put (q := mB m) (m := 1 + aN g (tyN (mN g (mA m))) (tuN g) (mB m) + 6 * tuN g) (x := nI (1 + (aN g (tyN (mN g (mA m))) (tuN g) (mB m)) + 6 * tuN g)) rfl (by omega)
      refine ev_aload_0 dX10_plays_304 ?_
      refine ev_iload_2 dX10_plays_305 ?_
      refine cg_X10_199 (c_mTouch hm (q := (mA m)) (by omega) (hr.tca hW) hw303) hm.1 dX10_plays_306 rfl (Nat.le_of_ble_eq_true rfl) (fun σt306 ht306 => ?_)
      obtain ⟨t1_306, t2_306, t3_306⟩ := ht306
      have hr := hr.tc ((mA m))
      refine ev_aload_0 dX10_plays_309 ?_
      refine ev_iload_3 dX10_plays_310 ?_
      refine cg_X10_199 (c_mTouch hm (q := (mB m)) (by omega) (hr.tca hW) t1_306) hm.1 dX10_plays_311 rfl (Nat.le_of_ble_eq_true rfl) (fun σt311 ht311 => ?_)
      obtain ⟨t1_311, t2_311, t3_311⟩ := ht311
      have hr := hr.tc ((mB m))
      refine ev_aload_0 dX10_plays_314 ?_
      refine gf_X10_11 dX10_plays_315 hm.1 rfl ?_
      refine ev_iconst_0 dX10_plays_318 ?_
      refine ev_iconst_1 dX10_plays_319 ?_
      refine ev_iload_5 dX10_plays_320 ?_
      refine ev_isub dX10_plays_322 ?_
      rw [show (1 : Int32) - nI (tuN g) = nI (1 - tuN g) from nI_sub (tu_le hG)]
      refine ev_stk (k := 0) hm.2.1 t1_311 rfl (by omega) (by decide) dX10_plays_323 (fun σ323 hw323 hf323 hl323 => ?_)
      refine ev_pv dX10_plays_324 ⟨hw323.trans (hr.fin hG (fun q hq => ?_) (fun i hi => ?_) (fun k hk4 => ?_)), fun j x62 => ?_, ?_⟩
      · exact congrFun ((show updN (updN (mN g) (mA m) 0) (mB m) (1 + aN g (tyN (mN g (mA m))) (tuN g) (mB m) + 6 * tuN g) = sqP g m from by rw [← arr_aN hG hm0 hk]; exact sq_man hk)) q
      · exact congrFun ((show updN (hN g) (6 * tuN g + tyN (mN g (mB m))) (min 9 (hN g (6 * tuN g + tyN (mN g (mB m))) + 1)) = hdP g m from by
          have ec : capN g m = mN g (mB m) := if_pos hk
          have e55 : clN g 55 = 1 := clN_nI (m := 1) h230 (by decide)
          by_cases y : hN g (6 * tuN g + tyN (mN g (mB m))) < 9
          · have hg9 : gainB g m = true := by unfold gainB; rw [ec, e55]; simp [c0, y]
            rw [← hd_yes hk hg9, ec, show min 9 (hN g (6 * tuN g + tyN (mN g (mB m))) + 1) = hN g (6 * tuN g + tyN (mN g (mB m))) + 1 by omega]
          · have hg9 : gainB g m = false := by unfold gainB; rw [ec]; simp [y]
            rw [← hd_no hk hg9]
            funext i
            unfold updN
            split
            · rename_i z; rw [z]; omega
            · rfl)) i
      · unfold tchB tSet; simp [hk, Bool.or_comm]
      · rw [hf323 j x62, t2_311 j x62, t2_306 j x62, hf303 j x62, hf278 j x62, hf269 j x62]
      · rw [hl323, t3_311, t3_306, hl303, hl278, hl269]
