/-- the last step of six never lands on a board of at most six -/
theorem way_more {c r : Nat} {occ : Nat → Bool} {dx dy : Int} {h q : Nat} : ∀ (n : Nat) (x y : Int) (ov : Nat), onB c r (x + n * dx) (y + n * dy) = false → wayB c r occ dx dy h (n + 1) x y ov q = wayB c r occ dx dy h n x y ov q
  | 0, x, y, ov, hb => by
    rw [wayB, wayB]
    have : onB c r x y = false := by simpa using hb
    rw [this, Bool.false_and]
  | n + 1, x, y, ov, hb => by
    rw [wayB, wayB.eq_def c r occ dx dy h (n + 1) x y ov q]
    dsimp only
    rw [way_more n (x + dx) (y + dy) _ (by
      rw [← hb]
      congr 1
      · rw [Int.natCast_add, Int.add_mul]; simp; omega
      · rw [Int.natCast_add, Int.add_mul]; simp; omega)]
theorem way65 {c r : Nat} {occ : Nat → Bool} {dx dy : Int} {h q x y : Nat} (hc : c ≤ 6) (hr : r ≤ 6) (hx : x < c) (hy : y < r) (h0 : dx ≠ 0 ∨ dy ≠ 0) : wayB c r occ dx dy h 6 ((x : Int) + dx) ((y : Int) + dy) 0 q = wayB c r occ dx dy h 5 ((x : Int) + dx) ((y : Int) + dy) 0 q := by
  refine way_more 5 _ _ 0 (decide_eq_false (fun z => ?_))
  obtain ⟨a, b, d, e⟩ := z
  have e5 : ((5 : Nat) : Int) = 5 := rfl
  rw [e5] at a b d e
  rcases h0 with h0 | h0 <;> omega
theorem mk_chk : ∀ m, m < 64 → (decide (¬ markG (nI m) &&& 1 = 0) = (decide (¬ nI m &&& 1 = 0) || decide (nI m &&& 2 = 0))) ∧ (decide (¬ markG (nI m) &&& 2 = 0) = (decide (¬ nI m &&& 2 = 0) || decide (nI m &&& 1 = 0))) ∧ hopN (markG (nI m)) = (if nI m &&& 32 = 0 then 0 else 1) := by decide +kernel
set_option maxRecDepth 100000 in
set_option maxHeartbeats 4000000 in
theorem dir_bnd : ∀ a, a < 7 → ∀ m, m < 64 → ∀ s, s < 2 → (dirL a (nI m) (nI s)).all (fun e => decide ((-3 ≤ e.1.toInt ∧ e.1.toInt ≤ 3) ∧ (-3 ≤ e.2.toInt ∧ e.2.toInt ≤ 3))) = true := by decide +kernel
theorem st_nz : ∀ st, st < 32 → sx st ≠ 0 ∨ sy st ≠ 0 := by decide +kernel
theorem st_fw : ∀ st, st < 32 → ∀ s, s < 2 → (if nI s = 0 then mSTEPY.getD st 0 else -(mSTEPY.getD st 0)).toInt = fwS s * sy st := by decide +kernel
theorem st_end : ∀ a, a < 7 → aEnd a ≤ 32 ∧ aStart a ≤ aEnd a := by decide +kernel
theorem any_dir {a m s : Nat} (ha : a < 7) (hm : m < 64) (hs : s < 2) (P : Int32 × Int32 → Bool) : (dirL a (nI m) (nI s)).any P = anyF (fun st => bt (dirM a (markG (nI m))) st && P (mSTEPX.getD st 0, if nI s = 0 then mSTEPY.getD st 0 else -(mSTEPY.getD st 0))) (aStart a) (aEnd a - aStart a) := by
  have hk := dir_chk a ha m hm s hs
  rw [Bool.and_eq_true, List.all_eq_true, List.all_eq_true] at hk
  obtain ⟨k1, k2⟩ := hk
  have mem1 : ∀ e, e ∈ dirL a (nI m) (nI s) → e ∈ clsL a (nI m) (nI s) := fun e he => by
    have := k1 e he
    simpa using this
  have mem2 : ∀ e, e ∈ clsL a (nI m) (nI s) → e ∈ dirL a (nI m) (nI s) := fun e he => by
    have := k2 e he
    simpa using this
  rw [Bool.eq_iff_iff, List.any_eq_true, anyF_iff]
  constructor
  · rintro ⟨e, he, hP⟩
    have hc := mem1 e he
    unfold clsL at hc
    rw [List.mem_map] at hc
    obtain ⟨n, hn, rfl⟩ := hc
    rw [List.mem_filter, List.mem_range] at hn
    refine ⟨aStart a + n, by omega, by omega, ?_⟩
    have h2 : bt (dirM a (markG (nI m))) (aStart a + n) = true := hn.2
    rw [h2, Bool.true_and]; exact hP
  · rintro ⟨i, h1, h2, h3⟩
    rw [Bool.and_eq_true] at h3
    refine ⟨_, mem2 _ ?_, h3.2⟩
    unfold clsL
    rw [List.mem_map]
    refine ⟨i - aStart a, ?_, ?_⟩
    · rw [List.mem_filter, List.mem_range]
      refine ⟨by omega, ?_⟩
      show bt (dirM a (markG (nI m))) (aStart a + (i - aStart a)) = true
      rw [show aStart a + (i - aStart a) = i by omega]; exact h3.1
    · rw [show aStart a + (i - aStart a) = i by omega]
def emA (g : Nat → Int32) (att : Bool) : Nat → Bool := if att then (fun _ => false) else (fun q => !(occG g q))
def otA (g : Nat → Int32) (s : Nat) (att : Bool) : Nat → Bool := if att then (fun _ => true) else (fun q => isOfG g q (1 - s))
theorem of_occ {g : Nat → Int32} {q s : Nat} (h : isOfG g q s = true) : occG g q = true := by
  obtain ⟨a, b, _⟩ := isOf_1 h
  exact decide_eq_true ⟨a, b⟩
theorem part_eq {g : Nat → Int32} (hG : wfP g) (hW : wfL g) {att qu tk : Bool} {w ms f s t j md z : Nat} (hf : f < cN g * rN g) (hs : s ≤ 1) (ht : t < 6) (hj : j < pcG g t) (hmd : md < 64) (em : g (61 + 21 * t + 3 * j) = nI md)
    (hqu : qu = decide (¬ mkG g t j &&& 1 = 0)) (htk : tk = decide (¬ mkG g t j &&& 2 = 0)) (hw : w = hopN (mkG g t j)) (hms : ms = rcG g t j ∨ (ms = 6 ∧ rcG g t j = 5)) :
    ((dirL (atG g t j) (nI md) (nI s)).any (fun e => hitD g w ms f e z) && isF g att qu tk s z) = partB (cN g) (rN g) (occG g) (emA g att) (otA g s att) (f % cN g) (f / cN g) (fwS s) (mkG g t) (dmG g t) (atG g t) (rcG g t) j z := by
  have ha := (hW.2.2.2.2.2.1 t ht j hj).2.1.2
  have hc := hG.1.2
  have hr := hG.2.1.2
  have emk : mkG g t j = markG (nI md) := by rw [mkG, em]
  have ewant : isF g att qu tk s z = wantB (mkG g t j) (emA g att) (otA g s att) z := by
    unfold isF wantB emA otA
    rw [← hqu, ← htk]
    cases att
    · show (if occG g z = true then (tk && isOfG g z (1 - s)) else qu) = ((qu && !(occG g z)) || (tk && isOfG g z (1 - s)))
      cases ho : occG g z
      · have : isOfG g z (1 - s) = false := by cases h : isOfG g z (1 - s); rfl; rw [of_occ h] at ho; cases ho
        rw [this]; simp
      · simp
    · show tk = ((qu && false) || (tk && true))
      simp
  rw [partB, ← ewant, Bool.and_comm]
  congr 1
  rw [any_dir ha hmd (by omega)]
  refine anyF_cong (fun st h1 h2 => ?_)
  obtain ⟨s1, s2⟩ := st_end _ ha
  have h32 : st < 32 := by omega
  unfold stepB hitD
  have edm : dmG g t j = dirM (atG g t j) (markG (nI md)) := by rw [dmG, emk]
  rw [edm]
  dsimp only
  rw [st_fw st h32 s (by omega), ← hw]
  congr 1
  show wayB _ _ _ (sx st) (fwS s * sy st) w ms (_ + sx st) (_ + fwS s * sy st) 0 z = _
  rcases hms with e | ⟨e1, e2⟩
  · rw [e]
  · rw [e1, e2]
    refine way65 hc.2 hr.2 (Nat.mod_lt _ (by omega)) (Nat.div_lt_of_lt_mul hf) ?_
    rcases st_nz st h32 with y | y
    · exact Or.inl y
    · refine Or.inr (fun z => y ?_)
      unfold fwS at z
      split at z <;> omega

set_option maxRecDepth 100000 in
set_option maxHeartbeats 4000000 in
theorem c_mReach0 {ae ad : Nat → Nat} {sh : mSh} {σ : mSt} (hm : mModel ad sh) {g : Nat → Int32} (hg : σ.1 62 = g) (hG : wfP g) (hW : wfL g) {f s t j : Nat} (hs : s ≤ 1) (hf : f < cN g * rN g) (ht : t < 6) (hj : j < pcG g t) : Ct yX10_reaches cX10_reaches 19 (some .long) 3 0 0 [.ref (ad 61), .int (nI (61 + 21 * t + 3 * j)), .int (nI f), .int (nI s), .int 0] ae ad sh σ (mPl ad sh (fun x σ' => x = setL (partB (cN g) (rN g) (occG g) (emA g false) (otA g s false) (f % cN g) (f / cN g) (fwS s) (mkG g t) (dmG g t) (atG g t) (rcG g t) j) ∧ frE σ σ')) := by
  refine Ct.ofL (own := RX10) (ini := false) (ls := [some (.ref (ad 61)), some (.int (nI (61 + 21 * t + 3 * j))), some (.int (nI f)), some (.int (nI s)), some (.int 0), none, none, none, none, none, none, none, none, none, none, none, none, none, none]) (by decide +kernel) rfl (fun h => by cases h) (Nat.le_of_ble_eq_true rfl) rfl ?_
  have hp6 := (hW.2.2.2.2.1 t ht).1
  obtain ⟨⟨w1, hmd⟩, ⟨w3, ha7⟩, hcd⟩ := hW.2.2.2.2.2.1 t ht j hj
  obtain ⟨md, em, hmd⟩ : ∃ md, g (61 + 21 * t + 3 * j) = nI md ∧ md < 64 := ⟨_, w1, hmd⟩
  have emk : mkG g t j = markG (nI md) := by rw [mkG, em]
  have hcd : g (63 + 21 * t + 3 * j) = -1 ∨ ∃ ec, ec ≤ 5 ∧ g (63 + 21 * t + 3 * j) = nI ec := hcd.imp id (fun z => ⟨_, z.2, z.1⟩)
  have hLb : ∀ e ∈ dirL (atG g t j) (nI md) (nI s), (-3 ≤ e.1.toInt ∧ e.1.toInt ≤ 3) ∧ (-3 ≤ e.2.toInt ∧ e.2.toInt ≤ 3) := fun e he => of_decide_eq_true (List.all_eq_true.mp (dir_bnd _ ha7 md hmd s (by omega)) e he)
  refine ev_aload_0 dX10_reaches_0 ?_
  refine ev_iload_1 dX10_reaches_1 ?_
  refine ev_iload_3 dX10_reaches_2 ?_
  refine cg_X10_169 (c_mDirs hm hg (j := 61 + 21 * t + 3 * j) (a := atG g t j) (by omega) ((congrArg g (show 61 + 21 * t + 3 * j + 1 = 62 + 21 * t + 3 * j by omega)).trans w3) ha7) hm.1 dX10_reaches_3 rfl (Nat.le_of_ble_eq_true rfl) (fun σd hd0 => ?_)
  obtain ⟨hd, hfe⟩ := hd0
  rw [em] at hd
  have znow_3 := (hfe.1 62 (by decide) (by decide) (by decide)).trans hg
  refine ev_aload_0 dX10_reaches_6 ?_
  refine gf_X10_11 dX10_reaches_7 hm.1 rfl ?_
  refine ev_iload_1 dX10_reaches_10 ?_
  refine ev_ldk (k := 61 + 21 * t + 3 * j) hm.2.1 znow_3 rfl (by omega) (by decide) dX10_reaches_11 ?_
  rw [em]
  refine ev_istore_5 dX10_reaches_12 rfl rfl ?_
  refine ev_iload_5 dX10_reaches_14 ?_
  refine ev_iconst_1 dX10_reaches_16 ?_
  refine ev_iand dX10_reaches_17 ?_
  refine ev_if_ne (tgt := 28) dX10_reaches_18 (by decide) (fun h18 => ?_) (fun h18 => ?_)
  · refine ev_iconst_1 dX10_reaches_28 ?_
    refine ev_goto (tgt := 33) dX10_reaches_29 (by decide) ?_
    refine ev_istore_6 dX10_reaches_33 rfl rfl ?_
    refine ev_iload_5 dX10_reaches_35 ?_
    refine ev_iconst_2 dX10_reaches_37 ?_
    refine ev_iand dX10_reaches_38 ?_
    refine ev_if_ne (tgt := 49) dX10_reaches_39 (by decide) (fun h39 => ?_) (fun h39 => ?_)
    · refine ev_iconst_1 dX10_reaches_49 ?_
      refine ev_goto (tgt := 54) dX10_reaches_50 (by decide) ?_
      refine ev_istore_7 dX10_reaches_54 rfl rfl ?_
      refine ev_aload_0 dX10_reaches_56 ?_
      refine gf_X10_11 dX10_reaches_57 hm.1 rfl ?_
      refine ev_iload_1 dX10_reaches_60 ?_
      refine ev_iconst_2 dX10_reaches_61 ?_
      refine ev_iadd dX10_reaches_62 ?_
      rw [show nI (61 + 21 * t + 3 * j) + (2 : Int32) = nI (61 + 21 * t + 3 * j + 2) from nI_add (61 + 21 * t + 3 * j) (2)]
      refine ev_ldk (k := 61 + 21 * t + 3 * j + 2) hm.2.1 znow_3 rfl (by omega) (by decide) dX10_reaches_63 ?_
      rw [show g (61 + 21 * t + 3 * j + 2) = g (63 + 21 * t + 3 * j) from congrArg g (by omega)]
      refine ev_iconst_m1 dX10_reaches_64 ?_
      refine ev_icmp_ne (tgt := 72) dX10_reaches_65 (by decide) (fun h65 => ?_) (fun h65 => ?_)
      · refine ev_aload_0 dX10_reaches_72 ?_
        refine gf_X10_11 dX10_reaches_73 hm.1 rfl ?_
        refine ev_iload_1 dX10_reaches_76 ?_
        refine ev_iconst_2 dX10_reaches_77 ?_
        refine ev_iadd dX10_reaches_78 ?_
        rw [show nI (61 + 21 * t + 3 * j) + (2 : Int32) = nI (61 + 21 * t + 3 * j + 2) from nI_add (61 + 21 * t + 3 * j) (2)]
        refine ev_ldk (k := 61 + 21 * t + 3 * j + 2) hm.2.1 znow_3 rfl (by omega) (by decide) dX10_reaches_79 ?_
        rw [show g (61 + 21 * t + 3 * j + 2) = g (63 + 21 * t + 3 * j) from congrArg g (by omega)]
        refine ev_if_ne (tgt := 88) dX10_reaches_80 (by decide) (fun h80 => ?_) (fun h80 => ?_)
        · obtain ⟨ec, hec, hcv⟩ := hcd.resolve_left h65
          refine ev_aload_0 dX10_reaches_88 ?_
          refine gf_X10_11 dX10_reaches_89 hm.1 rfl ?_
          refine ev_iload_1 dX10_reaches_92 ?_
          refine ev_iconst_2 dX10_reaches_93 ?_
          refine ev_iadd dX10_reaches_94 ?_
          rw [show nI (61 + 21 * t + 3 * j) + (2 : Int32) = nI (61 + 21 * t + 3 * j + 2) from nI_add (61 + 21 * t + 3 * j) (2)]
          refine ev_ldk (k := 61 + 21 * t + 3 * j + 2) hm.2.1 znow_3 rfl (by omega) (by decide) dX10_reaches_95 ?_
          rw [show g (61 + 21 * t + 3 * j + 2) = g (63 + 21 * t + 3 * j) from congrArg g (by omega), hcv]
          refine ev_istore_8 dX10_reaches_96 rfl rfl ?_
          refine ev_iload_5 dX10_reaches_98 ?_
          refine ev_bipush_32 dX10_reaches_100 ?_
          refine ev_iand dX10_reaches_102 ?_
          refine ev_if_eq (tgt := 110) dX10_reaches_103 (by decide) (fun h103 => ?_) (fun h103 => ?_)
          · refine ev_iconst_0 dX10_reaches_110 ?_
            refine ev_istore_9 dX10_reaches_111 rfl rfl ?_
            refine ev_lconst_0 dX10_reaches_113 ?_
            refine ev_lstore_10 dX10_reaches_114 rfl rfl ?_
            refine ev_iconst_0 dX10_reaches_116 ?_
            refine ev_istore_12 dX10_reaches_117 rfl rfl ?_
            have hqu : true = decide (¬ mkG g t j &&& 1 = 0) := by
              rw [emk, (mk_chk md hmd).1]
              first
              | (simp [h18]; done)
              | (simp [h18, h25]; done)
            have htk : true = decide (¬ mkG g t j &&& 2 = 0) := by
              rw [emk, (mk_chk md hmd).2.1]
              first
              | (simp [h39]; done)
              | (simp [h39, h46]; done)
            have hww : 0 = hopN (mkG g t j) := by
              rw [emk, (mk_chk md hmd).2.2]
              first
              | (rw [if_pos h103]; done)
              | (rw [if_neg h103]; done)
            exact Ev.to (by rfl) rfl rfl (c_rch0_119 hm znow_3 hG (qu := true) (tk := true) (ms := ec) (w := 0) hs (by omega) (by omega) hf hd hLb (fun acc hacc => ⟨setL_of (fun z hz => (hacc z hz).trans (part_eq hG hW hf hs ht hj hmd em hqu htk hww (Or.inl (by rw [rcG, reachG, if_neg h65, if_neg h80, hcv, nI_clamp (by omega)])))), hfe⟩) _ 0 rfl (Nat.zero_le _) 0 (fun z _ => by rw [lb_0]; rfl))
          · refine ev_iconst_1 dX10_reaches_106 ?_
            refine ev_goto (tgt := 111) dX10_reaches_107 (by decide) ?_
            refine ev_istore_9 dX10_reaches_111 rfl rfl ?_
            refine ev_lconst_0 dX10_reaches_113 ?_
            refine ev_lstore_10 dX10_reaches_114 rfl rfl ?_
            refine ev_iconst_0 dX10_reaches_116 ?_
            refine ev_istore_12 dX10_reaches_117 rfl rfl ?_
            have hqu : true = decide (¬ mkG g t j &&& 1 = 0) := by
              rw [emk, (mk_chk md hmd).1]
              first
              | (simp [h18]; done)
              | (simp [h18, h25]; done)
            have htk : true = decide (¬ mkG g t j &&& 2 = 0) := by
              rw [emk, (mk_chk md hmd).2.1]
              first
              | (simp [h39]; done)
              | (simp [h39, h46]; done)
            have hww : 1 = hopN (mkG g t j) := by
              rw [emk, (mk_chk md hmd).2.2]
              first
              | (rw [if_pos h103]; done)
              | (rw [if_neg h103]; done)
            exact Ev.to (by rfl) rfl rfl (c_rch0_119 hm znow_3 hG (qu := true) (tk := true) (ms := ec) (w := 1) hs (by omega) (by omega) hf hd hLb (fun acc hacc => ⟨setL_of (fun z hz => (hacc z hz).trans (part_eq hG hW hf hs ht hj hmd em hqu htk hww (Or.inl (by rw [rcG, reachG, if_neg h65, if_neg h80, hcv, nI_clamp (by omega)])))), hfe⟩) _ 0 rfl (Nat.zero_le _) 0 (fun z _ => by rw [lb_0]; rfl))
        · refine ev_bipush_6 dX10_reaches_83 ?_
          refine ev_goto (tgt := 96) dX10_reaches_85 (by decide) ?_
          refine ev_istore_8 dX10_reaches_96 rfl rfl ?_
          refine ev_iload_5 dX10_reaches_98 ?_
          refine ev_bipush_32 dX10_reaches_100 ?_
          refine ev_iand dX10_reaches_102 ?_
          refine ev_if_eq (tgt := 110) dX10_reaches_103 (by decide) (fun h103 => ?_) (fun h103 => ?_)
          · refine ev_iconst_0 dX10_reaches_110 ?_
            refine ev_istore_9 dX10_reaches_111 rfl rfl ?_
            refine ev_lconst_0 dX10_reaches_113 ?_
            refine ev_lstore_10 dX10_reaches_114 rfl rfl ?_
            refine ev_iconst_0 dX10_reaches_116 ?_
            refine ev_istore_12 dX10_reaches_117 rfl rfl ?_
            have hqu : true = decide (¬ mkG g t j &&& 1 = 0) := by
              rw [emk, (mk_chk md hmd).1]
              first
              | (simp [h18]; done)
              | (simp [h18, h25]; done)
            have htk : true = decide (¬ mkG g t j &&& 2 = 0) := by
              rw [emk, (mk_chk md hmd).2.1]
              first
              | (simp [h39]; done)
              | (simp [h39, h46]; done)
            have hww : 0 = hopN (mkG g t j) := by
              rw [emk, (mk_chk md hmd).2.2]
              first
              | (rw [if_pos h103]; done)
              | (rw [if_neg h103]; done)
            exact Ev.to (by rfl) rfl rfl (c_rch0_119 hm znow_3 hG (qu := true) (tk := true) (ms := 6) (w := 0) hs (by omega) (by omega) hf hd hLb (fun acc hacc => ⟨setL_of (fun z hz => (hacc z hz).trans (part_eq hG hW hf hs ht hj hmd em hqu htk hww (Or.inr ⟨rfl, by rw [rcG, reachG, if_neg h65, if_pos h80]⟩))), hfe⟩) _ 0 rfl (Nat.zero_le _) 0 (fun z _ => by rw [lb_0]; rfl))
          · refine ev_iconst_1 dX10_reaches_106 ?_
            refine ev_goto (tgt := 111) dX10_reaches_107 (by decide) ?_
            refine ev_istore_9 dX10_reaches_111 rfl rfl ?_
            refine ev_lconst_0 dX10_reaches_113 ?_
            refine ev_lstore_10 dX10_reaches_114 rfl rfl ?_
            refine ev_iconst_0 dX10_reaches_116 ?_
            refine ev_istore_12 dX10_reaches_117 rfl rfl ?_
            have hqu : true = decide (¬ mkG g t j &&& 1 = 0) := by
              rw [emk, (mk_chk md hmd).1]
              first
              | (simp [h18]; done)
              | (simp [h18, h25]; done)
            have htk : true = decide (¬ mkG g t j &&& 2 = 0) := by
              rw [emk, (mk_chk md hmd).2.1]
              first
              | (simp [h39]; done)
              | (simp [h39, h46]; done)
            have hww : 1 = hopN (mkG g t j) := by
              rw [emk, (mk_chk md hmd).2.2]
              first
              | (rw [if_pos h103]; done)
              | (rw [if_neg h103]; done)
            exact Ev.to (by rfl) rfl rfl (c_rch0_119 hm znow_3 hG (qu := true) (tk := true) (ms := 6) (w := 1) hs (by omega) (by omega) hf hd hLb (fun acc hacc => ⟨setL_of (fun z hz => (hacc z hz).trans (part_eq hG hW hf hs ht hj hmd em hqu htk hww (Or.inr ⟨rfl, by rw [rcG, reachG, if_neg h65, if_pos h80]⟩))), hfe⟩) _ 0 rfl (Nat.zero_le _) 0 (fun z _ => by rw [lb_0]; rfl))
      · refine ev_iconst_1 dX10_reaches_68 ?_
        refine ev_goto (tgt := 96) dX10_reaches_69 (by decide) ?_
        refine ev_istore_8 dX10_reaches_96 rfl rfl ?_
        refine ev_iload_5 dX10_reaches_98 ?_
        refine ev_bipush_32 dX10_reaches_100 ?_
        refine ev_iand dX10_reaches_102 ?_
        refine ev_if_eq (tgt := 110) dX10_reaches_103 (by decide) (fun h103 => ?_) (fun h103 => ?_)
        · refine ev_iconst_0 dX10_reaches_110 ?_
          refine ev_istore_9 dX10_reaches_111 rfl rfl ?_
          refine ev_lconst_0 dX10_reaches_113 ?_
          refine ev_lstore_10 dX10_reaches_114 rfl rfl ?_
          refine ev_iconst_0 dX10_reaches_116 ?_
          refine ev_istore_12 dX10_reaches_117 rfl rfl ?_
          have hqu : true = decide (¬ mkG g t j &&& 1 = 0) := by
            rw [emk, (mk_chk md hmd).1]
            first
            | (simp [h18]; done)
            | (simp [h18, h25]; done)
          have htk : true = decide (¬ mkG g t j &&& 2 = 0) := by
            rw [emk, (mk_chk md hmd).2.1]
            first
            | (simp [h39]; done)
            | (simp [h39, h46]; done)
          have hww : 0 = hopN (mkG g t j) := by
            rw [emk, (mk_chk md hmd).2.2]
            first
            | (rw [if_pos h103]; done)
            | (rw [if_neg h103]; done)
          exact Ev.to (by rfl) rfl rfl (c_rch0_119 hm znow_3 hG (qu := true) (tk := true) (ms := 1) (w := 0) hs (by omega) (by omega) hf hd hLb (fun acc hacc => ⟨setL_of (fun z hz => (hacc z hz).trans (part_eq hG hW hf hs ht hj hmd em hqu htk hww (Or.inl (by rw [rcG, reachG, if_pos h65])))), hfe⟩) _ 0 rfl (Nat.zero_le _) 0 (fun z _ => by rw [lb_0]; rfl))
        · refine ev_iconst_1 dX10_reaches_106 ?_
          refine ev_goto (tgt := 111) dX10_reaches_107 (by decide) ?_
          refine ev_istore_9 dX10_reaches_111 rfl rfl ?_
          refine ev_lconst_0 dX10_reaches_113 ?_
          refine ev_lstore_10 dX10_reaches_114 rfl rfl ?_
          refine ev_iconst_0 dX10_reaches_116 ?_
          refine ev_istore_12 dX10_reaches_117 rfl rfl ?_
          have hqu : true = decide (¬ mkG g t j &&& 1 = 0) := by
            rw [emk, (mk_chk md hmd).1]
            first
            | (simp [h18]; done)
            | (simp [h18, h25]; done)
          have htk : true = decide (¬ mkG g t j &&& 2 = 0) := by
            rw [emk, (mk_chk md hmd).2.1]
            first
            | (simp [h39]; done)
            | (simp [h39, h46]; done)
          have hww : 1 = hopN (mkG g t j) := by
            rw [emk, (mk_chk md hmd).2.2]
            first
            | (rw [if_pos h103]; done)
            | (rw [if_neg h103]; done)
          exact Ev.to (by rfl) rfl rfl (c_rch0_119 hm znow_3 hG (qu := true) (tk := true) (ms := 1) (w := 1) hs (by omega) (by omega) hf hd hLb (fun acc hacc => ⟨setL_of (fun z hz => (hacc z hz).trans (part_eq hG hW hf hs ht hj hmd em hqu htk hww (Or.inl (by rw [rcG, reachG, if_pos h65])))), hfe⟩) _ 0 rfl (Nat.zero_le _) 0 (fun z _ => by rw [lb_0]; rfl))
    · refine ev_iload_5 dX10_reaches_42 ?_
      refine ev_iconst_1 dX10_reaches_44 ?_
      refine ev_iand dX10_reaches_45 ?_
      refine ev_if_ne (tgt := 53) dX10_reaches_46 (by decide) (fun h46 => ?_) (fun h46 => ?_)
      · refine ev_iconst_0 dX10_reaches_53 ?_
        refine ev_istore_7 dX10_reaches_54 rfl rfl ?_
        refine ev_aload_0 dX10_reaches_56 ?_
        refine gf_X10_11 dX10_reaches_57 hm.1 rfl ?_
        refine ev_iload_1 dX10_reaches_60 ?_
        refine ev_iconst_2 dX10_reaches_61 ?_
        refine ev_iadd dX10_reaches_62 ?_
        rw [show nI (61 + 21 * t + 3 * j) + (2 : Int32) = nI (61 + 21 * t + 3 * j + 2) from nI_add (61 + 21 * t + 3 * j) (2)]
        refine ev_ldk (k := 61 + 21 * t + 3 * j + 2) hm.2.1 znow_3 rfl (by omega) (by decide) dX10_reaches_63 ?_
        rw [show g (61 + 21 * t + 3 * j + 2) = g (63 + 21 * t + 3 * j) from congrArg g (by omega)]
        refine ev_iconst_m1 dX10_reaches_64 ?_
        refine ev_icmp_ne (tgt := 72) dX10_reaches_65 (by decide) (fun h65 => ?_) (fun h65 => ?_)
        · refine ev_aload_0 dX10_reaches_72 ?_
          refine gf_X10_11 dX10_reaches_73 hm.1 rfl ?_
          refine ev_iload_1 dX10_reaches_76 ?_
          refine ev_iconst_2 dX10_reaches_77 ?_
          refine ev_iadd dX10_reaches_78 ?_
          rw [show nI (61 + 21 * t + 3 * j) + (2 : Int32) = nI (61 + 21 * t + 3 * j + 2) from nI_add (61 + 21 * t + 3 * j) (2)]
          refine ev_ldk (k := 61 + 21 * t + 3 * j + 2) hm.2.1 znow_3 rfl (by omega) (by decide) dX10_reaches_79 ?_
          rw [show g (61 + 21 * t + 3 * j + 2) = g (63 + 21 * t + 3 * j) from congrArg g (by omega)]
          refine ev_if_ne (tgt := 88) dX10_reaches_80 (by decide) (fun h80 => ?_) (fun h80 => ?_)
          · obtain ⟨ec, hec, hcv⟩ := hcd.resolve_left h65
            refine ev_aload_0 dX10_reaches_88 ?_
            refine gf_X10_11 dX10_reaches_89 hm.1 rfl ?_
            refine ev_iload_1 dX10_reaches_92 ?_
            refine ev_iconst_2 dX10_reaches_93 ?_
            refine ev_iadd dX10_reaches_94 ?_
            rw [show nI (61 + 21 * t + 3 * j) + (2 : Int32) = nI (61 + 21 * t + 3 * j + 2) from nI_add (61 + 21 * t + 3 * j) (2)]
            refine ev_ldk (k := 61 + 21 * t + 3 * j + 2) hm.2.1 znow_3 rfl (by omega) (by decide) dX10_reaches_95 ?_
            rw [show g (61 + 21 * t + 3 * j + 2) = g (63 + 21 * t + 3 * j) from congrArg g (by omega), hcv]
            refine ev_istore_8 dX10_reaches_96 rfl rfl ?_
            refine ev_iload_5 dX10_reaches_98 ?_
            refine ev_bipush_32 dX10_reaches_100 ?_
            refine ev_iand dX10_reaches_102 ?_
            refine ev_if_eq (tgt := 110) dX10_reaches_103 (by decide) (fun h103 => ?_) (fun h103 => ?_)
            · refine ev_iconst_0 dX10_reaches_110 ?_
              refine ev_istore_9 dX10_reaches_111 rfl rfl ?_
              refine ev_lconst_0 dX10_reaches_113 ?_
              refine ev_lstore_10 dX10_reaches_114 rfl rfl ?_
              refine ev_iconst_0 dX10_reaches_116 ?_
              refine ev_istore_12 dX10_reaches_117 rfl rfl ?_
              have hqu : true = decide (¬ mkG g t j &&& 1 = 0) := by
                rw [emk, (mk_chk md hmd).1]
                first
                | (simp [h18]; done)
                | (simp [h18, h25]; done)
              have htk : false = decide (¬ mkG g t j &&& 2 = 0) := by
                rw [emk, (mk_chk md hmd).2.1]
                first
                | (simp [h39]; done)
                | (simp [h39, h46]; done)
              have hww : 0 = hopN (mkG g t j) := by
                rw [emk, (mk_chk md hmd).2.2]
                first
                | (rw [if_pos h103]; done)
                | (rw [if_neg h103]; done)
              exact Ev.to (by rfl) rfl rfl (c_rch0_119 hm znow_3 hG (qu := true) (tk := false) (ms := ec) (w := 0) hs (by omega) (by omega) hf hd hLb (fun acc hacc => ⟨setL_of (fun z hz => (hacc z hz).trans (part_eq hG hW hf hs ht hj hmd em hqu htk hww (Or.inl (by rw [rcG, reachG, if_neg h65, if_neg h80, hcv, nI_clamp (by omega)])))), hfe⟩) _ 0 rfl (Nat.zero_le _) 0 (fun z _ => by rw [lb_0]; rfl))
            · refine ev_iconst_1 dX10_reaches_106 ?_
              refine ev_goto (tgt := 111) dX10_reaches_107 (by decide) ?_
              refine ev_istore_9 dX10_reaches_111 rfl rfl ?_
              refine ev_lconst_0 dX10_reaches_113 ?_
              refine ev_lstore_10 dX10_reaches_114 rfl rfl ?_
              refine ev_iconst_0 dX10_reaches_116 ?_
              refine ev_istore_12 dX10_reaches_117 rfl rfl ?_
              have hqu : true = decide (¬ mkG g t j &&& 1 = 0) := by
                rw [emk, (mk_chk md hmd).1]
                first
                | (simp [h18]; done)
                | (simp [h18, h25]; done)
              have htk : false = decide (¬ mkG g t j &&& 2 = 0) := by
                rw [emk, (mk_chk md hmd).2.1]
                first
                | (simp [h39]; done)
                | (simp [h39, h46]; done)
              have hww : 1 = hopN (mkG g t j) := by
                rw [emk, (mk_chk md hmd).2.2]
                first
                | (rw [if_pos h103]; done)
                | (rw [if_neg h103]; done)
              exact Ev.to (by rfl) rfl rfl (c_rch0_119 hm znow_3 hG (qu := true) (tk := false) (ms := ec) (w := 1) hs (by omega) (by omega) hf hd hLb (fun acc hacc => ⟨setL_of (fun z hz => (hacc z hz).trans (part_eq hG hW hf hs ht hj hmd em hqu htk hww (Or.inl (by rw [rcG, reachG, if_neg h65, if_neg h80, hcv, nI_clamp (by omega)])))), hfe⟩) _ 0 rfl (Nat.zero_le _) 0 (fun z _ => by rw [lb_0]; rfl))
          · refine ev_bipush_6 dX10_reaches_83 ?_
            refine ev_goto (tgt := 96) dX10_reaches_85 (by decide) ?_
            refine ev_istore_8 dX10_reaches_96 rfl rfl ?_
            refine ev_iload_5 dX10_reaches_98 ?_
            refine ev_bipush_32 dX10_reaches_100 ?_
            refine ev_iand dX10_reaches_102 ?_
            refine ev_if_eq (tgt := 110) dX10_reaches_103 (by decide) (fun h103 => ?_) (fun h103 => ?_)
            · refine ev_iconst_0 dX10_reaches_110 ?_
              refine ev_istore_9 dX10_reaches_111 rfl rfl ?_
              refine ev_lconst_0 dX10_reaches_113 ?_
              refine ev_lstore_10 dX10_reaches_114 rfl rfl ?_
              refine ev_iconst_0 dX10_reaches_116 ?_
              refine ev_istore_12 dX10_reaches_117 rfl rfl ?_
              have hqu : true = decide (¬ mkG g t j &&& 1 = 0) := by
                rw [emk, (mk_chk md hmd).1]
                first
                | (simp [h18]; done)
                | (simp [h18, h25]; done)
              have htk : false = decide (¬ mkG g t j &&& 2 = 0) := by
                rw [emk, (mk_chk md hmd).2.1]
                first
                | (simp [h39]; done)
                | (simp [h39, h46]; done)
              have hww : 0 = hopN (mkG g t j) := by
                rw [emk, (mk_chk md hmd).2.2]
                first
                | (rw [if_pos h103]; done)
                | (rw [if_neg h103]; done)
              exact Ev.to (by rfl) rfl rfl (c_rch0_119 hm znow_3 hG (qu := true) (tk := false) (ms := 6) (w := 0) hs (by omega) (by omega) hf hd hLb (fun acc hacc => ⟨setL_of (fun z hz => (hacc z hz).trans (part_eq hG hW hf hs ht hj hmd em hqu htk hww (Or.inr ⟨rfl, by rw [rcG, reachG, if_neg h65, if_pos h80]⟩))), hfe⟩) _ 0 rfl (Nat.zero_le _) 0 (fun z _ => by rw [lb_0]; rfl))
            · refine ev_iconst_1 dX10_reaches_106 ?_
              refine ev_goto (tgt := 111) dX10_reaches_107 (by decide) ?_
              refine ev_istore_9 dX10_reaches_111 rfl rfl ?_
              refine ev_lconst_0 dX10_reaches_113 ?_
              refine ev_lstore_10 dX10_reaches_114 rfl rfl ?_
              refine ev_iconst_0 dX10_reaches_116 ?_
              refine ev_istore_12 dX10_reaches_117 rfl rfl ?_
              have hqu : true = decide (¬ mkG g t j &&& 1 = 0) := by
                rw [emk, (mk_chk md hmd).1]
                first
                | (simp [h18]; done)
                | (simp [h18, h25]; done)
              have htk : false = decide (¬ mkG g t j &&& 2 = 0) := by
                rw [emk, (mk_chk md hmd).2.1]
                first
                | (simp [h39]; done)
                | (simp [h39, h46]; done)
              have hww : 1 = hopN (mkG g t j) := by
                rw [emk, (mk_chk md hmd).2.2]
                first
                | (rw [if_pos h103]; done)
                | (rw [if_neg h103]; done)
              exact Ev.to (by rfl) rfl rfl (c_rch0_119 hm znow_3 hG (qu := true) (tk := false) (ms := 6) (w := 1) hs (by omega) (by omega) hf hd hLb (fun acc hacc => ⟨setL_of (fun z hz => (hacc z hz).trans (part_eq hG hW hf hs ht hj hmd em hqu htk hww (Or.inr ⟨rfl, by rw [rcG, reachG, if_neg h65, if_pos h80]⟩))), hfe⟩) _ 0 rfl (Nat.zero_le _) 0 (fun z _ => by rw [lb_0]; rfl))
        · refine ev_iconst_1 dX10_reaches_68 ?_
          refine ev_goto (tgt := 96) dX10_reaches_69 (by decide) ?_
          refine ev_istore_8 dX10_reaches_96 rfl rfl ?_
          refine ev_iload_5 dX10_reaches_98 ?_
          refine ev_bipush_32 dX10_reaches_100 ?_
          refine ev_iand dX10_reaches_102 ?_
          refine ev_if_eq (tgt := 110) dX10_reaches_103 (by decide) (fun h103 => ?_) (fun h103 => ?_)
          · refine ev_iconst_0 dX10_reaches_110 ?_
            refine ev_istore_9 dX10_reaches_111 rfl rfl ?_
            refine ev_lconst_0 dX10_reaches_113 ?_
            refine ev_lstore_10 dX10_reaches_114 rfl rfl ?_
            refine ev_iconst_0 dX10_reaches_116 ?_
            refine ev_istore_12 dX10_reaches_117 rfl rfl ?_
            have hqu : true = decide (¬ mkG g t j &&& 1 = 0) := by
              rw [emk, (mk_chk md hmd).1]
              first
              | (simp [h18]; done)
              | (simp [h18, h25]; done)
            have htk : false = decide (¬ mkG g t j &&& 2 = 0) := by
              rw [emk, (mk_chk md hmd).2.1]
              first
              | (simp [h39]; done)
              | (simp [h39, h46]; done)
            have hww : 0 = hopN (mkG g t j) := by
              rw [emk, (mk_chk md hmd).2.2]
              first
              | (rw [if_pos h103]; done)
              | (rw [if_neg h103]; done)
            exact Ev.to (by rfl) rfl rfl (c_rch0_119 hm znow_3 hG (qu := true) (tk := false) (ms := 1) (w := 0) hs (by omega) (by omega) hf hd hLb (fun acc hacc => ⟨setL_of (fun z hz => (hacc z hz).trans (part_eq hG hW hf hs ht hj hmd em hqu htk hww (Or.inl (by rw [rcG, reachG, if_pos h65])))), hfe⟩) _ 0 rfl (Nat.zero_le _) 0 (fun z _ => by rw [lb_0]; rfl))
          · refine ev_iconst_1 dX10_reaches_106 ?_
            refine ev_goto (tgt := 111) dX10_reaches_107 (by decide) ?_
            refine ev_istore_9 dX10_reaches_111 rfl rfl ?_
            refine ev_lconst_0 dX10_reaches_113 ?_
            refine ev_lstore_10 dX10_reaches_114 rfl rfl ?_
            refine ev_iconst_0 dX10_reaches_116 ?_
            refine ev_istore_12 dX10_reaches_117 rfl rfl ?_
            have hqu : true = decide (¬ mkG g t j &&& 1 = 0) := by
              rw [emk, (mk_chk md hmd).1]
              first
              | (simp [h18]; done)
              | (simp [h18, h25]; done)
            have htk : false = decide (¬ mkG g t j &&& 2 = 0) := by
              rw [emk, (mk_chk md hmd).2.1]
              first
              | (simp [h39]; done)
              | (simp [h39, h46]; done)
            have hww : 1 = hopN (mkG g t j) := by
              rw [emk, (mk_chk md hmd).2.2]
              first
              | (rw [if_pos h103]; done)
              | (rw [if_neg h103]; done)
            exact Ev.to (by rfl) rfl rfl (c_rch0_119 hm znow_3 hG (qu := true) (tk := false) (ms := 1) (w := 1) hs (by omega) (by omega) hf hd hLb (fun acc hacc => ⟨setL_of (fun z hz => (hacc z hz).trans (part_eq hG hW hf hs ht hj hmd em hqu htk hww (Or.inl (by rw [rcG, reachG, if_pos h65])))), hfe⟩) _ 0 rfl (Nat.zero_le _) 0 (fun z _ => by rw [lb_0]; rfl))
      · refine ev_iconst_1 dX10_reaches_49 ?_
        refine ev_goto (tgt := 54) dX10_reaches_50 (by decide) ?_
        refine ev_istore_7 dX10_reaches_54 rfl rfl ?_
        refine ev_aload_0 dX10_reaches_56 ?_
        refine gf_X10_11 dX10_reaches_57 hm.1 rfl ?_
        refine ev_iload_1 dX10_reaches_60 ?_
        refine ev_iconst_2 dX10_reaches_61 ?_
        refine ev_iadd dX10_reaches_62 ?_
        rw [show nI (61 + 21 * t + 3 * j) + (2 : Int32) = nI (61 + 21 * t + 3 * j + 2) from nI_add (61 + 21 * t + 3 * j) (2)]
        refine ev_ldk (k := 61 + 21 * t + 3 * j + 2) hm.2.1 znow_3 rfl (by omega) (by decide) dX10_reaches_63 ?_
        rw [show g (61 + 21 * t + 3 * j + 2) = g (63 + 21 * t + 3 * j) from congrArg g (by omega)]
        refine ev_iconst_m1 dX10_reaches_64 ?_
        refine ev_icmp_ne (tgt := 72) dX10_reaches_65 (by decide) (fun h65 => ?_) (fun h65 => ?_)
        · refine ev_aload_0 dX10_reaches_72 ?_
          refine gf_X10_11 dX10_reaches_73 hm.1 rfl ?_
          refine ev_iload_1 dX10_reaches_76 ?_
          refine ev_iconst_2 dX10_reaches_77 ?_
          refine ev_iadd dX10_reaches_78 ?_
          rw [show nI (61 + 21 * t + 3 * j) + (2 : Int32) = nI (61 + 21 * t + 3 * j + 2) from nI_add (61 + 21 * t + 3 * j) (2)]
          refine ev_ldk (k := 61 + 21 * t + 3 * j + 2) hm.2.1 znow_3 rfl (by omega) (by decide) dX10_reaches_79 ?_
          rw [show g (61 + 21 * t + 3 * j + 2) = g (63 + 21 * t + 3 * j) from congrArg g (by omega)]
          refine ev_if_ne (tgt := 88) dX10_reaches_80 (by decide) (fun h80 => ?_) (fun h80 => ?_)
          · obtain ⟨ec, hec, hcv⟩ := hcd.resolve_left h65
            refine ev_aload_0 dX10_reaches_88 ?_
            refine gf_X10_11 dX10_reaches_89 hm.1 rfl ?_
            refine ev_iload_1 dX10_reaches_92 ?_
            refine ev_iconst_2 dX10_reaches_93 ?_
            refine ev_iadd dX10_reaches_94 ?_
            rw [show nI (61 + 21 * t + 3 * j) + (2 : Int32) = nI (61 + 21 * t + 3 * j + 2) from nI_add (61 + 21 * t + 3 * j) (2)]
            refine ev_ldk (k := 61 + 21 * t + 3 * j + 2) hm.2.1 znow_3 rfl (by omega) (by decide) dX10_reaches_95 ?_
            rw [show g (61 + 21 * t + 3 * j + 2) = g (63 + 21 * t + 3 * j) from congrArg g (by omega), hcv]
            refine ev_istore_8 dX10_reaches_96 rfl rfl ?_
            refine ev_iload_5 dX10_reaches_98 ?_
            refine ev_bipush_32 dX10_reaches_100 ?_
            refine ev_iand dX10_reaches_102 ?_
            refine ev_if_eq (tgt := 110) dX10_reaches_103 (by decide) (fun h103 => ?_) (fun h103 => ?_)
            · refine ev_iconst_0 dX10_reaches_110 ?_
              refine ev_istore_9 dX10_reaches_111 rfl rfl ?_
              refine ev_lconst_0 dX10_reaches_113 ?_
              refine ev_lstore_10 dX10_reaches_114 rfl rfl ?_
              refine ev_iconst_0 dX10_reaches_116 ?_
              refine ev_istore_12 dX10_reaches_117 rfl rfl ?_
              have hqu : true = decide (¬ mkG g t j &&& 1 = 0) := by
                rw [emk, (mk_chk md hmd).1]
                first
                | (simp [h18]; done)
                | (simp [h18, h25]; done)
              have htk : true = decide (¬ mkG g t j &&& 2 = 0) := by
                rw [emk, (mk_chk md hmd).2.1]
                first
                | (simp [h39]; done)
                | (simp [h39, h46]; done)
              have hww : 0 = hopN (mkG g t j) := by
                rw [emk, (mk_chk md hmd).2.2]
                first
                | (rw [if_pos h103]; done)
                | (rw [if_neg h103]; done)
              exact Ev.to (by rfl) rfl rfl (c_rch0_119 hm znow_3 hG (qu := true) (tk := true) (ms := ec) (w := 0) hs (by omega) (by omega) hf hd hLb (fun acc hacc => ⟨setL_of (fun z hz => (hacc z hz).trans (part_eq hG hW hf hs ht hj hmd em hqu htk hww (Or.inl (by rw [rcG, reachG, if_neg h65, if_neg h80, hcv, nI_clamp (by omega)])))), hfe⟩) _ 0 rfl (Nat.zero_le _) 0 (fun z _ => by rw [lb_0]; rfl))
            · refine ev_iconst_1 dX10_reaches_106 ?_
              refine ev_goto (tgt := 111) dX10_reaches_107 (by decide) ?_
              refine ev_istore_9 dX10_reaches_111 rfl rfl ?_
              refine ev_lconst_0 dX10_reaches_113 ?_
              refine ev_lstore_10 dX10_reaches_114 rfl rfl ?_
              refine ev_iconst_0 dX10_reaches_116 ?_
              refine ev_istore_12 dX10_reaches_117 rfl rfl ?_
              have hqu : true = decide (¬ mkG g t j &&& 1 = 0) := by
                rw [emk, (mk_chk md hmd).1]
                first
                | (simp [h18]; done)
                | (simp [h18, h25]; done)
              have htk : true = decide (¬ mkG g t j &&& 2 = 0) := by
                rw [emk, (mk_chk md hmd).2.1]
                first
                | (simp [h39]; done)
                | (simp [h39, h46]; done)
              have hww : 1 = hopN (mkG g t j) := by
                rw [emk, (mk_chk md hmd).2.2]
                first
                | (rw [if_pos h103]; done)
                | (rw [if_neg h103]; done)
              exact Ev.to (by rfl) rfl rfl (c_rch0_119 hm znow_3 hG (qu := true) (tk := true) (ms := ec) (w := 1) hs (by omega) (by omega) hf hd hLb (fun acc hacc => ⟨setL_of (fun z hz => (hacc z hz).trans (part_eq hG hW hf hs ht hj hmd em hqu htk hww (Or.inl (by rw [rcG, reachG, if_neg h65, if_neg h80, hcv, nI_clamp (by omega)])))), hfe⟩) _ 0 rfl (Nat.zero_le _) 0 (fun z _ => by rw [lb_0]; rfl))
          · refine ev_bipush_6 dX10_reaches_83 ?_
            refine ev_goto (tgt := 96) dX10_reaches_85 (by decide) ?_
            refine ev_istore_8 dX10_reaches_96 rfl rfl ?_
            refine ev_iload_5 dX10_reaches_98 ?_
            refine ev_bipush_32 dX10_reaches_100 ?_
            refine ev_iand dX10_reaches_102 ?_
            refine ev_if_eq (tgt := 110) dX10_reaches_103 (by decide) (fun h103 => ?_) (fun h103 => ?_)
            · refine ev_iconst_0 dX10_reaches_110 ?_
              refine ev_istore_9 dX10_reaches_111 rfl rfl ?_
              refine ev_lconst_0 dX10_reaches_113 ?_
              refine ev_lstore_10 dX10_reaches_114 rfl rfl ?_
              refine ev_iconst_0 dX10_reaches_116 ?_
              refine ev_istore_12 dX10_reaches_117 rfl rfl ?_
              have hqu : true = decide (¬ mkG g t j &&& 1 = 0) := by
                rw [emk, (mk_chk md hmd).1]
                first
                | (simp [h18]; done)
                | (simp [h18, h25]; done)
              have htk : true = decide (¬ mkG g t j &&& 2 = 0) := by
                rw [emk, (mk_chk md hmd).2.1]
                first
                | (simp [h39]; done)
                | (simp [h39, h46]; done)
              have hww : 0 = hopN (mkG g t j) := by
                rw [emk, (mk_chk md hmd).2.2]
                first
                | (rw [if_pos h103]; done)
                | (rw [if_neg h103]; done)
              exact Ev.to (by rfl) rfl rfl (c_rch0_119 hm znow_3 hG (qu := true) (tk := true) (ms := 6) (w := 0) hs (by omega) (by omega) hf hd hLb (fun acc hacc => ⟨setL_of (fun z hz => (hacc z hz).trans (part_eq hG hW hf hs ht hj hmd em hqu htk hww (Or.inr ⟨rfl, by rw [rcG, reachG, if_neg h65, if_pos h80]⟩))), hfe⟩) _ 0 rfl (Nat.zero_le _) 0 (fun z _ => by rw [lb_0]; rfl))
            · refine ev_iconst_1 dX10_reaches_106 ?_
              refine ev_goto (tgt := 111) dX10_reaches_107 (by decide) ?_
              refine ev_istore_9 dX10_reaches_111 rfl rfl ?_
              refine ev_lconst_0 dX10_reaches_113 ?_
              refine ev_lstore_10 dX10_reaches_114 rfl rfl ?_
              refine ev_iconst_0 dX10_reaches_116 ?_
              refine ev_istore_12 dX10_reaches_117 rfl rfl ?_
              have hqu : true = decide (¬ mkG g t j &&& 1 = 0) := by
                rw [emk, (mk_chk md hmd).1]
                first
                | (simp [h18]; done)
                | (simp [h18, h25]; done)
              have htk : true = decide (¬ mkG g t j &&& 2 = 0) := by
                rw [emk, (mk_chk md hmd).2.1]
                first
                | (simp [h39]; done)
                | (simp [h39, h46]; done)
              have hww : 1 = hopN (mkG g t j) := by
                rw [emk, (mk_chk md hmd).2.2]
                first
                | (rw [if_pos h103]; done)
                | (rw [if_neg h103]; done)
              exact Ev.to (by rfl) rfl rfl (c_rch0_119 hm znow_3 hG (qu := true) (tk := true) (ms := 6) (w := 1) hs (by omega) (by omega) hf hd hLb (fun acc hacc => ⟨setL_of (fun z hz => (hacc z hz).trans (part_eq hG hW hf hs ht hj hmd em hqu htk hww (Or.inr ⟨rfl, by rw [rcG, reachG, if_neg h65, if_pos h80]⟩))), hfe⟩) _ 0 rfl (Nat.zero_le _) 0 (fun z _ => by rw [lb_0]; rfl))
        · refine ev_iconst_1 dX10_reaches_68 ?_
          refine ev_goto (tgt := 96) dX10_reaches_69 (by decide) ?_
          refine ev_istore_8 dX10_reaches_96 rfl rfl ?_
          refine ev_iload_5 dX10_reaches_98 ?_
          refine ev_bipush_32 dX10_reaches_100 ?_
          refine ev_iand dX10_reaches_102 ?_
          refine ev_if_eq (tgt := 110) dX10_reaches_103 (by decide) (fun h103 => ?_) (fun h103 => ?_)
          · refine ev_iconst_0 dX10_reaches_110 ?_
            refine ev_istore_9 dX10_reaches_111 rfl rfl ?_
            refine ev_lconst_0 dX10_reaches_113 ?_
            refine ev_lstore_10 dX10_reaches_114 rfl rfl ?_
            refine ev_iconst_0 dX10_reaches_116 ?_
            refine ev_istore_12 dX10_reaches_117 rfl rfl ?_
            have hqu : true = decide (¬ mkG g t j &&& 1 = 0) := by
              rw [emk, (mk_chk md hmd).1]
              first
              | (simp [h18]; done)
              | (simp [h18, h25]; done)
            have htk : true = decide (¬ mkG g t j &&& 2 = 0) := by
              rw [emk, (mk_chk md hmd).2.1]
              first
              | (simp [h39]; done)
              | (simp [h39, h46]; done)
            have hww : 0 = hopN (mkG g t j) := by
              rw [emk, (mk_chk md hmd).2.2]
              first
              | (rw [if_pos h103]; done)
              | (rw [if_neg h103]; done)
            exact Ev.to (by rfl) rfl rfl (c_rch0_119 hm znow_3 hG (qu := true) (tk := true) (ms := 1) (w := 0) hs (by omega) (by omega) hf hd hLb (fun acc hacc => ⟨setL_of (fun z hz => (hacc z hz).trans (part_eq hG hW hf hs ht hj hmd em hqu htk hww (Or.inl (by rw [rcG, reachG, if_pos h65])))), hfe⟩) _ 0 rfl (Nat.zero_le _) 0 (fun z _ => by rw [lb_0]; rfl))
          · refine ev_iconst_1 dX10_reaches_106 ?_
            refine ev_goto (tgt := 111) dX10_reaches_107 (by decide) ?_
            refine ev_istore_9 dX10_reaches_111 rfl rfl ?_
            refine ev_lconst_0 dX10_reaches_113 ?_
            refine ev_lstore_10 dX10_reaches_114 rfl rfl ?_
            refine ev_iconst_0 dX10_reaches_116 ?_
            refine ev_istore_12 dX10_reaches_117 rfl rfl ?_
            have hqu : true = decide (¬ mkG g t j &&& 1 = 0) := by
              rw [emk, (mk_chk md hmd).1]
              first
              | (simp [h18]; done)
              | (simp [h18, h25]; done)
            have htk : true = decide (¬ mkG g t j &&& 2 = 0) := by
              rw [emk, (mk_chk md hmd).2.1]
              first
              | (simp [h39]; done)
              | (simp [h39, h46]; done)
            have hww : 1 = hopN (mkG g t j) := by
              rw [emk, (mk_chk md hmd).2.2]
              first
              | (rw [if_pos h103]; done)
              | (rw [if_neg h103]; done)
            exact Ev.to (by rfl) rfl rfl (c_rch0_119 hm znow_3 hG (qu := true) (tk := true) (ms := 1) (w := 1) hs (by omega) (by omega) hf hd hLb (fun acc hacc => ⟨setL_of (fun z hz => (hacc z hz).trans (part_eq hG hW hf hs ht hj hmd em hqu htk hww (Or.inl (by rw [rcG, reachG, if_pos h65])))), hfe⟩) _ 0 rfl (Nat.zero_le _) 0 (fun z _ => by rw [lb_0]; rfl))
  · refine ev_iload_5 dX10_reaches_21 ?_
    refine ev_iconst_2 dX10_reaches_23 ?_
    refine ev_iand dX10_reaches_24 ?_
    refine ev_if_ne (tgt := 32) dX10_reaches_25 (by decide) (fun h25 => ?_) (fun h25 => ?_)
    · refine ev_iconst_0 dX10_reaches_32 ?_
      refine ev_istore_6 dX10_reaches_33 rfl rfl ?_
      refine ev_iload_5 dX10_reaches_35 ?_
      refine ev_iconst_2 dX10_reaches_37 ?_
      refine ev_iand dX10_reaches_38 ?_
      refine ev_if_ne (tgt := 49) dX10_reaches_39 (by decide) (fun h39 => ?_) (fun h39 => ?_)
      · refine ev_iconst_1 dX10_reaches_49 ?_
        refine ev_goto (tgt := 54) dX10_reaches_50 (by decide) ?_
        refine ev_istore_7 dX10_reaches_54 rfl rfl ?_
        refine ev_aload_0 dX10_reaches_56 ?_
        refine gf_X10_11 dX10_reaches_57 hm.1 rfl ?_
        refine ev_iload_1 dX10_reaches_60 ?_
        refine ev_iconst_2 dX10_reaches_61 ?_
        refine ev_iadd dX10_reaches_62 ?_
        rw [show nI (61 + 21 * t + 3 * j) + (2 : Int32) = nI (61 + 21 * t + 3 * j + 2) from nI_add (61 + 21 * t + 3 * j) (2)]
        refine ev_ldk (k := 61 + 21 * t + 3 * j + 2) hm.2.1 znow_3 rfl (by omega) (by decide) dX10_reaches_63 ?_
        rw [show g (61 + 21 * t + 3 * j + 2) = g (63 + 21 * t + 3 * j) from congrArg g (by omega)]
        refine ev_iconst_m1 dX10_reaches_64 ?_
        refine ev_icmp_ne (tgt := 72) dX10_reaches_65 (by decide) (fun h65 => ?_) (fun h65 => ?_)
        · refine ev_aload_0 dX10_reaches_72 ?_
          refine gf_X10_11 dX10_reaches_73 hm.1 rfl ?_
          refine ev_iload_1 dX10_reaches_76 ?_
          refine ev_iconst_2 dX10_reaches_77 ?_
          refine ev_iadd dX10_reaches_78 ?_
          rw [show nI (61 + 21 * t + 3 * j) + (2 : Int32) = nI (61 + 21 * t + 3 * j + 2) from nI_add (61 + 21 * t + 3 * j) (2)]
          refine ev_ldk (k := 61 + 21 * t + 3 * j + 2) hm.2.1 znow_3 rfl (by omega) (by decide) dX10_reaches_79 ?_
          rw [show g (61 + 21 * t + 3 * j + 2) = g (63 + 21 * t + 3 * j) from congrArg g (by omega)]
          refine ev_if_ne (tgt := 88) dX10_reaches_80 (by decide) (fun h80 => ?_) (fun h80 => ?_)
          · obtain ⟨ec, hec, hcv⟩ := hcd.resolve_left h65
            refine ev_aload_0 dX10_reaches_88 ?_
            refine gf_X10_11 dX10_reaches_89 hm.1 rfl ?_
            refine ev_iload_1 dX10_reaches_92 ?_
            refine ev_iconst_2 dX10_reaches_93 ?_
            refine ev_iadd dX10_reaches_94 ?_
            rw [show nI (61 + 21 * t + 3 * j) + (2 : Int32) = nI (61 + 21 * t + 3 * j + 2) from nI_add (61 + 21 * t + 3 * j) (2)]
            refine ev_ldk (k := 61 + 21 * t + 3 * j + 2) hm.2.1 znow_3 rfl (by omega) (by decide) dX10_reaches_95 ?_
            rw [show g (61 + 21 * t + 3 * j + 2) = g (63 + 21 * t + 3 * j) from congrArg g (by omega), hcv]
            refine ev_istore_8 dX10_reaches_96 rfl rfl ?_
            refine ev_iload_5 dX10_reaches_98 ?_
            refine ev_bipush_32 dX10_reaches_100 ?_
            refine ev_iand dX10_reaches_102 ?_
            refine ev_if_eq (tgt := 110) dX10_reaches_103 (by decide) (fun h103 => ?_) (fun h103 => ?_)
            · refine ev_iconst_0 dX10_reaches_110 ?_
              refine ev_istore_9 dX10_reaches_111 rfl rfl ?_
              refine ev_lconst_0 dX10_reaches_113 ?_
              refine ev_lstore_10 dX10_reaches_114 rfl rfl ?_
              refine ev_iconst_0 dX10_reaches_116 ?_
              refine ev_istore_12 dX10_reaches_117 rfl rfl ?_
              have hqu : false = decide (¬ mkG g t j &&& 1 = 0) := by
                rw [emk, (mk_chk md hmd).1]
                first
                | (simp [h18]; done)
                | (simp [h18, h25]; done)
              have htk : true = decide (¬ mkG g t j &&& 2 = 0) := by
                rw [emk, (mk_chk md hmd).2.1]
                first
                | (simp [h39]; done)
                | (simp [h39, h46]; done)
              have hww : 0 = hopN (mkG g t j) := by
                rw [emk, (mk_chk md hmd).2.2]
                first
                | (rw [if_pos h103]; done)
                | (rw [if_neg h103]; done)
              exact Ev.to (by rfl) rfl rfl (c_rch0_119 hm znow_3 hG (qu := false) (tk := true) (ms := ec) (w := 0) hs (by omega) (by omega) hf hd hLb (fun acc hacc => ⟨setL_of (fun z hz => (hacc z hz).trans (part_eq hG hW hf hs ht hj hmd em hqu htk hww (Or.inl (by rw [rcG, reachG, if_neg h65, if_neg h80, hcv, nI_clamp (by omega)])))), hfe⟩) _ 0 rfl (Nat.zero_le _) 0 (fun z _ => by rw [lb_0]; rfl))
            · refine ev_iconst_1 dX10_reaches_106 ?_
              refine ev_goto (tgt := 111) dX10_reaches_107 (by decide) ?_
              refine ev_istore_9 dX10_reaches_111 rfl rfl ?_
              refine ev_lconst_0 dX10_reaches_113 ?_
              refine ev_lstore_10 dX10_reaches_114 rfl rfl ?_
              refine ev_iconst_0 dX10_reaches_116 ?_
              refine ev_istore_12 dX10_reaches_117 rfl rfl ?_
              have hqu : false = decide (¬ mkG g t j &&& 1 = 0) := by
                rw [emk, (mk_chk md hmd).1]
                first
                | (simp [h18]; done)
                | (simp [h18, h25]; done)
              have htk : true = decide (¬ mkG g t j &&& 2 = 0) := by
                rw [emk, (mk_chk md hmd).2.1]
                first
                | (simp [h39]; done)
                | (simp [h39, h46]; done)
              have hww : 1 = hopN (mkG g t j) := by
                rw [emk, (mk_chk md hmd).2.2]
                first
                | (rw [if_pos h103]; done)
                | (rw [if_neg h103]; done)
              exact Ev.to (by rfl) rfl rfl (c_rch0_119 hm znow_3 hG (qu := false) (tk := true) (ms := ec) (w := 1) hs (by omega) (by omega) hf hd hLb (fun acc hacc => ⟨setL_of (fun z hz => (hacc z hz).trans (part_eq hG hW hf hs ht hj hmd em hqu htk hww (Or.inl (by rw [rcG, reachG, if_neg h65, if_neg h80, hcv, nI_clamp (by omega)])))), hfe⟩) _ 0 rfl (Nat.zero_le _) 0 (fun z _ => by rw [lb_0]; rfl))
          · refine ev_bipush_6 dX10_reaches_83 ?_
            refine ev_goto (tgt := 96) dX10_reaches_85 (by decide) ?_
            refine ev_istore_8 dX10_reaches_96 rfl rfl ?_
            refine ev_iload_5 dX10_reaches_98 ?_
            refine ev_bipush_32 dX10_reaches_100 ?_
            refine ev_iand dX10_reaches_102 ?_
            refine ev_if_eq (tgt := 110) dX10_reaches_103 (by decide) (fun h103 => ?_) (fun h103 => ?_)
            · refine ev_iconst_0 dX10_reaches_110 ?_
              refine ev_istore_9 dX10_reaches_111 rfl rfl ?_
              refine ev_lconst_0 dX10_reaches_113 ?_
              refine ev_lstore_10 dX10_reaches_114 rfl rfl ?_
              refine ev_iconst_0 dX10_reaches_116 ?_
              refine ev_istore_12 dX10_reaches_117 rfl rfl ?_
              have hqu : false = decide (¬ mkG g t j &&& 1 = 0) := by
                rw [emk, (mk_chk md hmd).1]
                first
                | (simp [h18]; done)
                | (simp [h18, h25]; done)
              have htk : true = decide (¬ mkG g t j &&& 2 = 0) := by
                rw [emk, (mk_chk md hmd).2.1]
                first
                | (simp [h39]; done)
                | (simp [h39, h46]; done)
              have hww : 0 = hopN (mkG g t j) := by
                rw [emk, (mk_chk md hmd).2.2]
                first
                | (rw [if_pos h103]; done)
                | (rw [if_neg h103]; done)
              exact Ev.to (by rfl) rfl rfl (c_rch0_119 hm znow_3 hG (qu := false) (tk := true) (ms := 6) (w := 0) hs (by omega) (by omega) hf hd hLb (fun acc hacc => ⟨setL_of (fun z hz => (hacc z hz).trans (part_eq hG hW hf hs ht hj hmd em hqu htk hww (Or.inr ⟨rfl, by rw [rcG, reachG, if_neg h65, if_pos h80]⟩))), hfe⟩) _ 0 rfl (Nat.zero_le _) 0 (fun z _ => by rw [lb_0]; rfl))
            · refine ev_iconst_1 dX10_reaches_106 ?_
              refine ev_goto (tgt := 111) dX10_reaches_107 (by decide) ?_
              refine ev_istore_9 dX10_reaches_111 rfl rfl ?_
              refine ev_lconst_0 dX10_reaches_113 ?_
              refine ev_lstore_10 dX10_reaches_114 rfl rfl ?_
              refine ev_iconst_0 dX10_reaches_116 ?_
              refine ev_istore_12 dX10_reaches_117 rfl rfl ?_
              have hqu : false = decide (¬ mkG g t j &&& 1 = 0) := by
                rw [emk, (mk_chk md hmd).1]
                first
                | (simp [h18]; done)
                | (simp [h18, h25]; done)
              have htk : true = decide (¬ mkG g t j &&& 2 = 0) := by
                rw [emk, (mk_chk md hmd).2.1]
                first
                | (simp [h39]; done)
                | (simp [h39, h46]; done)
              have hww : 1 = hopN (mkG g t j) := by
                rw [emk, (mk_chk md hmd).2.2]
                first
                | (rw [if_pos h103]; done)
                | (rw [if_neg h103]; done)
              exact Ev.to (by rfl) rfl rfl (c_rch0_119 hm znow_3 hG (qu := false) (tk := true) (ms := 6) (w := 1) hs (by omega) (by omega) hf hd hLb (fun acc hacc => ⟨setL_of (fun z hz => (hacc z hz).trans (part_eq hG hW hf hs ht hj hmd em hqu htk hww (Or.inr ⟨rfl, by rw [rcG, reachG, if_neg h65, if_pos h80]⟩))), hfe⟩) _ 0 rfl (Nat.zero_le _) 0 (fun z _ => by rw [lb_0]; rfl))
        · refine ev_iconst_1 dX10_reaches_68 ?_
          refine ev_goto (tgt := 96) dX10_reaches_69 (by decide) ?_
          refine ev_istore_8 dX10_reaches_96 rfl rfl ?_
          refine ev_iload_5 dX10_reaches_98 ?_
          refine ev_bipush_32 dX10_reaches_100 ?_
          refine ev_iand dX10_reaches_102 ?_
          refine ev_if_eq (tgt := 110) dX10_reaches_103 (by decide) (fun h103 => ?_) (fun h103 => ?_)
          · refine ev_iconst_0 dX10_reaches_110 ?_
            refine ev_istore_9 dX10_reaches_111 rfl rfl ?_
            refine ev_lconst_0 dX10_reaches_113 ?_
            refine ev_lstore_10 dX10_reaches_114 rfl rfl ?_
            refine ev_iconst_0 dX10_reaches_116 ?_
            refine ev_istore_12 dX10_reaches_117 rfl rfl ?_
            have hqu : false = decide (¬ mkG g t j &&& 1 = 0) := by
              rw [emk, (mk_chk md hmd).1]
              first
              | (simp [h18]; done)
              | (simp [h18, h25]; done)
            have htk : true = decide (¬ mkG g t j &&& 2 = 0) := by
              rw [emk, (mk_chk md hmd).2.1]
              first
              | (simp [h39]; done)
              | (simp [h39, h46]; done)
            have hww : 0 = hopN (mkG g t j) := by
              rw [emk, (mk_chk md hmd).2.2]
              first
              | (rw [if_pos h103]; done)
              | (rw [if_neg h103]; done)
            exact Ev.to (by rfl) rfl rfl (c_rch0_119 hm znow_3 hG (qu := false) (tk := true) (ms := 1) (w := 0) hs (by omega) (by omega) hf hd hLb (fun acc hacc => ⟨setL_of (fun z hz => (hacc z hz).trans (part_eq hG hW hf hs ht hj hmd em hqu htk hww (Or.inl (by rw [rcG, reachG, if_pos h65])))), hfe⟩) _ 0 rfl (Nat.zero_le _) 0 (fun z _ => by rw [lb_0]; rfl))
          · refine ev_iconst_1 dX10_reaches_106 ?_
            refine ev_goto (tgt := 111) dX10_reaches_107 (by decide) ?_
            refine ev_istore_9 dX10_reaches_111 rfl rfl ?_
            refine ev_lconst_0 dX10_reaches_113 ?_
            refine ev_lstore_10 dX10_reaches_114 rfl rfl ?_
            refine ev_iconst_0 dX10_reaches_116 ?_
            refine ev_istore_12 dX10_reaches_117 rfl rfl ?_
            have hqu : false = decide (¬ mkG g t j &&& 1 = 0) := by
              rw [emk, (mk_chk md hmd).1]
              first
              | (simp [h18]; done)
              | (simp [h18, h25]; done)
            have htk : true = decide (¬ mkG g t j &&& 2 = 0) := by
              rw [emk, (mk_chk md hmd).2.1]
              first
              | (simp [h39]; done)
              | (simp [h39, h46]; done)
            have hww : 1 = hopN (mkG g t j) := by
              rw [emk, (mk_chk md hmd).2.2]
              first
              | (rw [if_pos h103]; done)
              | (rw [if_neg h103]; done)
            exact Ev.to (by rfl) rfl rfl (c_rch0_119 hm znow_3 hG (qu := false) (tk := true) (ms := 1) (w := 1) hs (by omega) (by omega) hf hd hLb (fun acc hacc => ⟨setL_of (fun z hz => (hacc z hz).trans (part_eq hG hW hf hs ht hj hmd em hqu htk hww (Or.inl (by rw [rcG, reachG, if_pos h65])))), hfe⟩) _ 0 rfl (Nat.zero_le _) 0 (fun z _ => by rw [lb_0]; rfl))
      · refine ev_iload_5 dX10_reaches_42 ?_
        refine ev_iconst_1 dX10_reaches_44 ?_
        refine ev_iand dX10_reaches_45 ?_
        refine ev_if_ne (tgt := 53) dX10_reaches_46 (by decide) (fun h46 => ?_) (fun h46 => ?_)
        · refine ev_iconst_0 dX10_reaches_53 ?_
          refine ev_istore_7 dX10_reaches_54 rfl rfl ?_
          refine ev_aload_0 dX10_reaches_56 ?_
          refine gf_X10_11 dX10_reaches_57 hm.1 rfl ?_
          refine ev_iload_1 dX10_reaches_60 ?_
          refine ev_iconst_2 dX10_reaches_61 ?_
          refine ev_iadd dX10_reaches_62 ?_
          rw [show nI (61 + 21 * t + 3 * j) + (2 : Int32) = nI (61 + 21 * t + 3 * j + 2) from nI_add (61 + 21 * t + 3 * j) (2)]
          refine ev_ldk (k := 61 + 21 * t + 3 * j + 2) hm.2.1 znow_3 rfl (by omega) (by decide) dX10_reaches_63 ?_
          rw [show g (61 + 21 * t + 3 * j + 2) = g (63 + 21 * t + 3 * j) from congrArg g (by omega)]
          refine ev_iconst_m1 dX10_reaches_64 ?_
          refine ev_icmp_ne (tgt := 72) dX10_reaches_65 (by decide) (fun h65 => ?_) (fun h65 => ?_)
          · refine ev_aload_0 dX10_reaches_72 ?_
            refine gf_X10_11 dX10_reaches_73 hm.1 rfl ?_
            refine ev_iload_1 dX10_reaches_76 ?_
            refine ev_iconst_2 dX10_reaches_77 ?_
            refine ev_iadd dX10_reaches_78 ?_
            rw [show nI (61 + 21 * t + 3 * j) + (2 : Int32) = nI (61 + 21 * t + 3 * j + 2) from nI_add (61 + 21 * t + 3 * j) (2)]
            refine ev_ldk (k := 61 + 21 * t + 3 * j + 2) hm.2.1 znow_3 rfl (by omega) (by decide) dX10_reaches_79 ?_
            rw [show g (61 + 21 * t + 3 * j + 2) = g (63 + 21 * t + 3 * j) from congrArg g (by omega)]
            refine ev_if_ne (tgt := 88) dX10_reaches_80 (by decide) (fun h80 => ?_) (fun h80 => ?_)
            · obtain ⟨ec, hec, hcv⟩ := hcd.resolve_left h65
              refine ev_aload_0 dX10_reaches_88 ?_
              refine gf_X10_11 dX10_reaches_89 hm.1 rfl ?_
              refine ev_iload_1 dX10_reaches_92 ?_
              refine ev_iconst_2 dX10_reaches_93 ?_
              refine ev_iadd dX10_reaches_94 ?_
              rw [show nI (61 + 21 * t + 3 * j) + (2 : Int32) = nI (61 + 21 * t + 3 * j + 2) from nI_add (61 + 21 * t + 3 * j) (2)]
              refine ev_ldk (k := 61 + 21 * t + 3 * j + 2) hm.2.1 znow_3 rfl (by omega) (by decide) dX10_reaches_95 ?_
              rw [show g (61 + 21 * t + 3 * j + 2) = g (63 + 21 * t + 3 * j) from congrArg g (by omega), hcv]
              refine ev_istore_8 dX10_reaches_96 rfl rfl ?_
              refine ev_iload_5 dX10_reaches_98 ?_
              refine ev_bipush_32 dX10_reaches_100 ?_
              refine ev_iand dX10_reaches_102 ?_
              refine ev_if_eq (tgt := 110) dX10_reaches_103 (by decide) (fun h103 => ?_) (fun h103 => ?_)
              · refine ev_iconst_0 dX10_reaches_110 ?_
                refine ev_istore_9 dX10_reaches_111 rfl rfl ?_
                refine ev_lconst_0 dX10_reaches_113 ?_
                refine ev_lstore_10 dX10_reaches_114 rfl rfl ?_
                refine ev_iconst_0 dX10_reaches_116 ?_
                refine ev_istore_12 dX10_reaches_117 rfl rfl ?_
                have hqu : false = decide (¬ mkG g t j &&& 1 = 0) := by
                  rw [emk, (mk_chk md hmd).1]
                  first
                  | (simp [h18]; done)
                  | (simp [h18, h25]; done)
                have htk : false = decide (¬ mkG g t j &&& 2 = 0) := by
                  rw [emk, (mk_chk md hmd).2.1]
                  first
                  | (simp [h39]; done)
                  | (simp [h39, h46]; done)
                have hww : 0 = hopN (mkG g t j) := by
                  rw [emk, (mk_chk md hmd).2.2]
                  first
                  | (rw [if_pos h103]; done)
                  | (rw [if_neg h103]; done)
                exact Ev.to (by rfl) rfl rfl (c_rch0_119 hm znow_3 hG (qu := false) (tk := false) (ms := ec) (w := 0) hs (by omega) (by omega) hf hd hLb (fun acc hacc => ⟨setL_of (fun z hz => (hacc z hz).trans (part_eq hG hW hf hs ht hj hmd em hqu htk hww (Or.inl (by rw [rcG, reachG, if_neg h65, if_neg h80, hcv, nI_clamp (by omega)])))), hfe⟩) _ 0 rfl (Nat.zero_le _) 0 (fun z _ => by rw [lb_0]; rfl))
              · refine ev_iconst_1 dX10_reaches_106 ?_
                refine ev_goto (tgt := 111) dX10_reaches_107 (by decide) ?_
                refine ev_istore_9 dX10_reaches_111 rfl rfl ?_
                refine ev_lconst_0 dX10_reaches_113 ?_
                refine ev_lstore_10 dX10_reaches_114 rfl rfl ?_
                refine ev_iconst_0 dX10_reaches_116 ?_
                refine ev_istore_12 dX10_reaches_117 rfl rfl ?_
                have hqu : false = decide (¬ mkG g t j &&& 1 = 0) := by
                  rw [emk, (mk_chk md hmd).1]
                  first
                  | (simp [h18]; done)
                  | (simp [h18, h25]; done)
                have htk : false = decide (¬ mkG g t j &&& 2 = 0) := by
                  rw [emk, (mk_chk md hmd).2.1]
                  first
                  | (simp [h39]; done)
                  | (simp [h39, h46]; done)
                have hww : 1 = hopN (mkG g t j) := by
                  rw [emk, (mk_chk md hmd).2.2]
                  first
                  | (rw [if_pos h103]; done)
                  | (rw [if_neg h103]; done)
                exact Ev.to (by rfl) rfl rfl (c_rch0_119 hm znow_3 hG (qu := false) (tk := false) (ms := ec) (w := 1) hs (by omega) (by omega) hf hd hLb (fun acc hacc => ⟨setL_of (fun z hz => (hacc z hz).trans (part_eq hG hW hf hs ht hj hmd em hqu htk hww (Or.inl (by rw [rcG, reachG, if_neg h65, if_neg h80, hcv, nI_clamp (by omega)])))), hfe⟩) _ 0 rfl (Nat.zero_le _) 0 (fun z _ => by rw [lb_0]; rfl))
            · refine ev_bipush_6 dX10_reaches_83 ?_
              refine ev_goto (tgt := 96) dX10_reaches_85 (by decide) ?_
              refine ev_istore_8 dX10_reaches_96 rfl rfl ?_
              refine ev_iload_5 dX10_reaches_98 ?_
              refine ev_bipush_32 dX10_reaches_100 ?_
              refine ev_iand dX10_reaches_102 ?_
              refine ev_if_eq (tgt := 110) dX10_reaches_103 (by decide) (fun h103 => ?_) (fun h103 => ?_)
              · refine ev_iconst_0 dX10_reaches_110 ?_
                refine ev_istore_9 dX10_reaches_111 rfl rfl ?_
                refine ev_lconst_0 dX10_reaches_113 ?_
                refine ev_lstore_10 dX10_reaches_114 rfl rfl ?_
                refine ev_iconst_0 dX10_reaches_116 ?_
                refine ev_istore_12 dX10_reaches_117 rfl rfl ?_
                have hqu : false = decide (¬ mkG g t j &&& 1 = 0) := by
                  rw [emk, (mk_chk md hmd).1]
                  first
                  | (simp [h18]; done)
                  | (simp [h18, h25]; done)
                have htk : false = decide (¬ mkG g t j &&& 2 = 0) := by
                  rw [emk, (mk_chk md hmd).2.1]
                  first
                  | (simp [h39]; done)
                  | (simp [h39, h46]; done)
                have hww : 0 = hopN (mkG g t j) := by
                  rw [emk, (mk_chk md hmd).2.2]
                  first
                  | (rw [if_pos h103]; done)
                  | (rw [if_neg h103]; done)
                exact Ev.to (by rfl) rfl rfl (c_rch0_119 hm znow_3 hG (qu := false) (tk := false) (ms := 6) (w := 0) hs (by omega) (by omega) hf hd hLb (fun acc hacc => ⟨setL_of (fun z hz => (hacc z hz).trans (part_eq hG hW hf hs ht hj hmd em hqu htk hww (Or.inr ⟨rfl, by rw [rcG, reachG, if_neg h65, if_pos h80]⟩))), hfe⟩) _ 0 rfl (Nat.zero_le _) 0 (fun z _ => by rw [lb_0]; rfl))
              · refine ev_iconst_1 dX10_reaches_106 ?_
                refine ev_goto (tgt := 111) dX10_reaches_107 (by decide) ?_
                refine ev_istore_9 dX10_reaches_111 rfl rfl ?_
                refine ev_lconst_0 dX10_reaches_113 ?_
                refine ev_lstore_10 dX10_reaches_114 rfl rfl ?_
                refine ev_iconst_0 dX10_reaches_116 ?_
                refine ev_istore_12 dX10_reaches_117 rfl rfl ?_
                have hqu : false = decide (¬ mkG g t j &&& 1 = 0) := by
                  rw [emk, (mk_chk md hmd).1]
                  first
                  | (simp [h18]; done)
                  | (simp [h18, h25]; done)
                have htk : false = decide (¬ mkG g t j &&& 2 = 0) := by
                  rw [emk, (mk_chk md hmd).2.1]
                  first
                  | (simp [h39]; done)
                  | (simp [h39, h46]; done)
                have hww : 1 = hopN (mkG g t j) := by
                  rw [emk, (mk_chk md hmd).2.2]
                  first
                  | (rw [if_pos h103]; done)
                  | (rw [if_neg h103]; done)
                exact Ev.to (by rfl) rfl rfl (c_rch0_119 hm znow_3 hG (qu := false) (tk := false) (ms := 6) (w := 1) hs (by omega) (by omega) hf hd hLb (fun acc hacc => ⟨setL_of (fun z hz => (hacc z hz).trans (part_eq hG hW hf hs ht hj hmd em hqu htk hww (Or.inr ⟨rfl, by rw [rcG, reachG, if_neg h65, if_pos h80]⟩))), hfe⟩) _ 0 rfl (Nat.zero_le _) 0 (fun z _ => by rw [lb_0]; rfl))
          · refine ev_iconst_1 dX10_reaches_68 ?_
            refine ev_goto (tgt := 96) dX10_reaches_69 (by decide) ?_
            refine ev_istore_8 dX10_reaches_96 rfl rfl ?_
            refine ev_iload_5 dX10_reaches_98 ?_
            refine ev_bipush_32 dX10_reaches_100 ?_
            refine ev_iand dX10_reaches_102 ?_
            refine ev_if_eq (tgt := 110) dX10_reaches_103 (by decide) (fun h103 => ?_) (fun h103 => ?_)
            · refine ev_iconst_0 dX10_reaches_110 ?_
              refine ev_istore_9 dX10_reaches_111 rfl rfl ?_
              refine ev_lconst_0 dX10_reaches_113 ?_
              refine ev_lstore_10 dX10_reaches_114 rfl rfl ?_
              refine ev_iconst_0 dX10_reaches_116 ?_
              refine ev_istore_12 dX10_reaches_117 rfl rfl ?_
              have hqu : false = decide (¬ mkG g t j &&& 1 = 0) := by
                rw [emk, (mk_chk md hmd).1]
                first
                | (simp [h18]; done)
                | (simp [h18, h25]; done)
              have htk : false = decide (¬ mkG g t j &&& 2 = 0) := by
                rw [emk, (mk_chk md hmd).2.1]
                first
                | (simp [h39]; done)
                | (simp [h39, h46]; done)
              have hww : 0 = hopN (mkG g t j) := by
                rw [emk, (mk_chk md hmd).2.2]
                first
                | (rw [if_pos h103]; done)
                | (rw [if_neg h103]; done)
              exact Ev.to (by rfl) rfl rfl (c_rch0_119 hm znow_3 hG (qu := false) (tk := false) (ms := 1) (w := 0) hs (by omega) (by omega) hf hd hLb (fun acc hacc => ⟨setL_of (fun z hz => (hacc z hz).trans (part_eq hG hW hf hs ht hj hmd em hqu htk hww (Or.inl (by rw [rcG, reachG, if_pos h65])))), hfe⟩) _ 0 rfl (Nat.zero_le _) 0 (fun z _ => by rw [lb_0]; rfl))
            · refine ev_iconst_1 dX10_reaches_106 ?_
              refine ev_goto (tgt := 111) dX10_reaches_107 (by decide) ?_
              refine ev_istore_9 dX10_reaches_111 rfl rfl ?_
              refine ev_lconst_0 dX10_reaches_113 ?_
              refine ev_lstore_10 dX10_reaches_114 rfl rfl ?_
              refine ev_iconst_0 dX10_reaches_116 ?_
              refine ev_istore_12 dX10_reaches_117 rfl rfl ?_
              have hqu : false = decide (¬ mkG g t j &&& 1 = 0) := by
                rw [emk, (mk_chk md hmd).1]
                first
                | (simp [h18]; done)
                | (simp [h18, h25]; done)
              have htk : false = decide (¬ mkG g t j &&& 2 = 0) := by
                rw [emk, (mk_chk md hmd).2.1]
                first
                | (simp [h39]; done)
                | (simp [h39, h46]; done)
              have hww : 1 = hopN (mkG g t j) := by
                rw [emk, (mk_chk md hmd).2.2]
                first
                | (rw [if_pos h103]; done)
                | (rw [if_neg h103]; done)
              exact Ev.to (by rfl) rfl rfl (c_rch0_119 hm znow_3 hG (qu := false) (tk := false) (ms := 1) (w := 1) hs (by omega) (by omega) hf hd hLb (fun acc hacc => ⟨setL_of (fun z hz => (hacc z hz).trans (part_eq hG hW hf hs ht hj hmd em hqu htk hww (Or.inl (by rw [rcG, reachG, if_pos h65])))), hfe⟩) _ 0 rfl (Nat.zero_le _) 0 (fun z _ => by rw [lb_0]; rfl))
        · refine ev_iconst_1 dX10_reaches_49 ?_
          refine ev_goto (tgt := 54) dX10_reaches_50 (by decide) ?_
          refine ev_istore_7 dX10_reaches_54 rfl rfl ?_
          refine ev_aload_0 dX10_reaches_56 ?_
          refine gf_X10_11 dX10_reaches_57 hm.1 rfl ?_
          refine ev_iload_1 dX10_reaches_60 ?_
          refine ev_iconst_2 dX10_reaches_61 ?_
          refine ev_iadd dX10_reaches_62 ?_
          rw [show nI (61 + 21 * t + 3 * j) + (2 : Int32) = nI (61 + 21 * t + 3 * j + 2) from nI_add (61 + 21 * t + 3 * j) (2)]
          refine ev_ldk (k := 61 + 21 * t + 3 * j + 2) hm.2.1 znow_3 rfl (by omega) (by decide) dX10_reaches_63 ?_
          rw [show g (61 + 21 * t + 3 * j + 2) = g (63 + 21 * t + 3 * j) from congrArg g (by omega)]
          refine ev_iconst_m1 dX10_reaches_64 ?_
          refine ev_icmp_ne (tgt := 72) dX10_reaches_65 (by decide) (fun h65 => ?_) (fun h65 => ?_)
          · refine ev_aload_0 dX10_reaches_72 ?_
            refine gf_X10_11 dX10_reaches_73 hm.1 rfl ?_
            refine ev_iload_1 dX10_reaches_76 ?_
            refine ev_iconst_2 dX10_reaches_77 ?_
            refine ev_iadd dX10_reaches_78 ?_
            rw [show nI (61 + 21 * t + 3 * j) + (2 : Int32) = nI (61 + 21 * t + 3 * j + 2) from nI_add (61 + 21 * t + 3 * j) (2)]
            refine ev_ldk (k := 61 + 21 * t + 3 * j + 2) hm.2.1 znow_3 rfl (by omega) (by decide) dX10_reaches_79 ?_
            rw [show g (61 + 21 * t + 3 * j + 2) = g (63 + 21 * t + 3 * j) from congrArg g (by omega)]
            refine ev_if_ne (tgt := 88) dX10_reaches_80 (by decide) (fun h80 => ?_) (fun h80 => ?_)
            · obtain ⟨ec, hec, hcv⟩ := hcd.resolve_left h65
              refine ev_aload_0 dX10_reaches_88 ?_
              refine gf_X10_11 dX10_reaches_89 hm.1 rfl ?_
              refine ev_iload_1 dX10_reaches_92 ?_
              refine ev_iconst_2 dX10_reaches_93 ?_
              refine ev_iadd dX10_reaches_94 ?_
              rw [show nI (61 + 21 * t + 3 * j) + (2 : Int32) = nI (61 + 21 * t + 3 * j + 2) from nI_add (61 + 21 * t + 3 * j) (2)]
              refine ev_ldk (k := 61 + 21 * t + 3 * j + 2) hm.2.1 znow_3 rfl (by omega) (by decide) dX10_reaches_95 ?_
              rw [show g (61 + 21 * t + 3 * j + 2) = g (63 + 21 * t + 3 * j) from congrArg g (by omega), hcv]
              refine ev_istore_8 dX10_reaches_96 rfl rfl ?_
              refine ev_iload_5 dX10_reaches_98 ?_
              refine ev_bipush_32 dX10_reaches_100 ?_
              refine ev_iand dX10_reaches_102 ?_
              refine ev_if_eq (tgt := 110) dX10_reaches_103 (by decide) (fun h103 => ?_) (fun h103 => ?_)
              · refine ev_iconst_0 dX10_reaches_110 ?_
                refine ev_istore_9 dX10_reaches_111 rfl rfl ?_
                refine ev_lconst_0 dX10_reaches_113 ?_
                refine ev_lstore_10 dX10_reaches_114 rfl rfl ?_
                refine ev_iconst_0 dX10_reaches_116 ?_
                refine ev_istore_12 dX10_reaches_117 rfl rfl ?_
                have hqu : false = decide (¬ mkG g t j &&& 1 = 0) := by
                  rw [emk, (mk_chk md hmd).1]
                  first
                  | (simp [h18]; done)
                  | (simp [h18, h25]; done)
                have htk : true = decide (¬ mkG g t j &&& 2 = 0) := by
                  rw [emk, (mk_chk md hmd).2.1]
                  first
                  | (simp [h39]; done)
                  | (simp [h39, h46]; done)
                have hww : 0 = hopN (mkG g t j) := by
                  rw [emk, (mk_chk md hmd).2.2]
                  first
                  | (rw [if_pos h103]; done)
                  | (rw [if_neg h103]; done)
                exact Ev.to (by rfl) rfl rfl (c_rch0_119 hm znow_3 hG (qu := false) (tk := true) (ms := ec) (w := 0) hs (by omega) (by omega) hf hd hLb (fun acc hacc => ⟨setL_of (fun z hz => (hacc z hz).trans (part_eq hG hW hf hs ht hj hmd em hqu htk hww (Or.inl (by rw [rcG, reachG, if_neg h65, if_neg h80, hcv, nI_clamp (by omega)])))), hfe⟩) _ 0 rfl (Nat.zero_le _) 0 (fun z _ => by rw [lb_0]; rfl))
              · refine ev_iconst_1 dX10_reaches_106 ?_
                refine ev_goto (tgt := 111) dX10_reaches_107 (by decide) ?_
                refine ev_istore_9 dX10_reaches_111 rfl rfl ?_
                refine ev_lconst_0 dX10_reaches_113 ?_
                refine ev_lstore_10 dX10_reaches_114 rfl rfl ?_
                refine ev_iconst_0 dX10_reaches_116 ?_
                refine ev_istore_12 dX10_reaches_117 rfl rfl ?_
                have hqu : false = decide (¬ mkG g t j &&& 1 = 0) := by
                  rw [emk, (mk_chk md hmd).1]
                  first
                  | (simp [h18]; done)
                  | (simp [h18, h25]; done)
                have htk : true = decide (¬ mkG g t j &&& 2 = 0) := by
                  rw [emk, (mk_chk md hmd).2.1]
                  first
                  | (simp [h39]; done)
                  | (simp [h39, h46]; done)
                have hww : 1 = hopN (mkG g t j) := by
                  rw [emk, (mk_chk md hmd).2.2]
                  first
                  | (rw [if_pos h103]; done)
                  | (rw [if_neg h103]; done)
                exact Ev.to (by rfl) rfl rfl (c_rch0_119 hm znow_3 hG (qu := false) (tk := true) (ms := ec) (w := 1) hs (by omega) (by omega) hf hd hLb (fun acc hacc => ⟨setL_of (fun z hz => (hacc z hz).trans (part_eq hG hW hf hs ht hj hmd em hqu htk hww (Or.inl (by rw [rcG, reachG, if_neg h65, if_neg h80, hcv, nI_clamp (by omega)])))), hfe⟩) _ 0 rfl (Nat.zero_le _) 0 (fun z _ => by rw [lb_0]; rfl))
            · refine ev_bipush_6 dX10_reaches_83 ?_
              refine ev_goto (tgt := 96) dX10_reaches_85 (by decide) ?_
              refine ev_istore_8 dX10_reaches_96 rfl rfl ?_
              refine ev_iload_5 dX10_reaches_98 ?_
              refine ev_bipush_32 dX10_reaches_100 ?_
              refine ev_iand dX10_reaches_102 ?_
              refine ev_if_eq (tgt := 110) dX10_reaches_103 (by decide) (fun h103 => ?_) (fun h103 => ?_)
              · refine ev_iconst_0 dX10_reaches_110 ?_
                refine ev_istore_9 dX10_reaches_111 rfl rfl ?_
                refine ev_lconst_0 dX10_reaches_113 ?_
                refine ev_lstore_10 dX10_reaches_114 rfl rfl ?_
                refine ev_iconst_0 dX10_reaches_116 ?_
                refine ev_istore_12 dX10_reaches_117 rfl rfl ?_
                have hqu : false = decide (¬ mkG g t j &&& 1 = 0) := by
                  rw [emk, (mk_chk md hmd).1]
                  first
                  | (simp [h18]; done)
                  | (simp [h18, h25]; done)
                have htk : true = decide (¬ mkG g t j &&& 2 = 0) := by
                  rw [emk, (mk_chk md hmd).2.1]
                  first
                  | (simp [h39]; done)
                  | (simp [h39, h46]; done)
                have hww : 0 = hopN (mkG g t j) := by
                  rw [emk, (mk_chk md hmd).2.2]
                  first
                  | (rw [if_pos h103]; done)
                  | (rw [if_neg h103]; done)
                exact Ev.to (by rfl) rfl rfl (c_rch0_119 hm znow_3 hG (qu := false) (tk := true) (ms := 6) (w := 0) hs (by omega) (by omega) hf hd hLb (fun acc hacc => ⟨setL_of (fun z hz => (hacc z hz).trans (part_eq hG hW hf hs ht hj hmd em hqu htk hww (Or.inr ⟨rfl, by rw [rcG, reachG, if_neg h65, if_pos h80]⟩))), hfe⟩) _ 0 rfl (Nat.zero_le _) 0 (fun z _ => by rw [lb_0]; rfl))
              · refine ev_iconst_1 dX10_reaches_106 ?_
                refine ev_goto (tgt := 111) dX10_reaches_107 (by decide) ?_
                refine ev_istore_9 dX10_reaches_111 rfl rfl ?_
                refine ev_lconst_0 dX10_reaches_113 ?_
                refine ev_lstore_10 dX10_reaches_114 rfl rfl ?_
                refine ev_iconst_0 dX10_reaches_116 ?_
                refine ev_istore_12 dX10_reaches_117 rfl rfl ?_
                have hqu : false = decide (¬ mkG g t j &&& 1 = 0) := by
                  rw [emk, (mk_chk md hmd).1]
                  first
                  | (simp [h18]; done)
                  | (simp [h18, h25]; done)
                have htk : true = decide (¬ mkG g t j &&& 2 = 0) := by
                  rw [emk, (mk_chk md hmd).2.1]
                  first
                  | (simp [h39]; done)
                  | (simp [h39, h46]; done)
                have hww : 1 = hopN (mkG g t j) := by
                  rw [emk, (mk_chk md hmd).2.2]
                  first
                  | (rw [if_pos h103]; done)
                  | (rw [if_neg h103]; done)
                exact Ev.to (by rfl) rfl rfl (c_rch0_119 hm znow_3 hG (qu := false) (tk := true) (ms := 6) (w := 1) hs (by omega) (by omega) hf hd hLb (fun acc hacc => ⟨setL_of (fun z hz => (hacc z hz).trans (part_eq hG hW hf hs ht hj hmd em hqu htk hww (Or.inr ⟨rfl, by rw [rcG, reachG, if_neg h65, if_pos h80]⟩))), hfe⟩) _ 0 rfl (Nat.zero_le _) 0 (fun z _ => by rw [lb_0]; rfl))
          · refine ev_iconst_1 dX10_reaches_68 ?_
            refine ev_goto (tgt := 96) dX10_reaches_69 (by decide) ?_
            refine ev_istore_8 dX10_reaches_96 rfl rfl ?_
            refine ev_iload_5 dX10_reaches_98 ?_
            refine ev_bipush_32 dX10_reaches_100 ?_
            refine ev_iand dX10_reaches_102 ?_
            refine ev_if_eq (tgt := 110) dX10_reaches_103 (by decide) (fun h103 => ?_) (fun h103 => ?_)
            · refine ev_iconst_0 dX10_reaches_110 ?_
              refine ev_istore_9 dX10_reaches_111 rfl rfl ?_
              refine ev_lconst_0 dX10_reaches_113 ?_
              refine ev_lstore_10 dX10_reaches_114 rfl rfl ?_
              refine ev_iconst_0 dX10_reaches_116 ?_
              refine ev_istore_12 dX10_reaches_117 rfl rfl ?_
              have hqu : false = decide (¬ mkG g t j &&& 1 = 0) := by
                rw [emk, (mk_chk md hmd).1]
                first
                | (simp [h18]; done)
                | (simp [h18, h25]; done)
              have htk : true = decide (¬ mkG g t j &&& 2 = 0) := by
                rw [emk, (mk_chk md hmd).2.1]
                first
                | (simp [h39]; done)
                | (simp [h39, h46]; done)
              have hww : 0 = hopN (mkG g t j) := by
                rw [emk, (mk_chk md hmd).2.2]
                first
                | (rw [if_pos h103]; done)
                | (rw [if_neg h103]; done)
              exact Ev.to (by rfl) rfl rfl (c_rch0_119 hm znow_3 hG (qu := false) (tk := true) (ms := 1) (w := 0) hs (by omega) (by omega) hf hd hLb (fun acc hacc => ⟨setL_of (fun z hz => (hacc z hz).trans (part_eq hG hW hf hs ht hj hmd em hqu htk hww (Or.inl (by rw [rcG, reachG, if_pos h65])))), hfe⟩) _ 0 rfl (Nat.zero_le _) 0 (fun z _ => by rw [lb_0]; rfl))
            · refine ev_iconst_1 dX10_reaches_106 ?_
              refine ev_goto (tgt := 111) dX10_reaches_107 (by decide) ?_
              refine ev_istore_9 dX10_reaches_111 rfl rfl ?_
              refine ev_lconst_0 dX10_reaches_113 ?_
              refine ev_lstore_10 dX10_reaches_114 rfl rfl ?_
              refine ev_iconst_0 dX10_reaches_116 ?_
              refine ev_istore_12 dX10_reaches_117 rfl rfl ?_
              have hqu : false = decide (¬ mkG g t j &&& 1 = 0) := by
                rw [emk, (mk_chk md hmd).1]
                first
                | (simp [h18]; done)
                | (simp [h18, h25]; done)
              have htk : true = decide (¬ mkG g t j &&& 2 = 0) := by
                rw [emk, (mk_chk md hmd).2.1]
                first
                | (simp [h39]; done)
                | (simp [h39, h46]; done)
              have hww : 1 = hopN (mkG g t j) := by
                rw [emk, (mk_chk md hmd).2.2]
                first
                | (rw [if_pos h103]; done)
                | (rw [if_neg h103]; done)
              exact Ev.to (by rfl) rfl rfl (c_rch0_119 hm znow_3 hG (qu := false) (tk := true) (ms := 1) (w := 1) hs (by omega) (by omega) hf hd hLb (fun acc hacc => ⟨setL_of (fun z hz => (hacc z hz).trans (part_eq hG hW hf hs ht hj hmd em hqu htk hww (Or.inl (by rw [rcG, reachG, if_pos h65])))), hfe⟩) _ 0 rfl (Nat.zero_le _) 0 (fun z _ => by rw [lb_0]; rfl))
    · refine ev_iconst_1 dX10_reaches_28 ?_
      refine ev_goto (tgt := 33) dX10_reaches_29 (by decide) ?_
      refine ev_istore_6 dX10_reaches_33 rfl rfl ?_
      refine ev_iload_5 dX10_reaches_35 ?_
      refine ev_iconst_2 dX10_reaches_37 ?_
      refine ev_iand dX10_reaches_38 ?_
      refine ev_if_ne (tgt := 49) dX10_reaches_39 (by decide) (fun h39 => ?_) (fun h39 => ?_)
      · refine ev_iconst_1 dX10_reaches_49 ?_
        refine ev_goto (tgt := 54) dX10_reaches_50 (by decide) ?_
        refine ev_istore_7 dX10_reaches_54 rfl rfl ?_
        refine ev_aload_0 dX10_reaches_56 ?_
        refine gf_X10_11 dX10_reaches_57 hm.1 rfl ?_
        refine ev_iload_1 dX10_reaches_60 ?_
        refine ev_iconst_2 dX10_reaches_61 ?_
        refine ev_iadd dX10_reaches_62 ?_
        rw [show nI (61 + 21 * t + 3 * j) + (2 : Int32) = nI (61 + 21 * t + 3 * j + 2) from nI_add (61 + 21 * t + 3 * j) (2)]
        refine ev_ldk (k := 61 + 21 * t + 3 * j + 2) hm.2.1 znow_3 rfl (by omega) (by decide) dX10_reaches_63 ?_
        rw [show g (61 + 21 * t + 3 * j + 2) = g (63 + 21 * t + 3 * j) from congrArg g (by omega)]
        refine ev_iconst_m1 dX10_reaches_64 ?_
        refine ev_icmp_ne (tgt := 72) dX10_reaches_65 (by decide) (fun h65 => ?_) (fun h65 => ?_)
        · refine ev_aload_0 dX10_reaches_72 ?_
          refine gf_X10_11 dX10_reaches_73 hm.1 rfl ?_
          refine ev_iload_1 dX10_reaches_76 ?_
          refine ev_iconst_2 dX10_reaches_77 ?_
          refine ev_iadd dX10_reaches_78 ?_
          rw [show nI (61 + 21 * t + 3 * j) + (2 : Int32) = nI (61 + 21 * t + 3 * j + 2) from nI_add (61 + 21 * t + 3 * j) (2)]
          refine ev_ldk (k := 61 + 21 * t + 3 * j + 2) hm.2.1 znow_3 rfl (by omega) (by decide) dX10_reaches_79 ?_
          rw [show g (61 + 21 * t + 3 * j + 2) = g (63 + 21 * t + 3 * j) from congrArg g (by omega)]
          refine ev_if_ne (tgt := 88) dX10_reaches_80 (by decide) (fun h80 => ?_) (fun h80 => ?_)
          · obtain ⟨ec, hec, hcv⟩ := hcd.resolve_left h65
            refine ev_aload_0 dX10_reaches_88 ?_
            refine gf_X10_11 dX10_reaches_89 hm.1 rfl ?_
            refine ev_iload_1 dX10_reaches_92 ?_
            refine ev_iconst_2 dX10_reaches_93 ?_
            refine ev_iadd dX10_reaches_94 ?_
            rw [show nI (61 + 21 * t + 3 * j) + (2 : Int32) = nI (61 + 21 * t + 3 * j + 2) from nI_add (61 + 21 * t + 3 * j) (2)]
            refine ev_ldk (k := 61 + 21 * t + 3 * j + 2) hm.2.1 znow_3 rfl (by omega) (by decide) dX10_reaches_95 ?_
            rw [show g (61 + 21 * t + 3 * j + 2) = g (63 + 21 * t + 3 * j) from congrArg g (by omega), hcv]
            refine ev_istore_8 dX10_reaches_96 rfl rfl ?_
            refine ev_iload_5 dX10_reaches_98 ?_
            refine ev_bipush_32 dX10_reaches_100 ?_
            refine ev_iand dX10_reaches_102 ?_
            refine ev_if_eq (tgt := 110) dX10_reaches_103 (by decide) (fun h103 => ?_) (fun h103 => ?_)
            · refine ev_iconst_0 dX10_reaches_110 ?_
              refine ev_istore_9 dX10_reaches_111 rfl rfl ?_
              refine ev_lconst_0 dX10_reaches_113 ?_
              refine ev_lstore_10 dX10_reaches_114 rfl rfl ?_
              refine ev_iconst_0 dX10_reaches_116 ?_
              refine ev_istore_12 dX10_reaches_117 rfl rfl ?_
              have hqu : true = decide (¬ mkG g t j &&& 1 = 0) := by
                rw [emk, (mk_chk md hmd).1]
                first
                | (simp [h18]; done)
                | (simp [h18, h25]; done)
              have htk : true = decide (¬ mkG g t j &&& 2 = 0) := by
                rw [emk, (mk_chk md hmd).2.1]
                first
                | (simp [h39]; done)
                | (simp [h39, h46]; done)
              have hww : 0 = hopN (mkG g t j) := by
                rw [emk, (mk_chk md hmd).2.2]
                first
                | (rw [if_pos h103]; done)
                | (rw [if_neg h103]; done)
              exact Ev.to (by rfl) rfl rfl (c_rch0_119 hm znow_3 hG (qu := true) (tk := true) (ms := ec) (w := 0) hs (by omega) (by omega) hf hd hLb (fun acc hacc => ⟨setL_of (fun z hz => (hacc z hz).trans (part_eq hG hW hf hs ht hj hmd em hqu htk hww (Or.inl (by rw [rcG, reachG, if_neg h65, if_neg h80, hcv, nI_clamp (by omega)])))), hfe⟩) _ 0 rfl (Nat.zero_le _) 0 (fun z _ => by rw [lb_0]; rfl))
            · refine ev_iconst_1 dX10_reaches_106 ?_
              refine ev_goto (tgt := 111) dX10_reaches_107 (by decide) ?_
              refine ev_istore_9 dX10_reaches_111 rfl rfl ?_
              refine ev_lconst_0 dX10_reaches_113 ?_
              refine ev_lstore_10 dX10_reaches_114 rfl rfl ?_
              refine ev_iconst_0 dX10_reaches_116 ?_
              refine ev_istore_12 dX10_reaches_117 rfl rfl ?_
              have hqu : true = decide (¬ mkG g t j &&& 1 = 0) := by
                rw [emk, (mk_chk md hmd).1]
                first
                | (simp [h18]; done)
                | (simp [h18, h25]; done)
              have htk : true = decide (¬ mkG g t j &&& 2 = 0) := by
                rw [emk, (mk_chk md hmd).2.1]
                first
                | (simp [h39]; done)
                | (simp [h39, h46]; done)
              have hww : 1 = hopN (mkG g t j) := by
                rw [emk, (mk_chk md hmd).2.2]
                first
                | (rw [if_pos h103]; done)
                | (rw [if_neg h103]; done)
              exact Ev.to (by rfl) rfl rfl (c_rch0_119 hm znow_3 hG (qu := true) (tk := true) (ms := ec) (w := 1) hs (by omega) (by omega) hf hd hLb (fun acc hacc => ⟨setL_of (fun z hz => (hacc z hz).trans (part_eq hG hW hf hs ht hj hmd em hqu htk hww (Or.inl (by rw [rcG, reachG, if_neg h65, if_neg h80, hcv, nI_clamp (by omega)])))), hfe⟩) _ 0 rfl (Nat.zero_le _) 0 (fun z _ => by rw [lb_0]; rfl))
          · refine ev_bipush_6 dX10_reaches_83 ?_
            refine ev_goto (tgt := 96) dX10_reaches_85 (by decide) ?_
            refine ev_istore_8 dX10_reaches_96 rfl rfl ?_
            refine ev_iload_5 dX10_reaches_98 ?_
            refine ev_bipush_32 dX10_reaches_100 ?_
            refine ev_iand dX10_reaches_102 ?_
            refine ev_if_eq (tgt := 110) dX10_reaches_103 (by decide) (fun h103 => ?_) (fun h103 => ?_)
            · refine ev_iconst_0 dX10_reaches_110 ?_
              refine ev_istore_9 dX10_reaches_111 rfl rfl ?_
              refine ev_lconst_0 dX10_reaches_113 ?_
              refine ev_lstore_10 dX10_reaches_114 rfl rfl ?_
              refine ev_iconst_0 dX10_reaches_116 ?_
              refine ev_istore_12 dX10_reaches_117 rfl rfl ?_
              have hqu : true = decide (¬ mkG g t j &&& 1 = 0) := by
                rw [emk, (mk_chk md hmd).1]
                first
                | (simp [h18]; done)
                | (simp [h18, h25]; done)
              have htk : true = decide (¬ mkG g t j &&& 2 = 0) := by
                rw [emk, (mk_chk md hmd).2.1]
                first
                | (simp [h39]; done)
                | (simp [h39, h46]; done)
              have hww : 0 = hopN (mkG g t j) := by
                rw [emk, (mk_chk md hmd).2.2]
                first
                | (rw [if_pos h103]; done)
                | (rw [if_neg h103]; done)
              exact Ev.to (by rfl) rfl rfl (c_rch0_119 hm znow_3 hG (qu := true) (tk := true) (ms := 6) (w := 0) hs (by omega) (by omega) hf hd hLb (fun acc hacc => ⟨setL_of (fun z hz => (hacc z hz).trans (part_eq hG hW hf hs ht hj hmd em hqu htk hww (Or.inr ⟨rfl, by rw [rcG, reachG, if_neg h65, if_pos h80]⟩))), hfe⟩) _ 0 rfl (Nat.zero_le _) 0 (fun z _ => by rw [lb_0]; rfl))
            · refine ev_iconst_1 dX10_reaches_106 ?_
              refine ev_goto (tgt := 111) dX10_reaches_107 (by decide) ?_
              refine ev_istore_9 dX10_reaches_111 rfl rfl ?_
              refine ev_lconst_0 dX10_reaches_113 ?_
              refine ev_lstore_10 dX10_reaches_114 rfl rfl ?_
              refine ev_iconst_0 dX10_reaches_116 ?_
              refine ev_istore_12 dX10_reaches_117 rfl rfl ?_
              have hqu : true = decide (¬ mkG g t j &&& 1 = 0) := by
                rw [emk, (mk_chk md hmd).1]
                first
                | (simp [h18]; done)
                | (simp [h18, h25]; done)
              have htk : true = decide (¬ mkG g t j &&& 2 = 0) := by
                rw [emk, (mk_chk md hmd).2.1]
                first
                | (simp [h39]; done)
                | (simp [h39, h46]; done)
              have hww : 1 = hopN (mkG g t j) := by
                rw [emk, (mk_chk md hmd).2.2]
                first
                | (rw [if_pos h103]; done)
                | (rw [if_neg h103]; done)
              exact Ev.to (by rfl) rfl rfl (c_rch0_119 hm znow_3 hG (qu := true) (tk := true) (ms := 6) (w := 1) hs (by omega) (by omega) hf hd hLb (fun acc hacc => ⟨setL_of (fun z hz => (hacc z hz).trans (part_eq hG hW hf hs ht hj hmd em hqu htk hww (Or.inr ⟨rfl, by rw [rcG, reachG, if_neg h65, if_pos h80]⟩))), hfe⟩) _ 0 rfl (Nat.zero_le _) 0 (fun z _ => by rw [lb_0]; rfl))
        · refine ev_iconst_1 dX10_reaches_68 ?_
          refine ev_goto (tgt := 96) dX10_reaches_69 (by decide) ?_
          refine ev_istore_8 dX10_reaches_96 rfl rfl ?_
          refine ev_iload_5 dX10_reaches_98 ?_
          refine ev_bipush_32 dX10_reaches_100 ?_
          refine ev_iand dX10_reaches_102 ?_
          refine ev_if_eq (tgt := 110) dX10_reaches_103 (by decide) (fun h103 => ?_) (fun h103 => ?_)
          · refine ev_iconst_0 dX10_reaches_110 ?_
            refine ev_istore_9 dX10_reaches_111 rfl rfl ?_
            refine ev_lconst_0 dX10_reaches_113 ?_
            refine ev_lstore_10 dX10_reaches_114 rfl rfl ?_
            refine ev_iconst_0 dX10_reaches_116 ?_
            refine ev_istore_12 dX10_reaches_117 rfl rfl ?_
            have hqu : true = decide (¬ mkG g t j &&& 1 = 0) := by
              rw [emk, (mk_chk md hmd).1]
              first
              | (simp [h18]; done)
              | (simp [h18, h25]; done)
            have htk : true = decide (¬ mkG g t j &&& 2 = 0) := by
              rw [emk, (mk_chk md hmd).2.1]
              first
              | (simp [h39]; done)
              | (simp [h39, h46]; done)
            have hww : 0 = hopN (mkG g t j) := by
              rw [emk, (mk_chk md hmd).2.2]
              first
              | (rw [if_pos h103]; done)
              | (rw [if_neg h103]; done)
            exact Ev.to (by rfl) rfl rfl (c_rch0_119 hm znow_3 hG (qu := true) (tk := true) (ms := 1) (w := 0) hs (by omega) (by omega) hf hd hLb (fun acc hacc => ⟨setL_of (fun z hz => (hacc z hz).trans (part_eq hG hW hf hs ht hj hmd em hqu htk hww (Or.inl (by rw [rcG, reachG, if_pos h65])))), hfe⟩) _ 0 rfl (Nat.zero_le _) 0 (fun z _ => by rw [lb_0]; rfl))
          · refine ev_iconst_1 dX10_reaches_106 ?_
            refine ev_goto (tgt := 111) dX10_reaches_107 (by decide) ?_
            refine ev_istore_9 dX10_reaches_111 rfl rfl ?_
            refine ev_lconst_0 dX10_reaches_113 ?_
            refine ev_lstore_10 dX10_reaches_114 rfl rfl ?_
            refine ev_iconst_0 dX10_reaches_116 ?_
            refine ev_istore_12 dX10_reaches_117 rfl rfl ?_
            have hqu : true = decide (¬ mkG g t j &&& 1 = 0) := by
              rw [emk, (mk_chk md hmd).1]
              first
              | (simp [h18]; done)
              | (simp [h18, h25]; done)
            have htk : true = decide (¬ mkG g t j &&& 2 = 0) := by
              rw [emk, (mk_chk md hmd).2.1]
              first
              | (simp [h39]; done)
              | (simp [h39, h46]; done)
            have hww : 1 = hopN (mkG g t j) := by
              rw [emk, (mk_chk md hmd).2.2]
              first
              | (rw [if_pos h103]; done)
              | (rw [if_neg h103]; done)
            exact Ev.to (by rfl) rfl rfl (c_rch0_119 hm znow_3 hG (qu := true) (tk := true) (ms := 1) (w := 1) hs (by omega) (by omega) hf hd hLb (fun acc hacc => ⟨setL_of (fun z hz => (hacc z hz).trans (part_eq hG hW hf hs ht hj hmd em hqu htk hww (Or.inl (by rw [rcG, reachG, if_pos h65])))), hfe⟩) _ 0 rfl (Nat.zero_le _) 0 (fun z _ => by rw [lb_0]; rfl))
      · refine ev_iload_5 dX10_reaches_42 ?_
        refine ev_iconst_1 dX10_reaches_44 ?_
        refine ev_iand dX10_reaches_45 ?_
        refine ev_if_ne (tgt := 53) dX10_reaches_46 (by decide) (fun h46 => ?_) (fun h46 => ?_)
        · refine ev_iconst_0 dX10_reaches_53 ?_
          refine ev_istore_7 dX10_reaches_54 rfl rfl ?_
          refine ev_aload_0 dX10_reaches_56 ?_
          refine gf_X10_11 dX10_reaches_57 hm.1 rfl ?_
          refine ev_iload_1 dX10_reaches_60 ?_
          refine ev_iconst_2 dX10_reaches_61 ?_
          refine ev_iadd dX10_reaches_62 ?_
          rw [show nI (61 + 21 * t + 3 * j) + (2 : Int32) = nI (61 + 21 * t + 3 * j + 2) from nI_add (61 + 21 * t + 3 * j) (2)]
          refine ev_ldk (k := 61 + 21 * t + 3 * j + 2) hm.2.1 znow_3 rfl (by omega) (by decide) dX10_reaches_63 ?_
          rw [show g (61 + 21 * t + 3 * j + 2) = g (63 + 21 * t + 3 * j) from congrArg g (by omega)]
          refine ev_iconst_m1 dX10_reaches_64 ?_
          refine ev_icmp_ne (tgt := 72) dX10_reaches_65 (by decide) (fun h65 => ?_) (fun h65 => ?_)
          · refine ev_aload_0 dX10_reaches_72 ?_
            refine gf_X10_11 dX10_reaches_73 hm.1 rfl ?_
            refine ev_iload_1 dX10_reaches_76 ?_
            refine ev_iconst_2 dX10_reaches_77 ?_
            refine ev_iadd dX10_reaches_78 ?_
            rw [show nI (61 + 21 * t + 3 * j) + (2 : Int32) = nI (61 + 21 * t + 3 * j + 2) from nI_add (61 + 21 * t + 3 * j) (2)]
            refine ev_ldk (k := 61 + 21 * t + 3 * j + 2) hm.2.1 znow_3 rfl (by omega) (by decide) dX10_reaches_79 ?_
            rw [show g (61 + 21 * t + 3 * j + 2) = g (63 + 21 * t + 3 * j) from congrArg g (by omega)]
            refine ev_if_ne (tgt := 88) dX10_reaches_80 (by decide) (fun h80 => ?_) (fun h80 => ?_)
            · obtain ⟨ec, hec, hcv⟩ := hcd.resolve_left h65
              refine ev_aload_0 dX10_reaches_88 ?_
              refine gf_X10_11 dX10_reaches_89 hm.1 rfl ?_
              refine ev_iload_1 dX10_reaches_92 ?_
              refine ev_iconst_2 dX10_reaches_93 ?_
              refine ev_iadd dX10_reaches_94 ?_
              rw [show nI (61 + 21 * t + 3 * j) + (2 : Int32) = nI (61 + 21 * t + 3 * j + 2) from nI_add (61 + 21 * t + 3 * j) (2)]
              refine ev_ldk (k := 61 + 21 * t + 3 * j + 2) hm.2.1 znow_3 rfl (by omega) (by decide) dX10_reaches_95 ?_
              rw [show g (61 + 21 * t + 3 * j + 2) = g (63 + 21 * t + 3 * j) from congrArg g (by omega), hcv]
              refine ev_istore_8 dX10_reaches_96 rfl rfl ?_
              refine ev_iload_5 dX10_reaches_98 ?_
              refine ev_bipush_32 dX10_reaches_100 ?_
              refine ev_iand dX10_reaches_102 ?_
              refine ev_if_eq (tgt := 110) dX10_reaches_103 (by decide) (fun h103 => ?_) (fun h103 => ?_)
              · refine ev_iconst_0 dX10_reaches_110 ?_
                refine ev_istore_9 dX10_reaches_111 rfl rfl ?_
                refine ev_lconst_0 dX10_reaches_113 ?_
                refine ev_lstore_10 dX10_reaches_114 rfl rfl ?_
                refine ev_iconst_0 dX10_reaches_116 ?_
                refine ev_istore_12 dX10_reaches_117 rfl rfl ?_
                have hqu : true = decide (¬ mkG g t j &&& 1 = 0) := by
                  rw [emk, (mk_chk md hmd).1]
                  first
                  | (simp [h18]; done)
                  | (simp [h18, h25]; done)
                have htk : false = decide (¬ mkG g t j &&& 2 = 0) := by
                  rw [emk, (mk_chk md hmd).2.1]
                  first
                  | (simp [h39]; done)
                  | (simp [h39, h46]; done)
                have hww : 0 = hopN (mkG g t j) := by
                  rw [emk, (mk_chk md hmd).2.2]
                  first
                  | (rw [if_pos h103]; done)
                  | (rw [if_neg h103]; done)
                exact Ev.to (by rfl) rfl rfl (c_rch0_119 hm znow_3 hG (qu := true) (tk := false) (ms := ec) (w := 0) hs (by omega) (by omega) hf hd hLb (fun acc hacc => ⟨setL_of (fun z hz => (hacc z hz).trans (part_eq hG hW hf hs ht hj hmd em hqu htk hww (Or.inl (by rw [rcG, reachG, if_neg h65, if_neg h80, hcv, nI_clamp (by omega)])))), hfe⟩) _ 0 rfl (Nat.zero_le _) 0 (fun z _ => by rw [lb_0]; rfl))
              · refine ev_iconst_1 dX10_reaches_106 ?_
                refine ev_goto (tgt := 111) dX10_reaches_107 (by decide) ?_
                refine ev_istore_9 dX10_reaches_111 rfl rfl ?_
                refine ev_lconst_0 dX10_reaches_113 ?_
                refine ev_lstore_10 dX10_reaches_114 rfl rfl ?_
                refine ev_iconst_0 dX10_reaches_116 ?_
                refine ev_istore_12 dX10_reaches_117 rfl rfl ?_
                have hqu : true = decide (¬ mkG g t j &&& 1 = 0) := by
                  rw [emk, (mk_chk md hmd).1]
                  first
                  | (simp [h18]; done)
                  | (simp [h18, h25]; done)
                have htk : false = decide (¬ mkG g t j &&& 2 = 0) := by
                  rw [emk, (mk_chk md hmd).2.1]
                  first
                  | (simp [h39]; done)
                  | (simp [h39, h46]; done)
                have hww : 1 = hopN (mkG g t j) := by
                  rw [emk, (mk_chk md hmd).2.2]
                  first
                  | (rw [if_pos h103]; done)
                  | (rw [if_neg h103]; done)
                exact Ev.to (by rfl) rfl rfl (c_rch0_119 hm znow_3 hG (qu := true) (tk := false) (ms := ec) (w := 1) hs (by omega) (by omega) hf hd hLb (fun acc hacc => ⟨setL_of (fun z hz => (hacc z hz).trans (part_eq hG hW hf hs ht hj hmd em hqu htk hww (Or.inl (by rw [rcG, reachG, if_neg h65, if_neg h80, hcv, nI_clamp (by omega)])))), hfe⟩) _ 0 rfl (Nat.zero_le _) 0 (fun z _ => by rw [lb_0]; rfl))
            · refine ev_bipush_6 dX10_reaches_83 ?_
              refine ev_goto (tgt := 96) dX10_reaches_85 (by decide) ?_
              refine ev_istore_8 dX10_reaches_96 rfl rfl ?_
              refine ev_iload_5 dX10_reaches_98 ?_
              refine ev_bipush_32 dX10_reaches_100 ?_
              refine ev_iand dX10_reaches_102 ?_
              refine ev_if_eq (tgt := 110) dX10_reaches_103 (by decide) (fun h103 => ?_) (fun h103 => ?_)
              · refine ev_iconst_0 dX10_reaches_110 ?_
                refine ev_istore_9 dX10_reaches_111 rfl rfl ?_
                refine ev_lconst_0 dX10_reaches_113 ?_
                refine ev_lstore_10 dX10_reaches_114 rfl rfl ?_
                refine ev_iconst_0 dX10_reaches_116 ?_
                refine ev_istore_12 dX10_reaches_117 rfl rfl ?_
                have hqu : true = decide (¬ mkG g t j &&& 1 = 0) := by
                  rw [emk, (mk_chk md hmd).1]
                  first
                  | (simp [h18]; done)
                  | (simp [h18, h25]; done)
                have htk : false = decide (¬ mkG g t j &&& 2 = 0) := by
                  rw [emk, (mk_chk md hmd).2.1]
                  first
                  | (simp [h39]; done)
                  | (simp [h39, h46]; done)
                have hww : 0 = hopN (mkG g t j) := by
                  rw [emk, (mk_chk md hmd).2.2]
                  first
                  | (rw [if_pos h103]; done)
                  | (rw [if_neg h103]; done)
                exact Ev.to (by rfl) rfl rfl (c_rch0_119 hm znow_3 hG (qu := true) (tk := false) (ms := 6) (w := 0) hs (by omega) (by omega) hf hd hLb (fun acc hacc => ⟨setL_of (fun z hz => (hacc z hz).trans (part_eq hG hW hf hs ht hj hmd em hqu htk hww (Or.inr ⟨rfl, by rw [rcG, reachG, if_neg h65, if_pos h80]⟩))), hfe⟩) _ 0 rfl (Nat.zero_le _) 0 (fun z _ => by rw [lb_0]; rfl))
              · refine ev_iconst_1 dX10_reaches_106 ?_
                refine ev_goto (tgt := 111) dX10_reaches_107 (by decide) ?_
                refine ev_istore_9 dX10_reaches_111 rfl rfl ?_
                refine ev_lconst_0 dX10_reaches_113 ?_
                refine ev_lstore_10 dX10_reaches_114 rfl rfl ?_
                refine ev_iconst_0 dX10_reaches_116 ?_
                refine ev_istore_12 dX10_reaches_117 rfl rfl ?_
                have hqu : true = decide (¬ mkG g t j &&& 1 = 0) := by
                  rw [emk, (mk_chk md hmd).1]
                  first
                  | (simp [h18]; done)
                  | (simp [h18, h25]; done)
                have htk : false = decide (¬ mkG g t j &&& 2 = 0) := by
                  rw [emk, (mk_chk md hmd).2.1]
                  first
                  | (simp [h39]; done)
                  | (simp [h39, h46]; done)
                have hww : 1 = hopN (mkG g t j) := by
                  rw [emk, (mk_chk md hmd).2.2]
                  first
                  | (rw [if_pos h103]; done)
                  | (rw [if_neg h103]; done)
                exact Ev.to (by rfl) rfl rfl (c_rch0_119 hm znow_3 hG (qu := true) (tk := false) (ms := 6) (w := 1) hs (by omega) (by omega) hf hd hLb (fun acc hacc => ⟨setL_of (fun z hz => (hacc z hz).trans (part_eq hG hW hf hs ht hj hmd em hqu htk hww (Or.inr ⟨rfl, by rw [rcG, reachG, if_neg h65, if_pos h80]⟩))), hfe⟩) _ 0 rfl (Nat.zero_le _) 0 (fun z _ => by rw [lb_0]; rfl))
          · refine ev_iconst_1 dX10_reaches_68 ?_
            refine ev_goto (tgt := 96) dX10_reaches_69 (by decide) ?_
            refine ev_istore_8 dX10_reaches_96 rfl rfl ?_
            refine ev_iload_5 dX10_reaches_98 ?_
            refine ev_bipush_32 dX10_reaches_100 ?_
            refine ev_iand dX10_reaches_102 ?_
            refine ev_if_eq (tgt := 110) dX10_reaches_103 (by decide) (fun h103 => ?_) (fun h103 => ?_)
            · refine ev_iconst_0 dX10_reaches_110 ?_
              refine ev_istore_9 dX10_reaches_111 rfl rfl ?_
              refine ev_lconst_0 dX10_reaches_113 ?_
              refine ev_lstore_10 dX10_reaches_114 rfl rfl ?_
              refine ev_iconst_0 dX10_reaches_116 ?_
              refine ev_istore_12 dX10_reaches_117 rfl rfl ?_
              have hqu : true = decide (¬ mkG g t j &&& 1 = 0) := by
                rw [emk, (mk_chk md hmd).1]
                first
                | (simp [h18]; done)
                | (simp [h18, h25]; done)
              have htk : false = decide (¬ mkG g t j &&& 2 = 0) := by
                rw [emk, (mk_chk md hmd).2.1]
                first
                | (simp [h39]; done)
                | (simp [h39, h46]; done)
              have hww : 0 = hopN (mkG g t j) := by
                rw [emk, (mk_chk md hmd).2.2]
                first
                | (rw [if_pos h103]; done)
                | (rw [if_neg h103]; done)
              exact Ev.to (by rfl) rfl rfl (c_rch0_119 hm znow_3 hG (qu := true) (tk := false) (ms := 1) (w := 0) hs (by omega) (by omega) hf hd hLb (fun acc hacc => ⟨setL_of (fun z hz => (hacc z hz).trans (part_eq hG hW hf hs ht hj hmd em hqu htk hww (Or.inl (by rw [rcG, reachG, if_pos h65])))), hfe⟩) _ 0 rfl (Nat.zero_le _) 0 (fun z _ => by rw [lb_0]; rfl))
            · refine ev_iconst_1 dX10_reaches_106 ?_
              refine ev_goto (tgt := 111) dX10_reaches_107 (by decide) ?_
              refine ev_istore_9 dX10_reaches_111 rfl rfl ?_
              refine ev_lconst_0 dX10_reaches_113 ?_
              refine ev_lstore_10 dX10_reaches_114 rfl rfl ?_
              refine ev_iconst_0 dX10_reaches_116 ?_
              refine ev_istore_12 dX10_reaches_117 rfl rfl ?_
              have hqu : true = decide (¬ mkG g t j &&& 1 = 0) := by
                rw [emk, (mk_chk md hmd).1]
                first
                | (simp [h18]; done)
                | (simp [h18, h25]; done)
              have htk : false = decide (¬ mkG g t j &&& 2 = 0) := by
                rw [emk, (mk_chk md hmd).2.1]
                first
                | (simp [h39]; done)
                | (simp [h39, h46]; done)
              have hww : 1 = hopN (mkG g t j) := by
                rw [emk, (mk_chk md hmd).2.2]
                first
                | (rw [if_pos h103]; done)
                | (rw [if_neg h103]; done)
              exact Ev.to (by rfl) rfl rfl (c_rch0_119 hm znow_3 hG (qu := true) (tk := false) (ms := 1) (w := 1) hs (by omega) (by omega) hf hd hLb (fun acc hacc => ⟨setL_of (fun z hz => (hacc z hz).trans (part_eq hG hW hf hs ht hj hmd em hqu htk hww (Or.inl (by rw [rcG, reachG, if_pos h65])))), hfe⟩) _ 0 rfl (Nat.zero_le _) 0 (fun z _ => by rw [lb_0]; rfl))
        · refine ev_iconst_1 dX10_reaches_49 ?_
          refine ev_goto (tgt := 54) dX10_reaches_50 (by decide) ?_
          refine ev_istore_7 dX10_reaches_54 rfl rfl ?_
          refine ev_aload_0 dX10_reaches_56 ?_
          refine gf_X10_11 dX10_reaches_57 hm.1 rfl ?_
          refine ev_iload_1 dX10_reaches_60 ?_
          refine ev_iconst_2 dX10_reaches_61 ?_
          refine ev_iadd dX10_reaches_62 ?_
          rw [show nI (61 + 21 * t + 3 * j) + (2 : Int32) = nI (61 + 21 * t + 3 * j + 2) from nI_add (61 + 21 * t + 3 * j) (2)]
          refine ev_ldk (k := 61 + 21 * t + 3 * j + 2) hm.2.1 znow_3 rfl (by omega) (by decide) dX10_reaches_63 ?_
          rw [show g (61 + 21 * t + 3 * j + 2) = g (63 + 21 * t + 3 * j) from congrArg g (by omega)]
          refine ev_iconst_m1 dX10_reaches_64 ?_
          refine ev_icmp_ne (tgt := 72) dX10_reaches_65 (by decide) (fun h65 => ?_) (fun h65 => ?_)
          · refine ev_aload_0 dX10_reaches_72 ?_
            refine gf_X10_11 dX10_reaches_73 hm.1 rfl ?_
            refine ev_iload_1 dX10_reaches_76 ?_
            refine ev_iconst_2 dX10_reaches_77 ?_
            refine ev_iadd dX10_reaches_78 ?_
            rw [show nI (61 + 21 * t + 3 * j) + (2 : Int32) = nI (61 + 21 * t + 3 * j + 2) from nI_add (61 + 21 * t + 3 * j) (2)]
            refine ev_ldk (k := 61 + 21 * t + 3 * j + 2) hm.2.1 znow_3 rfl (by omega) (by decide) dX10_reaches_79 ?_
            rw [show g (61 + 21 * t + 3 * j + 2) = g (63 + 21 * t + 3 * j) from congrArg g (by omega)]
            refine ev_if_ne (tgt := 88) dX10_reaches_80 (by decide) (fun h80 => ?_) (fun h80 => ?_)
            · obtain ⟨ec, hec, hcv⟩ := hcd.resolve_left h65
              refine ev_aload_0 dX10_reaches_88 ?_
              refine gf_X10_11 dX10_reaches_89 hm.1 rfl ?_
              refine ev_iload_1 dX10_reaches_92 ?_
              refine ev_iconst_2 dX10_reaches_93 ?_
              refine ev_iadd dX10_reaches_94 ?_
              rw [show nI (61 + 21 * t + 3 * j) + (2 : Int32) = nI (61 + 21 * t + 3 * j + 2) from nI_add (61 + 21 * t + 3 * j) (2)]
              refine ev_ldk (k := 61 + 21 * t + 3 * j + 2) hm.2.1 znow_3 rfl (by omega) (by decide) dX10_reaches_95 ?_
              rw [show g (61 + 21 * t + 3 * j + 2) = g (63 + 21 * t + 3 * j) from congrArg g (by omega), hcv]
              refine ev_istore_8 dX10_reaches_96 rfl rfl ?_
              refine ev_iload_5 dX10_reaches_98 ?_
              refine ev_bipush_32 dX10_reaches_100 ?_
              refine ev_iand dX10_reaches_102 ?_
              refine ev_if_eq (tgt := 110) dX10_reaches_103 (by decide) (fun h103 => ?_) (fun h103 => ?_)
              · refine ev_iconst_0 dX10_reaches_110 ?_
                refine ev_istore_9 dX10_reaches_111 rfl rfl ?_
                refine ev_lconst_0 dX10_reaches_113 ?_
                refine ev_lstore_10 dX10_reaches_114 rfl rfl ?_
                refine ev_iconst_0 dX10_reaches_116 ?_
                refine ev_istore_12 dX10_reaches_117 rfl rfl ?_
                have hqu : true = decide (¬ mkG g t j &&& 1 = 0) := by
                  rw [emk, (mk_chk md hmd).1]
                  first
                  | (simp [h18]; done)
                  | (simp [h18, h25]; done)
                have htk : true = decide (¬ mkG g t j &&& 2 = 0) := by
                  rw [emk, (mk_chk md hmd).2.1]
                  first
                  | (simp [h39]; done)
                  | (simp [h39, h46]; done)
                have hww : 0 = hopN (mkG g t j) := by
                  rw [emk, (mk_chk md hmd).2.2]
                  first
                  | (rw [if_pos h103]; done)
                  | (rw [if_neg h103]; done)
                exact Ev.to (by rfl) rfl rfl (c_rch0_119 hm znow_3 hG (qu := true) (tk := true) (ms := ec) (w := 0) hs (by omega) (by omega) hf hd hLb (fun acc hacc => ⟨setL_of (fun z hz => (hacc z hz).trans (part_eq hG hW hf hs ht hj hmd em hqu htk hww (Or.inl (by rw [rcG, reachG, if_neg h65, if_neg h80, hcv, nI_clamp (by omega)])))), hfe⟩) _ 0 rfl (Nat.zero_le _) 0 (fun z _ => by rw [lb_0]; rfl))
              · refine ev_iconst_1 dX10_reaches_106 ?_
                refine ev_goto (tgt := 111) dX10_reaches_107 (by decide) ?_
                refine ev_istore_9 dX10_reaches_111 rfl rfl ?_
                refine ev_lconst_0 dX10_reaches_113 ?_
                refine ev_lstore_10 dX10_reaches_114 rfl rfl ?_
                refine ev_iconst_0 dX10_reaches_116 ?_
                refine ev_istore_12 dX10_reaches_117 rfl rfl ?_
                have hqu : true = decide (¬ mkG g t j &&& 1 = 0) := by
                  rw [emk, (mk_chk md hmd).1]
                  first
                  | (simp [h18]; done)
                  | (simp [h18, h25]; done)
                have htk : true = decide (¬ mkG g t j &&& 2 = 0) := by
                  rw [emk, (mk_chk md hmd).2.1]
                  first
                  | (simp [h39]; done)
                  | (simp [h39, h46]; done)
                have hww : 1 = hopN (mkG g t j) := by
                  rw [emk, (mk_chk md hmd).2.2]
                  first
                  | (rw [if_pos h103]; done)
                  | (rw [if_neg h103]; done)
                exact Ev.to (by rfl) rfl rfl (c_rch0_119 hm znow_3 hG (qu := true) (tk := true) (ms := ec) (w := 1) hs (by omega) (by omega) hf hd hLb (fun acc hacc => ⟨setL_of (fun z hz => (hacc z hz).trans (part_eq hG hW hf hs ht hj hmd em hqu htk hww (Or.inl (by rw [rcG, reachG, if_neg h65, if_neg h80, hcv, nI_clamp (by omega)])))), hfe⟩) _ 0 rfl (Nat.zero_le _) 0 (fun z _ => by rw [lb_0]; rfl))
            · refine ev_bipush_6 dX10_reaches_83 ?_
              refine ev_goto (tgt := 96) dX10_reaches_85 (by decide) ?_
              refine ev_istore_8 dX10_reaches_96 rfl rfl ?_
              refine ev_iload_5 dX10_reaches_98 ?_
              refine ev_bipush_32 dX10_reaches_100 ?_
              refine ev_iand dX10_reaches_102 ?_
              refine ev_if_eq (tgt := 110) dX10_reaches_103 (by decide) (fun h103 => ?_) (fun h103 => ?_)
              · refine ev_iconst_0 dX10_reaches_110 ?_
                refine ev_istore_9 dX10_reaches_111 rfl rfl ?_
                refine ev_lconst_0 dX10_reaches_113 ?_
                refine ev_lstore_10 dX10_reaches_114 rfl rfl ?_
                refine ev_iconst_0 dX10_reaches_116 ?_
                refine ev_istore_12 dX10_reaches_117 rfl rfl ?_
                have hqu : true = decide (¬ mkG g t j &&& 1 = 0) := by
                  rw [emk, (mk_chk md hmd).1]
                  first
                  | (simp [h18]; done)
                  | (simp [h18, h25]; done)
                have htk : true = decide (¬ mkG g t j &&& 2 = 0) := by
                  rw [emk, (mk_chk md hmd).2.1]
                  first
                  | (simp [h39]; done)
                  | (simp [h39, h46]; done)
                have hww : 0 = hopN (mkG g t j) := by
                  rw [emk, (mk_chk md hmd).2.2]
                  first
                  | (rw [if_pos h103]; done)
                  | (rw [if_neg h103]; done)
                exact Ev.to (by rfl) rfl rfl (c_rch0_119 hm znow_3 hG (qu := true) (tk := true) (ms := 6) (w := 0) hs (by omega) (by omega) hf hd hLb (fun acc hacc => ⟨setL_of (fun z hz => (hacc z hz).trans (part_eq hG hW hf hs ht hj hmd em hqu htk hww (Or.inr ⟨rfl, by rw [rcG, reachG, if_neg h65, if_pos h80]⟩))), hfe⟩) _ 0 rfl (Nat.zero_le _) 0 (fun z _ => by rw [lb_0]; rfl))
              · refine ev_iconst_1 dX10_reaches_106 ?_
                refine ev_goto (tgt := 111) dX10_reaches_107 (by decide) ?_
                refine ev_istore_9 dX10_reaches_111 rfl rfl ?_
                refine ev_lconst_0 dX10_reaches_113 ?_
                refine ev_lstore_10 dX10_reaches_114 rfl rfl ?_
                refine ev_iconst_0 dX10_reaches_116 ?_
                refine ev_istore_12 dX10_reaches_117 rfl rfl ?_
                have hqu : true = decide (¬ mkG g t j &&& 1 = 0) := by
                  rw [emk, (mk_chk md hmd).1]
                  first
                  | (simp [h18]; done)
                  | (simp [h18, h25]; done)
                have htk : true = decide (¬ mkG g t j &&& 2 = 0) := by
                  rw [emk, (mk_chk md hmd).2.1]
                  first
                  | (simp [h39]; done)
                  | (simp [h39, h46]; done)
                have hww : 1 = hopN (mkG g t j) := by
                  rw [emk, (mk_chk md hmd).2.2]
                  first
                  | (rw [if_pos h103]; done)
                  | (rw [if_neg h103]; done)
                exact Ev.to (by rfl) rfl rfl (c_rch0_119 hm znow_3 hG (qu := true) (tk := true) (ms := 6) (w := 1) hs (by omega) (by omega) hf hd hLb (fun acc hacc => ⟨setL_of (fun z hz => (hacc z hz).trans (part_eq hG hW hf hs ht hj hmd em hqu htk hww (Or.inr ⟨rfl, by rw [rcG, reachG, if_neg h65, if_pos h80]⟩))), hfe⟩) _ 0 rfl (Nat.zero_le _) 0 (fun z _ => by rw [lb_0]; rfl))
          · refine ev_iconst_1 dX10_reaches_68 ?_
            refine ev_goto (tgt := 96) dX10_reaches_69 (by decide) ?_
            refine ev_istore_8 dX10_reaches_96 rfl rfl ?_
            refine ev_iload_5 dX10_reaches_98 ?_
            refine ev_bipush_32 dX10_reaches_100 ?_
            refine ev_iand dX10_reaches_102 ?_
            refine ev_if_eq (tgt := 110) dX10_reaches_103 (by decide) (fun h103 => ?_) (fun h103 => ?_)
            · refine ev_iconst_0 dX10_reaches_110 ?_
              refine ev_istore_9 dX10_reaches_111 rfl rfl ?_
              refine ev_lconst_0 dX10_reaches_113 ?_
              refine ev_lstore_10 dX10_reaches_114 rfl rfl ?_
              refine ev_iconst_0 dX10_reaches_116 ?_
              refine ev_istore_12 dX10_reaches_117 rfl rfl ?_
              have hqu : true = decide (¬ mkG g t j &&& 1 = 0) := by
                rw [emk, (mk_chk md hmd).1]
                first
                | (simp [h18]; done)
                | (simp [h18, h25]; done)
              have htk : true = decide (¬ mkG g t j &&& 2 = 0) := by
                rw [emk, (mk_chk md hmd).2.1]
                first
                | (simp [h39]; done)
                | (simp [h39, h46]; done)
              have hww : 0 = hopN (mkG g t j) := by
                rw [emk, (mk_chk md hmd).2.2]
                first
                | (rw [if_pos h103]; done)
                | (rw [if_neg h103]; done)
              exact Ev.to (by rfl) rfl rfl (c_rch0_119 hm znow_3 hG (qu := true) (tk := true) (ms := 1) (w := 0) hs (by omega) (by omega) hf hd hLb (fun acc hacc => ⟨setL_of (fun z hz => (hacc z hz).trans (part_eq hG hW hf hs ht hj hmd em hqu htk hww (Or.inl (by rw [rcG, reachG, if_pos h65])))), hfe⟩) _ 0 rfl (Nat.zero_le _) 0 (fun z _ => by rw [lb_0]; rfl))
            · refine ev_iconst_1 dX10_reaches_106 ?_
              refine ev_goto (tgt := 111) dX10_reaches_107 (by decide) ?_
              refine ev_istore_9 dX10_reaches_111 rfl rfl ?_
              refine ev_lconst_0 dX10_reaches_113 ?_
              refine ev_lstore_10 dX10_reaches_114 rfl rfl ?_
              refine ev_iconst_0 dX10_reaches_116 ?_
              refine ev_istore_12 dX10_reaches_117 rfl rfl ?_
              have hqu : true = decide (¬ mkG g t j &&& 1 = 0) := by
                rw [emk, (mk_chk md hmd).1]
                first
                | (simp [h18]; done)
                | (simp [h18, h25]; done)
              have htk : true = decide (¬ mkG g t j &&& 2 = 0) := by
                rw [emk, (mk_chk md hmd).2.1]
                first
                | (simp [h39]; done)
                | (simp [h39, h46]; done)
              have hww : 1 = hopN (mkG g t j) := by
                rw [emk, (mk_chk md hmd).2.2]
                first
                | (rw [if_pos h103]; done)
                | (rw [if_neg h103]; done)
              exact Ev.to (by rfl) rfl rfl (c_rch0_119 hm znow_3 hG (qu := true) (tk := true) (ms := 1) (w := 1) hs (by omega) (by omega) hf hd hLb (fun acc hacc => ⟨setL_of (fun z hz => (hacc z hz).trans (part_eq hG hW hf hs ht hj hmd em hqu htk hww (Or.inl (by rw [rcG, reachG, if_pos h65])))), hfe⟩) _ 0 rfl (Nat.zero_le _) 0 (fun z _ => by rw [lb_0]; rfl))
set_option maxRecDepth 100000 in
set_option maxHeartbeats 4000000 in
theorem c_mReach1 {ae ad : Nat → Nat} {sh : mSh} {σ : mSt} (hm : mModel ad sh) {g : Nat → Int32} (hg : σ.1 62 = g) (hG : wfP g) (hW : wfL g) {f s t j : Nat} (hs : s ≤ 1) (hf : f < cN g * rN g) (ht : t < 6) (hj : j < pcG g t) : Ct yX10_reaches cX10_reaches 19 (some .long) 3 0 0 [.ref (ad 61), .int (nI (61 + 21 * t + 3 * j)), .int (nI f), .int (nI s), .int 1] ae ad sh σ (mPl ad sh (fun x σ' => x = setL (partB (cN g) (rN g) (occG g) (emA g true) (otA g s true) (f % cN g) (f / cN g) (fwS s) (mkG g t) (dmG g t) (atG g t) (rcG g t) j) ∧ frE σ σ')) := by
  refine Ct.ofL (own := RX10) (ini := false) (ls := [some (.ref (ad 61)), some (.int (nI (61 + 21 * t + 3 * j))), some (.int (nI f)), some (.int (nI s)), some (.int 1), none, none, none, none, none, none, none, none, none, none, none, none, none, none]) (by decide +kernel) rfl (fun h => by cases h) (Nat.le_of_ble_eq_true rfl) rfl ?_
  have hp6 := (hW.2.2.2.2.1 t ht).1
  obtain ⟨⟨w1, hmd⟩, ⟨w3, ha7⟩, hcd⟩ := hW.2.2.2.2.2.1 t ht j hj
  obtain ⟨md, em, hmd⟩ : ∃ md, g (61 + 21 * t + 3 * j) = nI md ∧ md < 64 := ⟨_, w1, hmd⟩
  have emk : mkG g t j = markG (nI md) := by rw [mkG, em]
  have hcd : g (63 + 21 * t + 3 * j) = -1 ∨ ∃ ec, ec ≤ 5 ∧ g (63 + 21 * t + 3 * j) = nI ec := hcd.imp id (fun z => ⟨_, z.2, z.1⟩)
  have hLb : ∀ e ∈ dirL (atG g t j) (nI md) (nI s), (-3 ≤ e.1.toInt ∧ e.1.toInt ≤ 3) ∧ (-3 ≤ e.2.toInt ∧ e.2.toInt ≤ 3) := fun e he => of_decide_eq_true (List.all_eq_true.mp (dir_bnd _ ha7 md hmd s (by omega)) e he)
  refine ev_aload_0 dX10_reaches_0 ?_
  refine ev_iload_1 dX10_reaches_1 ?_
  refine ev_iload_3 dX10_reaches_2 ?_
  refine cg_X10_169 (c_mDirs hm hg (j := 61 + 21 * t + 3 * j) (a := atG g t j) (by omega) ((congrArg g (show 61 + 21 * t + 3 * j + 1 = 62 + 21 * t + 3 * j by omega)).trans w3) ha7) hm.1 dX10_reaches_3 rfl (Nat.le_of_ble_eq_true rfl) (fun σd hd0 => ?_)
  obtain ⟨hd, hfe⟩ := hd0
  rw [em] at hd
  have znow_3 := (hfe.1 62 (by decide) (by decide) (by decide)).trans hg
  refine ev_aload_0 dX10_reaches_6 ?_
  refine gf_X10_11 dX10_reaches_7 hm.1 rfl ?_
  refine ev_iload_1 dX10_reaches_10 ?_
  refine ev_ldk (k := 61 + 21 * t + 3 * j) hm.2.1 znow_3 rfl (by omega) (by decide) dX10_reaches_11 ?_
  rw [em]
  refine ev_istore_5 dX10_reaches_12 rfl rfl ?_
  refine ev_iload_5 dX10_reaches_14 ?_
  refine ev_iconst_1 dX10_reaches_16 ?_
  refine ev_iand dX10_reaches_17 ?_
  refine ev_if_ne (tgt := 28) dX10_reaches_18 (by decide) (fun h18 => ?_) (fun h18 => ?_)
  · refine ev_iconst_1 dX10_reaches_28 ?_
    refine ev_goto (tgt := 33) dX10_reaches_29 (by decide) ?_
    refine ev_istore_6 dX10_reaches_33 rfl rfl ?_
    refine ev_iload_5 dX10_reaches_35 ?_
    refine ev_iconst_2 dX10_reaches_37 ?_
    refine ev_iand dX10_reaches_38 ?_
    refine ev_if_ne (tgt := 49) dX10_reaches_39 (by decide) (fun h39 => ?_) (fun h39 => ?_)
    · refine ev_iconst_1 dX10_reaches_49 ?_
      refine ev_goto (tgt := 54) dX10_reaches_50 (by decide) ?_
      refine ev_istore_7 dX10_reaches_54 rfl rfl ?_
      refine ev_aload_0 dX10_reaches_56 ?_
      refine gf_X10_11 dX10_reaches_57 hm.1 rfl ?_
      refine ev_iload_1 dX10_reaches_60 ?_
      refine ev_iconst_2 dX10_reaches_61 ?_
      refine ev_iadd dX10_reaches_62 ?_
      rw [show nI (61 + 21 * t + 3 * j) + (2 : Int32) = nI (61 + 21 * t + 3 * j + 2) from nI_add (61 + 21 * t + 3 * j) (2)]
      refine ev_ldk (k := 61 + 21 * t + 3 * j + 2) hm.2.1 znow_3 rfl (by omega) (by decide) dX10_reaches_63 ?_
      rw [show g (61 + 21 * t + 3 * j + 2) = g (63 + 21 * t + 3 * j) from congrArg g (by omega)]
      refine ev_iconst_m1 dX10_reaches_64 ?_
      refine ev_icmp_ne (tgt := 72) dX10_reaches_65 (by decide) (fun h65 => ?_) (fun h65 => ?_)
      · refine ev_aload_0 dX10_reaches_72 ?_
        refine gf_X10_11 dX10_reaches_73 hm.1 rfl ?_
        refine ev_iload_1 dX10_reaches_76 ?_
        refine ev_iconst_2 dX10_reaches_77 ?_
        refine ev_iadd dX10_reaches_78 ?_
        rw [show nI (61 + 21 * t + 3 * j) + (2 : Int32) = nI (61 + 21 * t + 3 * j + 2) from nI_add (61 + 21 * t + 3 * j) (2)]
        refine ev_ldk (k := 61 + 21 * t + 3 * j + 2) hm.2.1 znow_3 rfl (by omega) (by decide) dX10_reaches_79 ?_
        rw [show g (61 + 21 * t + 3 * j + 2) = g (63 + 21 * t + 3 * j) from congrArg g (by omega)]
        refine ev_if_ne (tgt := 88) dX10_reaches_80 (by decide) (fun h80 => ?_) (fun h80 => ?_)
        · obtain ⟨ec, hec, hcv⟩ := hcd.resolve_left h65
          refine ev_aload_0 dX10_reaches_88 ?_
          refine gf_X10_11 dX10_reaches_89 hm.1 rfl ?_
          refine ev_iload_1 dX10_reaches_92 ?_
          refine ev_iconst_2 dX10_reaches_93 ?_
          refine ev_iadd dX10_reaches_94 ?_
          rw [show nI (61 + 21 * t + 3 * j) + (2 : Int32) = nI (61 + 21 * t + 3 * j + 2) from nI_add (61 + 21 * t + 3 * j) (2)]
          refine ev_ldk (k := 61 + 21 * t + 3 * j + 2) hm.2.1 znow_3 rfl (by omega) (by decide) dX10_reaches_95 ?_
          rw [show g (61 + 21 * t + 3 * j + 2) = g (63 + 21 * t + 3 * j) from congrArg g (by omega), hcv]
          refine ev_istore_8 dX10_reaches_96 rfl rfl ?_
          refine ev_iload_5 dX10_reaches_98 ?_
          refine ev_bipush_32 dX10_reaches_100 ?_
          refine ev_iand dX10_reaches_102 ?_
          refine ev_if_eq (tgt := 110) dX10_reaches_103 (by decide) (fun h103 => ?_) (fun h103 => ?_)
          · refine ev_iconst_0 dX10_reaches_110 ?_
            refine ev_istore_9 dX10_reaches_111 rfl rfl ?_
            refine ev_lconst_0 dX10_reaches_113 ?_
            refine ev_lstore_10 dX10_reaches_114 rfl rfl ?_
            refine ev_iconst_0 dX10_reaches_116 ?_
            refine ev_istore_12 dX10_reaches_117 rfl rfl ?_
            have hqu : true = decide (¬ mkG g t j &&& 1 = 0) := by
              rw [emk, (mk_chk md hmd).1]
              first
              | (simp [h18]; done)
              | (simp [h18, h25]; done)
            have htk : true = decide (¬ mkG g t j &&& 2 = 0) := by
              rw [emk, (mk_chk md hmd).2.1]
              first
              | (simp [h39]; done)
              | (simp [h39, h46]; done)
            have hww : 0 = hopN (mkG g t j) := by
              rw [emk, (mk_chk md hmd).2.2]
              first
              | (rw [if_pos h103]; done)
              | (rw [if_neg h103]; done)
            exact Ev.to (by rfl) rfl rfl (c_rch1_119 hm znow_3 hG (qu := true) (tk := true) (ms := ec) (w := 0) hs (by omega) (by omega) hf hd hLb (fun acc hacc => ⟨setL_of (fun z hz => (hacc z hz).trans (part_eq hG hW hf hs ht hj hmd em hqu htk hww (Or.inl (by rw [rcG, reachG, if_neg h65, if_neg h80, hcv, nI_clamp (by omega)])))), hfe⟩) _ 0 rfl (Nat.zero_le _) 0 (fun z _ => by rw [lb_0]; rfl))
          · refine ev_iconst_1 dX10_reaches_106 ?_
            refine ev_goto (tgt := 111) dX10_reaches_107 (by decide) ?_
            refine ev_istore_9 dX10_reaches_111 rfl rfl ?_
            refine ev_lconst_0 dX10_reaches_113 ?_
            refine ev_lstore_10 dX10_reaches_114 rfl rfl ?_
            refine ev_iconst_0 dX10_reaches_116 ?_
            refine ev_istore_12 dX10_reaches_117 rfl rfl ?_
            have hqu : true = decide (¬ mkG g t j &&& 1 = 0) := by
              rw [emk, (mk_chk md hmd).1]
              first
              | (simp [h18]; done)
              | (simp [h18, h25]; done)
            have htk : true = decide (¬ mkG g t j &&& 2 = 0) := by
              rw [emk, (mk_chk md hmd).2.1]
              first
              | (simp [h39]; done)
              | (simp [h39, h46]; done)
            have hww : 1 = hopN (mkG g t j) := by
              rw [emk, (mk_chk md hmd).2.2]
              first
              | (rw [if_pos h103]; done)
              | (rw [if_neg h103]; done)
            exact Ev.to (by rfl) rfl rfl (c_rch1_119 hm znow_3 hG (qu := true) (tk := true) (ms := ec) (w := 1) hs (by omega) (by omega) hf hd hLb (fun acc hacc => ⟨setL_of (fun z hz => (hacc z hz).trans (part_eq hG hW hf hs ht hj hmd em hqu htk hww (Or.inl (by rw [rcG, reachG, if_neg h65, if_neg h80, hcv, nI_clamp (by omega)])))), hfe⟩) _ 0 rfl (Nat.zero_le _) 0 (fun z _ => by rw [lb_0]; rfl))
        · refine ev_bipush_6 dX10_reaches_83 ?_
          refine ev_goto (tgt := 96) dX10_reaches_85 (by decide) ?_
          refine ev_istore_8 dX10_reaches_96 rfl rfl ?_
          refine ev_iload_5 dX10_reaches_98 ?_
          refine ev_bipush_32 dX10_reaches_100 ?_
          refine ev_iand dX10_reaches_102 ?_
          refine ev_if_eq (tgt := 110) dX10_reaches_103 (by decide) (fun h103 => ?_) (fun h103 => ?_)
          · refine ev_iconst_0 dX10_reaches_110 ?_
            refine ev_istore_9 dX10_reaches_111 rfl rfl ?_
            refine ev_lconst_0 dX10_reaches_113 ?_
            refine ev_lstore_10 dX10_reaches_114 rfl rfl ?_
            refine ev_iconst_0 dX10_reaches_116 ?_
            refine ev_istore_12 dX10_reaches_117 rfl rfl ?_
            have hqu : true = decide (¬ mkG g t j &&& 1 = 0) := by
              rw [emk, (mk_chk md hmd).1]
              first
              | (simp [h18]; done)
              | (simp [h18, h25]; done)
            have htk : true = decide (¬ mkG g t j &&& 2 = 0) := by
              rw [emk, (mk_chk md hmd).2.1]
              first
              | (simp [h39]; done)
              | (simp [h39, h46]; done)
            have hww : 0 = hopN (mkG g t j) := by
              rw [emk, (mk_chk md hmd).2.2]
              first
              | (rw [if_pos h103]; done)
              | (rw [if_neg h103]; done)
            exact Ev.to (by rfl) rfl rfl (c_rch1_119 hm znow_3 hG (qu := true) (tk := true) (ms := 6) (w := 0) hs (by omega) (by omega) hf hd hLb (fun acc hacc => ⟨setL_of (fun z hz => (hacc z hz).trans (part_eq hG hW hf hs ht hj hmd em hqu htk hww (Or.inr ⟨rfl, by rw [rcG, reachG, if_neg h65, if_pos h80]⟩))), hfe⟩) _ 0 rfl (Nat.zero_le _) 0 (fun z _ => by rw [lb_0]; rfl))
          · refine ev_iconst_1 dX10_reaches_106 ?_
            refine ev_goto (tgt := 111) dX10_reaches_107 (by decide) ?_
            refine ev_istore_9 dX10_reaches_111 rfl rfl ?_
            refine ev_lconst_0 dX10_reaches_113 ?_
            refine ev_lstore_10 dX10_reaches_114 rfl rfl ?_
            refine ev_iconst_0 dX10_reaches_116 ?_
            refine ev_istore_12 dX10_reaches_117 rfl rfl ?_
            have hqu : true = decide (¬ mkG g t j &&& 1 = 0) := by
              rw [emk, (mk_chk md hmd).1]
              first
              | (simp [h18]; done)
              | (simp [h18, h25]; done)
            have htk : true = decide (¬ mkG g t j &&& 2 = 0) := by
              rw [emk, (mk_chk md hmd).2.1]
              first
              | (simp [h39]; done)
              | (simp [h39, h46]; done)
            have hww : 1 = hopN (mkG g t j) := by
              rw [emk, (mk_chk md hmd).2.2]
              first
              | (rw [if_pos h103]; done)
              | (rw [if_neg h103]; done)
            exact Ev.to (by rfl) rfl rfl (c_rch1_119 hm znow_3 hG (qu := true) (tk := true) (ms := 6) (w := 1) hs (by omega) (by omega) hf hd hLb (fun acc hacc => ⟨setL_of (fun z hz => (hacc z hz).trans (part_eq hG hW hf hs ht hj hmd em hqu htk hww (Or.inr ⟨rfl, by rw [rcG, reachG, if_neg h65, if_pos h80]⟩))), hfe⟩) _ 0 rfl (Nat.zero_le _) 0 (fun z _ => by rw [lb_0]; rfl))
      · refine ev_iconst_1 dX10_reaches_68 ?_
        refine ev_goto (tgt := 96) dX10_reaches_69 (by decide) ?_
        refine ev_istore_8 dX10_reaches_96 rfl rfl ?_
        refine ev_iload_5 dX10_reaches_98 ?_
        refine ev_bipush_32 dX10_reaches_100 ?_
        refine ev_iand dX10_reaches_102 ?_
        refine ev_if_eq (tgt := 110) dX10_reaches_103 (by decide) (fun h103 => ?_) (fun h103 => ?_)
        · refine ev_iconst_0 dX10_reaches_110 ?_
          refine ev_istore_9 dX10_reaches_111 rfl rfl ?_
          refine ev_lconst_0 dX10_reaches_113 ?_
          refine ev_lstore_10 dX10_reaches_114 rfl rfl ?_
          refine ev_iconst_0 dX10_reaches_116 ?_
          refine ev_istore_12 dX10_reaches_117 rfl rfl ?_
          have hqu : true = decide (¬ mkG g t j &&& 1 = 0) := by
            rw [emk, (mk_chk md hmd).1]
            first
            | (simp [h18]; done)
            | (simp [h18, h25]; done)
          have htk : true = decide (¬ mkG g t j &&& 2 = 0) := by
            rw [emk, (mk_chk md hmd).2.1]
            first
            | (simp [h39]; done)
            | (simp [h39, h46]; done)
          have hww : 0 = hopN (mkG g t j) := by
            rw [emk, (mk_chk md hmd).2.2]
            first
            | (rw [if_pos h103]; done)
            | (rw [if_neg h103]; done)
          exact Ev.to (by rfl) rfl rfl (c_rch1_119 hm znow_3 hG (qu := true) (tk := true) (ms := 1) (w := 0) hs (by omega) (by omega) hf hd hLb (fun acc hacc => ⟨setL_of (fun z hz => (hacc z hz).trans (part_eq hG hW hf hs ht hj hmd em hqu htk hww (Or.inl (by rw [rcG, reachG, if_pos h65])))), hfe⟩) _ 0 rfl (Nat.zero_le _) 0 (fun z _ => by rw [lb_0]; rfl))
        · refine ev_iconst_1 dX10_reaches_106 ?_
          refine ev_goto (tgt := 111) dX10_reaches_107 (by decide) ?_
          refine ev_istore_9 dX10_reaches_111 rfl rfl ?_
          refine ev_lconst_0 dX10_reaches_113 ?_
          refine ev_lstore_10 dX10_reaches_114 rfl rfl ?_
          refine ev_iconst_0 dX10_reaches_116 ?_
          refine ev_istore_12 dX10_reaches_117 rfl rfl ?_
          have hqu : true = decide (¬ mkG g t j &&& 1 = 0) := by
            rw [emk, (mk_chk md hmd).1]
            first
            | (simp [h18]; done)
            | (simp [h18, h25]; done)
          have htk : true = decide (¬ mkG g t j &&& 2 = 0) := by
            rw [emk, (mk_chk md hmd).2.1]
            first
            | (simp [h39]; done)
            | (simp [h39, h46]; done)
          have hww : 1 = hopN (mkG g t j) := by
            rw [emk, (mk_chk md hmd).2.2]
            first
            | (rw [if_pos h103]; done)
            | (rw [if_neg h103]; done)
          exact Ev.to (by rfl) rfl rfl (c_rch1_119 hm znow_3 hG (qu := true) (tk := true) (ms := 1) (w := 1) hs (by omega) (by omega) hf hd hLb (fun acc hacc => ⟨setL_of (fun z hz => (hacc z hz).trans (part_eq hG hW hf hs ht hj hmd em hqu htk hww (Or.inl (by rw [rcG, reachG, if_pos h65])))), hfe⟩) _ 0 rfl (Nat.zero_le _) 0 (fun z _ => by rw [lb_0]; rfl))
    · refine ev_iload_5 dX10_reaches_42 ?_
      refine ev_iconst_1 dX10_reaches_44 ?_
      refine ev_iand dX10_reaches_45 ?_
      refine ev_if_ne (tgt := 53) dX10_reaches_46 (by decide) (fun h46 => ?_) (fun h46 => ?_)
      · refine ev_iconst_0 dX10_reaches_53 ?_
        refine ev_istore_7 dX10_reaches_54 rfl rfl ?_
        refine ev_aload_0 dX10_reaches_56 ?_
        refine gf_X10_11 dX10_reaches_57 hm.1 rfl ?_
        refine ev_iload_1 dX10_reaches_60 ?_
        refine ev_iconst_2 dX10_reaches_61 ?_
        refine ev_iadd dX10_reaches_62 ?_
        rw [show nI (61 + 21 * t + 3 * j) + (2 : Int32) = nI (61 + 21 * t + 3 * j + 2) from nI_add (61 + 21 * t + 3 * j) (2)]
        refine ev_ldk (k := 61 + 21 * t + 3 * j + 2) hm.2.1 znow_3 rfl (by omega) (by decide) dX10_reaches_63 ?_
        rw [show g (61 + 21 * t + 3 * j + 2) = g (63 + 21 * t + 3 * j) from congrArg g (by omega)]
        refine ev_iconst_m1 dX10_reaches_64 ?_
        refine ev_icmp_ne (tgt := 72) dX10_reaches_65 (by decide) (fun h65 => ?_) (fun h65 => ?_)
        · refine ev_aload_0 dX10_reaches_72 ?_
          refine gf_X10_11 dX10_reaches_73 hm.1 rfl ?_
          refine ev_iload_1 dX10_reaches_76 ?_
          refine ev_iconst_2 dX10_reaches_77 ?_
          refine ev_iadd dX10_reaches_78 ?_
          rw [show nI (61 + 21 * t + 3 * j) + (2 : Int32) = nI (61 + 21 * t + 3 * j + 2) from nI_add (61 + 21 * t + 3 * j) (2)]
          refine ev_ldk (k := 61 + 21 * t + 3 * j + 2) hm.2.1 znow_3 rfl (by omega) (by decide) dX10_reaches_79 ?_
          rw [show g (61 + 21 * t + 3 * j + 2) = g (63 + 21 * t + 3 * j) from congrArg g (by omega)]
          refine ev_if_ne (tgt := 88) dX10_reaches_80 (by decide) (fun h80 => ?_) (fun h80 => ?_)
          · obtain ⟨ec, hec, hcv⟩ := hcd.resolve_left h65
            refine ev_aload_0 dX10_reaches_88 ?_
            refine gf_X10_11 dX10_reaches_89 hm.1 rfl ?_
            refine ev_iload_1 dX10_reaches_92 ?_
            refine ev_iconst_2 dX10_reaches_93 ?_
            refine ev_iadd dX10_reaches_94 ?_
            rw [show nI (61 + 21 * t + 3 * j) + (2 : Int32) = nI (61 + 21 * t + 3 * j + 2) from nI_add (61 + 21 * t + 3 * j) (2)]
            refine ev_ldk (k := 61 + 21 * t + 3 * j + 2) hm.2.1 znow_3 rfl (by omega) (by decide) dX10_reaches_95 ?_
            rw [show g (61 + 21 * t + 3 * j + 2) = g (63 + 21 * t + 3 * j) from congrArg g (by omega), hcv]
            refine ev_istore_8 dX10_reaches_96 rfl rfl ?_
            refine ev_iload_5 dX10_reaches_98 ?_
            refine ev_bipush_32 dX10_reaches_100 ?_
            refine ev_iand dX10_reaches_102 ?_
            refine ev_if_eq (tgt := 110) dX10_reaches_103 (by decide) (fun h103 => ?_) (fun h103 => ?_)
            · refine ev_iconst_0 dX10_reaches_110 ?_
              refine ev_istore_9 dX10_reaches_111 rfl rfl ?_
              refine ev_lconst_0 dX10_reaches_113 ?_
              refine ev_lstore_10 dX10_reaches_114 rfl rfl ?_
              refine ev_iconst_0 dX10_reaches_116 ?_
              refine ev_istore_12 dX10_reaches_117 rfl rfl ?_
              have hqu : true = decide (¬ mkG g t j &&& 1 = 0) := by
                rw [emk, (mk_chk md hmd).1]
                first
                | (simp [h18]; done)
                | (simp [h18, h25]; done)
              have htk : false = decide (¬ mkG g t j &&& 2 = 0) := by
                rw [emk, (mk_chk md hmd).2.1]
                first
                | (simp [h39]; done)
                | (simp [h39, h46]; done)
              have hww : 0 = hopN (mkG g t j) := by
                rw [emk, (mk_chk md hmd).2.2]
                first
                | (rw [if_pos h103]; done)
                | (rw [if_neg h103]; done)
              exact Ev.to (by rfl) rfl rfl (c_rch1_119 hm znow_3 hG (qu := true) (tk := false) (ms := ec) (w := 0) hs (by omega) (by omega) hf hd hLb (fun acc hacc => ⟨setL_of (fun z hz => (hacc z hz).trans (part_eq hG hW hf hs ht hj hmd em hqu htk hww (Or.inl (by rw [rcG, reachG, if_neg h65, if_neg h80, hcv, nI_clamp (by omega)])))), hfe⟩) _ 0 rfl (Nat.zero_le _) 0 (fun z _ => by rw [lb_0]; rfl))
            · refine ev_iconst_1 dX10_reaches_106 ?_
              refine ev_goto (tgt := 111) dX10_reaches_107 (by decide) ?_
              refine ev_istore_9 dX10_reaches_111 rfl rfl ?_
              refine ev_lconst_0 dX10_reaches_113 ?_
              refine ev_lstore_10 dX10_reaches_114 rfl rfl ?_
              refine ev_iconst_0 dX10_reaches_116 ?_
              refine ev_istore_12 dX10_reaches_117 rfl rfl ?_
              have hqu : true = decide (¬ mkG g t j &&& 1 = 0) := by
                rw [emk, (mk_chk md hmd).1]
                first
                | (simp [h18]; done)
                | (simp [h18, h25]; done)
              have htk : false = decide (¬ mkG g t j &&& 2 = 0) := by
                rw [emk, (mk_chk md hmd).2.1]
                first
                | (simp [h39]; done)
                | (simp [h39, h46]; done)
              have hww : 1 = hopN (mkG g t j) := by
                rw [emk, (mk_chk md hmd).2.2]
                first
                | (rw [if_pos h103]; done)
                | (rw [if_neg h103]; done)
              exact Ev.to (by rfl) rfl rfl (c_rch1_119 hm znow_3 hG (qu := true) (tk := false) (ms := ec) (w := 1) hs (by omega) (by omega) hf hd hLb (fun acc hacc => ⟨setL_of (fun z hz => (hacc z hz).trans (part_eq hG hW hf hs ht hj hmd em hqu htk hww (Or.inl (by rw [rcG, reachG, if_neg h65, if_neg h80, hcv, nI_clamp (by omega)])))), hfe⟩) _ 0 rfl (Nat.zero_le _) 0 (fun z _ => by rw [lb_0]; rfl))
          · refine ev_bipush_6 dX10_reaches_83 ?_
            refine ev_goto (tgt := 96) dX10_reaches_85 (by decide) ?_
            refine ev_istore_8 dX10_reaches_96 rfl rfl ?_
            refine ev_iload_5 dX10_reaches_98 ?_
            refine ev_bipush_32 dX10_reaches_100 ?_
            refine ev_iand dX10_reaches_102 ?_
            refine ev_if_eq (tgt := 110) dX10_reaches_103 (by decide) (fun h103 => ?_) (fun h103 => ?_)
            · refine ev_iconst_0 dX10_reaches_110 ?_
              refine ev_istore_9 dX10_reaches_111 rfl rfl ?_
              refine ev_lconst_0 dX10_reaches_113 ?_
              refine ev_lstore_10 dX10_reaches_114 rfl rfl ?_
              refine ev_iconst_0 dX10_reaches_116 ?_
              refine ev_istore_12 dX10_reaches_117 rfl rfl ?_
              have hqu : true = decide (¬ mkG g t j &&& 1 = 0) := by
                rw [emk, (mk_chk md hmd).1]
                first
                | (simp [h18]; done)
                | (simp [h18, h25]; done)
              have htk : false = decide (¬ mkG g t j &&& 2 = 0) := by
                rw [emk, (mk_chk md hmd).2.1]
                first
                | (simp [h39]; done)
                | (simp [h39, h46]; done)
              have hww : 0 = hopN (mkG g t j) := by
                rw [emk, (mk_chk md hmd).2.2]
                first
                | (rw [if_pos h103]; done)
                | (rw [if_neg h103]; done)
              exact Ev.to (by rfl) rfl rfl (c_rch1_119 hm znow_3 hG (qu := true) (tk := false) (ms := 6) (w := 0) hs (by omega) (by omega) hf hd hLb (fun acc hacc => ⟨setL_of (fun z hz => (hacc z hz).trans (part_eq hG hW hf hs ht hj hmd em hqu htk hww (Or.inr ⟨rfl, by rw [rcG, reachG, if_neg h65, if_pos h80]⟩))), hfe⟩) _ 0 rfl (Nat.zero_le _) 0 (fun z _ => by rw [lb_0]; rfl))
            · refine ev_iconst_1 dX10_reaches_106 ?_
              refine ev_goto (tgt := 111) dX10_reaches_107 (by decide) ?_
              refine ev_istore_9 dX10_reaches_111 rfl rfl ?_
              refine ev_lconst_0 dX10_reaches_113 ?_
              refine ev_lstore_10 dX10_reaches_114 rfl rfl ?_
              refine ev_iconst_0 dX10_reaches_116 ?_
              refine ev_istore_12 dX10_reaches_117 rfl rfl ?_
              have hqu : true = decide (¬ mkG g t j &&& 1 = 0) := by
                rw [emk, (mk_chk md hmd).1]
                first
                | (simp [h18]; done)
                | (simp [h18, h25]; done)
              have htk : false = decide (¬ mkG g t j &&& 2 = 0) := by
                rw [emk, (mk_chk md hmd).2.1]
                first
                | (simp [h39]; done)
                | (simp [h39, h46]; done)
              have hww : 1 = hopN (mkG g t j) := by
                rw [emk, (mk_chk md hmd).2.2]
                first
                | (rw [if_pos h103]; done)
                | (rw [if_neg h103]; done)
              exact Ev.to (by rfl) rfl rfl (c_rch1_119 hm znow_3 hG (qu := true) (tk := false) (ms := 6) (w := 1) hs (by omega) (by omega) hf hd hLb (fun acc hacc => ⟨setL_of (fun z hz => (hacc z hz).trans (part_eq hG hW hf hs ht hj hmd em hqu htk hww (Or.inr ⟨rfl, by rw [rcG, reachG, if_neg h65, if_pos h80]⟩))), hfe⟩) _ 0 rfl (Nat.zero_le _) 0 (fun z _ => by rw [lb_0]; rfl))
        · refine ev_iconst_1 dX10_reaches_68 ?_
          refine ev_goto (tgt := 96) dX10_reaches_69 (by decide) ?_
          refine ev_istore_8 dX10_reaches_96 rfl rfl ?_
          refine ev_iload_5 dX10_reaches_98 ?_
          refine ev_bipush_32 dX10_reaches_100 ?_
          refine ev_iand dX10_reaches_102 ?_
          refine ev_if_eq (tgt := 110) dX10_reaches_103 (by decide) (fun h103 => ?_) (fun h103 => ?_)
          · refine ev_iconst_0 dX10_reaches_110 ?_
            refine ev_istore_9 dX10_reaches_111 rfl rfl ?_
            refine ev_lconst_0 dX10_reaches_113 ?_
            refine ev_lstore_10 dX10_reaches_114 rfl rfl ?_
            refine ev_iconst_0 dX10_reaches_116 ?_
            refine ev_istore_12 dX10_reaches_117 rfl rfl ?_
            have hqu : true = decide (¬ mkG g t j &&& 1 = 0) := by
              rw [emk, (mk_chk md hmd).1]
              first
              | (simp [h18]; done)
              | (simp [h18, h25]; done)
            have htk : false = decide (¬ mkG g t j &&& 2 = 0) := by
              rw [emk, (mk_chk md hmd).2.1]
              first
              | (simp [h39]; done)
              | (simp [h39, h46]; done)
            have hww : 0 = hopN (mkG g t j) := by
              rw [emk, (mk_chk md hmd).2.2]
              first
              | (rw [if_pos h103]; done)
              | (rw [if_neg h103]; done)
            exact Ev.to (by rfl) rfl rfl (c_rch1_119 hm znow_3 hG (qu := true) (tk := false) (ms := 1) (w := 0) hs (by omega) (by omega) hf hd hLb (fun acc hacc => ⟨setL_of (fun z hz => (hacc z hz).trans (part_eq hG hW hf hs ht hj hmd em hqu htk hww (Or.inl (by rw [rcG, reachG, if_pos h65])))), hfe⟩) _ 0 rfl (Nat.zero_le _) 0 (fun z _ => by rw [lb_0]; rfl))
          · refine ev_iconst_1 dX10_reaches_106 ?_
            refine ev_goto (tgt := 111) dX10_reaches_107 (by decide) ?_
            refine ev_istore_9 dX10_reaches_111 rfl rfl ?_
            refine ev_lconst_0 dX10_reaches_113 ?_
            refine ev_lstore_10 dX10_reaches_114 rfl rfl ?_
            refine ev_iconst_0 dX10_reaches_116 ?_
            refine ev_istore_12 dX10_reaches_117 rfl rfl ?_
            have hqu : true = decide (¬ mkG g t j &&& 1 = 0) := by
              rw [emk, (mk_chk md hmd).1]
              first
              | (simp [h18]; done)
              | (simp [h18, h25]; done)
            have htk : false = decide (¬ mkG g t j &&& 2 = 0) := by
              rw [emk, (mk_chk md hmd).2.1]
              first
              | (simp [h39]; done)
              | (simp [h39, h46]; done)
            have hww : 1 = hopN (mkG g t j) := by
              rw [emk, (mk_chk md hmd).2.2]
              first
              | (rw [if_pos h103]; done)
              | (rw [if_neg h103]; done)
            exact Ev.to (by rfl) rfl rfl (c_rch1_119 hm znow_3 hG (qu := true) (tk := false) (ms := 1) (w := 1) hs (by omega) (by omega) hf hd hLb (fun acc hacc => ⟨setL_of (fun z hz => (hacc z hz).trans (part_eq hG hW hf hs ht hj hmd em hqu htk hww (Or.inl (by rw [rcG, reachG, if_pos h65])))), hfe⟩) _ 0 rfl (Nat.zero_le _) 0 (fun z _ => by rw [lb_0]; rfl))
      · refine ev_iconst_1 dX10_reaches_49 ?_
        refine ev_goto (tgt := 54) dX10_reaches_50 (by decide) ?_
        refine ev_istore_7 dX10_reaches_54 rfl rfl ?_
        refine ev_aload_0 dX10_reaches_56 ?_
        refine gf_X10_11 dX10_reaches_57 hm.1 rfl ?_
        refine ev_iload_1 dX10_reaches_60 ?_
        refine ev_iconst_2 dX10_reaches_61 ?_
        refine ev_iadd dX10_reaches_62 ?_
        rw [show nI (61 + 21 * t + 3 * j) + (2 : Int32) = nI (61 + 21 * t + 3 * j + 2) from nI_add (61 + 21 * t + 3 * j) (2)]
        refine ev_ldk (k := 61 + 21 * t + 3 * j + 2) hm.2.1 znow_3 rfl (by omega) (by decide) dX10_reaches_63 ?_
        rw [show g (61 + 21 * t + 3 * j + 2) = g (63 + 21 * t + 3 * j) from congrArg g (by omega)]
        refine ev_iconst_m1 dX10_reaches_64 ?_
        refine ev_icmp_ne (tgt := 72) dX10_reaches_65 (by decide) (fun h65 => ?_) (fun h65 => ?_)
        · refine ev_aload_0 dX10_reaches_72 ?_
          refine gf_X10_11 dX10_reaches_73 hm.1 rfl ?_
          refine ev_iload_1 dX10_reaches_76 ?_
          refine ev_iconst_2 dX10_reaches_77 ?_
          refine ev_iadd dX10_reaches_78 ?_
          rw [show nI (61 + 21 * t + 3 * j) + (2 : Int32) = nI (61 + 21 * t + 3 * j + 2) from nI_add (61 + 21 * t + 3 * j) (2)]
          refine ev_ldk (k := 61 + 21 * t + 3 * j + 2) hm.2.1 znow_3 rfl (by omega) (by decide) dX10_reaches_79 ?_
          rw [show g (61 + 21 * t + 3 * j + 2) = g (63 + 21 * t + 3 * j) from congrArg g (by omega)]
          refine ev_if_ne (tgt := 88) dX10_reaches_80 (by decide) (fun h80 => ?_) (fun h80 => ?_)
          · obtain ⟨ec, hec, hcv⟩ := hcd.resolve_left h65
            refine ev_aload_0 dX10_reaches_88 ?_
            refine gf_X10_11 dX10_reaches_89 hm.1 rfl ?_
            refine ev_iload_1 dX10_reaches_92 ?_
            refine ev_iconst_2 dX10_reaches_93 ?_
            refine ev_iadd dX10_reaches_94 ?_
            rw [show nI (61 + 21 * t + 3 * j) + (2 : Int32) = nI (61 + 21 * t + 3 * j + 2) from nI_add (61 + 21 * t + 3 * j) (2)]
            refine ev_ldk (k := 61 + 21 * t + 3 * j + 2) hm.2.1 znow_3 rfl (by omega) (by decide) dX10_reaches_95 ?_
            rw [show g (61 + 21 * t + 3 * j + 2) = g (63 + 21 * t + 3 * j) from congrArg g (by omega), hcv]
            refine ev_istore_8 dX10_reaches_96 rfl rfl ?_
            refine ev_iload_5 dX10_reaches_98 ?_
            refine ev_bipush_32 dX10_reaches_100 ?_
            refine ev_iand dX10_reaches_102 ?_
            refine ev_if_eq (tgt := 110) dX10_reaches_103 (by decide) (fun h103 => ?_) (fun h103 => ?_)
            · refine ev_iconst_0 dX10_reaches_110 ?_
              refine ev_istore_9 dX10_reaches_111 rfl rfl ?_
              refine ev_lconst_0 dX10_reaches_113 ?_
              refine ev_lstore_10 dX10_reaches_114 rfl rfl ?_
              refine ev_iconst_0 dX10_reaches_116 ?_
              refine ev_istore_12 dX10_reaches_117 rfl rfl ?_
              have hqu : true = decide (¬ mkG g t j &&& 1 = 0) := by
                rw [emk, (mk_chk md hmd).1]
                first
                | (simp [h18]; done)
                | (simp [h18, h25]; done)
              have htk : true = decide (¬ mkG g t j &&& 2 = 0) := by
                rw [emk, (mk_chk md hmd).2.1]
                first
                | (simp [h39]; done)
                | (simp [h39, h46]; done)
              have hww : 0 = hopN (mkG g t j) := by
                rw [emk, (mk_chk md hmd).2.2]
                first
                | (rw [if_pos h103]; done)
                | (rw [if_neg h103]; done)
              exact Ev.to (by rfl) rfl rfl (c_rch1_119 hm znow_3 hG (qu := true) (tk := true) (ms := ec) (w := 0) hs (by omega) (by omega) hf hd hLb (fun acc hacc => ⟨setL_of (fun z hz => (hacc z hz).trans (part_eq hG hW hf hs ht hj hmd em hqu htk hww (Or.inl (by rw [rcG, reachG, if_neg h65, if_neg h80, hcv, nI_clamp (by omega)])))), hfe⟩) _ 0 rfl (Nat.zero_le _) 0 (fun z _ => by rw [lb_0]; rfl))
            · refine ev_iconst_1 dX10_reaches_106 ?_
              refine ev_goto (tgt := 111) dX10_reaches_107 (by decide) ?_
              refine ev_istore_9 dX10_reaches_111 rfl rfl ?_
              refine ev_lconst_0 dX10_reaches_113 ?_
              refine ev_lstore_10 dX10_reaches_114 rfl rfl ?_
              refine ev_iconst_0 dX10_reaches_116 ?_
              refine ev_istore_12 dX10_reaches_117 rfl rfl ?_
              have hqu : true = decide (¬ mkG g t j &&& 1 = 0) := by
                rw [emk, (mk_chk md hmd).1]
                first
                | (simp [h18]; done)
                | (simp [h18, h25]; done)
              have htk : true = decide (¬ mkG g t j &&& 2 = 0) := by
                rw [emk, (mk_chk md hmd).2.1]
                first
                | (simp [h39]; done)
                | (simp [h39, h46]; done)
              have hww : 1 = hopN (mkG g t j) := by
                rw [emk, (mk_chk md hmd).2.2]
                first
                | (rw [if_pos h103]; done)
                | (rw [if_neg h103]; done)
              exact Ev.to (by rfl) rfl rfl (c_rch1_119 hm znow_3 hG (qu := true) (tk := true) (ms := ec) (w := 1) hs (by omega) (by omega) hf hd hLb (fun acc hacc => ⟨setL_of (fun z hz => (hacc z hz).trans (part_eq hG hW hf hs ht hj hmd em hqu htk hww (Or.inl (by rw [rcG, reachG, if_neg h65, if_neg h80, hcv, nI_clamp (by omega)])))), hfe⟩) _ 0 rfl (Nat.zero_le _) 0 (fun z _ => by rw [lb_0]; rfl))
          · refine ev_bipush_6 dX10_reaches_83 ?_
            refine ev_goto (tgt := 96) dX10_reaches_85 (by decide) ?_
            refine ev_istore_8 dX10_reaches_96 rfl rfl ?_
            refine ev_iload_5 dX10_reaches_98 ?_
            refine ev_bipush_32 dX10_reaches_100 ?_
            refine ev_iand dX10_reaches_102 ?_
            refine ev_if_eq (tgt := 110) dX10_reaches_103 (by decide) (fun h103 => ?_) (fun h103 => ?_)
            · refine ev_iconst_0 dX10_reaches_110 ?_
              refine ev_istore_9 dX10_reaches_111 rfl rfl ?_
              refine ev_lconst_0 dX10_reaches_113 ?_
              refine ev_lstore_10 dX10_reaches_114 rfl rfl ?_
              refine ev_iconst_0 dX10_reaches_116 ?_
              refine ev_istore_12 dX10_reaches_117 rfl rfl ?_
              have hqu : true = decide (¬ mkG g t j &&& 1 = 0) := by
                rw [emk, (mk_chk md hmd).1]
                first
                | (simp [h18]; done)
                | (simp [h18, h25]; done)
              have htk : true = decide (¬ mkG g t j &&& 2 = 0) := by
                rw [emk, (mk_chk md hmd).2.1]
                first
                | (simp [h39]; done)
                | (simp [h39, h46]; done)
              have hww : 0 = hopN (mkG g t j) := by
                rw [emk, (mk_chk md hmd).2.2]
                first
                | (rw [if_pos h103]; done)
                | (rw [if_neg h103]; done)
              exact Ev.to (by rfl) rfl rfl (c_rch1_119 hm znow_3 hG (qu := true) (tk := true) (ms := 6) (w := 0) hs (by omega) (by omega) hf hd hLb (fun acc hacc => ⟨setL_of (fun z hz => (hacc z hz).trans (part_eq hG hW hf hs ht hj hmd em hqu htk hww (Or.inr ⟨rfl, by rw [rcG, reachG, if_neg h65, if_pos h80]⟩))), hfe⟩) _ 0 rfl (Nat.zero_le _) 0 (fun z _ => by rw [lb_0]; rfl))
            · refine ev_iconst_1 dX10_reaches_106 ?_
              refine ev_goto (tgt := 111) dX10_reaches_107 (by decide) ?_
              refine ev_istore_9 dX10_reaches_111 rfl rfl ?_
              refine ev_lconst_0 dX10_reaches_113 ?_
              refine ev_lstore_10 dX10_reaches_114 rfl rfl ?_
              refine ev_iconst_0 dX10_reaches_116 ?_
              refine ev_istore_12 dX10_reaches_117 rfl rfl ?_
              have hqu : true = decide (¬ mkG g t j &&& 1 = 0) := by
                rw [emk, (mk_chk md hmd).1]
                first
                | (simp [h18]; done)
                | (simp [h18, h25]; done)
              have htk : true = decide (¬ mkG g t j &&& 2 = 0) := by
                rw [emk, (mk_chk md hmd).2.1]
                first
                | (simp [h39]; done)
                | (simp [h39, h46]; done)
              have hww : 1 = hopN (mkG g t j) := by
                rw [emk, (mk_chk md hmd).2.2]
                first
                | (rw [if_pos h103]; done)
                | (rw [if_neg h103]; done)
              exact Ev.to (by rfl) rfl rfl (c_rch1_119 hm znow_3 hG (qu := true) (tk := true) (ms := 6) (w := 1) hs (by omega) (by omega) hf hd hLb (fun acc hacc => ⟨setL_of (fun z hz => (hacc z hz).trans (part_eq hG hW hf hs ht hj hmd em hqu htk hww (Or.inr ⟨rfl, by rw [rcG, reachG, if_neg h65, if_pos h80]⟩))), hfe⟩) _ 0 rfl (Nat.zero_le _) 0 (fun z _ => by rw [lb_0]; rfl))
        · refine ev_iconst_1 dX10_reaches_68 ?_
          refine ev_goto (tgt := 96) dX10_reaches_69 (by decide) ?_
          refine ev_istore_8 dX10_reaches_96 rfl rfl ?_
          refine ev_iload_5 dX10_reaches_98 ?_
          refine ev_bipush_32 dX10_reaches_100 ?_
          refine ev_iand dX10_reaches_102 ?_
          refine ev_if_eq (tgt := 110) dX10_reaches_103 (by decide) (fun h103 => ?_) (fun h103 => ?_)
          · refine ev_iconst_0 dX10_reaches_110 ?_
            refine ev_istore_9 dX10_reaches_111 rfl rfl ?_
            refine ev_lconst_0 dX10_reaches_113 ?_
            refine ev_lstore_10 dX10_reaches_114 rfl rfl ?_
            refine ev_iconst_0 dX10_reaches_116 ?_
            refine ev_istore_12 dX10_reaches_117 rfl rfl ?_
            have hqu : true = decide (¬ mkG g t j &&& 1 = 0) := by
              rw [emk, (mk_chk md hmd).1]
              first
              | (simp [h18]; done)
              | (simp [h18, h25]; done)
            have htk : true = decide (¬ mkG g t j &&& 2 = 0) := by
              rw [emk, (mk_chk md hmd).2.1]
              first
              | (simp [h39]; done)
              | (simp [h39, h46]; done)
            have hww : 0 = hopN (mkG g t j) := by
              rw [emk, (mk_chk md hmd).2.2]
              first
              | (rw [if_pos h103]; done)
              | (rw [if_neg h103]; done)
            exact Ev.to (by rfl) rfl rfl (c_rch1_119 hm znow_3 hG (qu := true) (tk := true) (ms := 1) (w := 0) hs (by omega) (by omega) hf hd hLb (fun acc hacc => ⟨setL_of (fun z hz => (hacc z hz).trans (part_eq hG hW hf hs ht hj hmd em hqu htk hww (Or.inl (by rw [rcG, reachG, if_pos h65])))), hfe⟩) _ 0 rfl (Nat.zero_le _) 0 (fun z _ => by rw [lb_0]; rfl))
          · refine ev_iconst_1 dX10_reaches_106 ?_
            refine ev_goto (tgt := 111) dX10_reaches_107 (by decide) ?_
            refine ev_istore_9 dX10_reaches_111 rfl rfl ?_
            refine ev_lconst_0 dX10_reaches_113 ?_
            refine ev_lstore_10 dX10_reaches_114 rfl rfl ?_
            refine ev_iconst_0 dX10_reaches_116 ?_
            refine ev_istore_12 dX10_reaches_117 rfl rfl ?_
            have hqu : true = decide (¬ mkG g t j &&& 1 = 0) := by
              rw [emk, (mk_chk md hmd).1]
              first
              | (simp [h18]; done)
              | (simp [h18, h25]; done)
            have htk : true = decide (¬ mkG g t j &&& 2 = 0) := by
              rw [emk, (mk_chk md hmd).2.1]
              first
              | (simp [h39]; done)
              | (simp [h39, h46]; done)
            have hww : 1 = hopN (mkG g t j) := by
              rw [emk, (mk_chk md hmd).2.2]
              first
              | (rw [if_pos h103]; done)
              | (rw [if_neg h103]; done)
            exact Ev.to (by rfl) rfl rfl (c_rch1_119 hm znow_3 hG (qu := true) (tk := true) (ms := 1) (w := 1) hs (by omega) (by omega) hf hd hLb (fun acc hacc => ⟨setL_of (fun z hz => (hacc z hz).trans (part_eq hG hW hf hs ht hj hmd em hqu htk hww (Or.inl (by rw [rcG, reachG, if_pos h65])))), hfe⟩) _ 0 rfl (Nat.zero_le _) 0 (fun z _ => by rw [lb_0]; rfl))
  · refine ev_iload_5 dX10_reaches_21 ?_
    refine ev_iconst_2 dX10_reaches_23 ?_
    refine ev_iand dX10_reaches_24 ?_
    refine ev_if_ne (tgt := 32) dX10_reaches_25 (by decide) (fun h25 => ?_) (fun h25 => ?_)
    · refine ev_iconst_0 dX10_reaches_32 ?_
      refine ev_istore_6 dX10_reaches_33 rfl rfl ?_
      refine ev_iload_5 dX10_reaches_35 ?_
      refine ev_iconst_2 dX10_reaches_37 ?_
      refine ev_iand dX10_reaches_38 ?_
      refine ev_if_ne (tgt := 49) dX10_reaches_39 (by decide) (fun h39 => ?_) (fun h39 => ?_)
      · refine ev_iconst_1 dX10_reaches_49 ?_
        refine ev_goto (tgt := 54) dX10_reaches_50 (by decide) ?_
        refine ev_istore_7 dX10_reaches_54 rfl rfl ?_
        refine ev_aload_0 dX10_reaches_56 ?_
        refine gf_X10_11 dX10_reaches_57 hm.1 rfl ?_
        refine ev_iload_1 dX10_reaches_60 ?_
        refine ev_iconst_2 dX10_reaches_61 ?_
        refine ev_iadd dX10_reaches_62 ?_
        rw [show nI (61 + 21 * t + 3 * j) + (2 : Int32) = nI (61 + 21 * t + 3 * j + 2) from nI_add (61 + 21 * t + 3 * j) (2)]
        refine ev_ldk (k := 61 + 21 * t + 3 * j + 2) hm.2.1 znow_3 rfl (by omega) (by decide) dX10_reaches_63 ?_
        rw [show g (61 + 21 * t + 3 * j + 2) = g (63 + 21 * t + 3 * j) from congrArg g (by omega)]
        refine ev_iconst_m1 dX10_reaches_64 ?_
        refine ev_icmp_ne (tgt := 72) dX10_reaches_65 (by decide) (fun h65 => ?_) (fun h65 => ?_)
        · refine ev_aload_0 dX10_reaches_72 ?_
          refine gf_X10_11 dX10_reaches_73 hm.1 rfl ?_
          refine ev_iload_1 dX10_reaches_76 ?_
          refine ev_iconst_2 dX10_reaches_77 ?_
          refine ev_iadd dX10_reaches_78 ?_
          rw [show nI (61 + 21 * t + 3 * j) + (2 : Int32) = nI (61 + 21 * t + 3 * j + 2) from nI_add (61 + 21 * t + 3 * j) (2)]
          refine ev_ldk (k := 61 + 21 * t + 3 * j + 2) hm.2.1 znow_3 rfl (by omega) (by decide) dX10_reaches_79 ?_
          rw [show g (61 + 21 * t + 3 * j + 2) = g (63 + 21 * t + 3 * j) from congrArg g (by omega)]
          refine ev_if_ne (tgt := 88) dX10_reaches_80 (by decide) (fun h80 => ?_) (fun h80 => ?_)
          · obtain ⟨ec, hec, hcv⟩ := hcd.resolve_left h65
            refine ev_aload_0 dX10_reaches_88 ?_
            refine gf_X10_11 dX10_reaches_89 hm.1 rfl ?_
            refine ev_iload_1 dX10_reaches_92 ?_
            refine ev_iconst_2 dX10_reaches_93 ?_
            refine ev_iadd dX10_reaches_94 ?_
            rw [show nI (61 + 21 * t + 3 * j) + (2 : Int32) = nI (61 + 21 * t + 3 * j + 2) from nI_add (61 + 21 * t + 3 * j) (2)]
            refine ev_ldk (k := 61 + 21 * t + 3 * j + 2) hm.2.1 znow_3 rfl (by omega) (by decide) dX10_reaches_95 ?_
            rw [show g (61 + 21 * t + 3 * j + 2) = g (63 + 21 * t + 3 * j) from congrArg g (by omega), hcv]
            refine ev_istore_8 dX10_reaches_96 rfl rfl ?_
            refine ev_iload_5 dX10_reaches_98 ?_
            refine ev_bipush_32 dX10_reaches_100 ?_
            refine ev_iand dX10_reaches_102 ?_
            refine ev_if_eq (tgt := 110) dX10_reaches_103 (by decide) (fun h103 => ?_) (fun h103 => ?_)
            · refine ev_iconst_0 dX10_reaches_110 ?_
              refine ev_istore_9 dX10_reaches_111 rfl rfl ?_
              refine ev_lconst_0 dX10_reaches_113 ?_
              refine ev_lstore_10 dX10_reaches_114 rfl rfl ?_
              refine ev_iconst_0 dX10_reaches_116 ?_
              refine ev_istore_12 dX10_reaches_117 rfl rfl ?_
              have hqu : false = decide (¬ mkG g t j &&& 1 = 0) := by
                rw [emk, (mk_chk md hmd).1]
                first
                | (simp [h18]; done)
                | (simp [h18, h25]; done)
              have htk : true = decide (¬ mkG g t j &&& 2 = 0) := by
                rw [emk, (mk_chk md hmd).2.1]
                first
                | (simp [h39]; done)
                | (simp [h39, h46]; done)
              have hww : 0 = hopN (mkG g t j) := by
                rw [emk, (mk_chk md hmd).2.2]
                first
                | (rw [if_pos h103]; done)
                | (rw [if_neg h103]; done)
              exact Ev.to (by rfl) rfl rfl (c_rch1_119 hm znow_3 hG (qu := false) (tk := true) (ms := ec) (w := 0) hs (by omega) (by omega) hf hd hLb (fun acc hacc => ⟨setL_of (fun z hz => (hacc z hz).trans (part_eq hG hW hf hs ht hj hmd em hqu htk hww (Or.inl (by rw [rcG, reachG, if_neg h65, if_neg h80, hcv, nI_clamp (by omega)])))), hfe⟩) _ 0 rfl (Nat.zero_le _) 0 (fun z _ => by rw [lb_0]; rfl))
            · refine ev_iconst_1 dX10_reaches_106 ?_
              refine ev_goto (tgt := 111) dX10_reaches_107 (by decide) ?_
              refine ev_istore_9 dX10_reaches_111 rfl rfl ?_
              refine ev_lconst_0 dX10_reaches_113 ?_
              refine ev_lstore_10 dX10_reaches_114 rfl rfl ?_
              refine ev_iconst_0 dX10_reaches_116 ?_
              refine ev_istore_12 dX10_reaches_117 rfl rfl ?_
              have hqu : false = decide (¬ mkG g t j &&& 1 = 0) := by
                rw [emk, (mk_chk md hmd).1]
                first
                | (simp [h18]; done)
                | (simp [h18, h25]; done)
              have htk : true = decide (¬ mkG g t j &&& 2 = 0) := by
                rw [emk, (mk_chk md hmd).2.1]
                first
                | (simp [h39]; done)
                | (simp [h39, h46]; done)
              have hww : 1 = hopN (mkG g t j) := by
                rw [emk, (mk_chk md hmd).2.2]
                first
                | (rw [if_pos h103]; done)
                | (rw [if_neg h103]; done)
              exact Ev.to (by rfl) rfl rfl (c_rch1_119 hm znow_3 hG (qu := false) (tk := true) (ms := ec) (w := 1) hs (by omega) (by omega) hf hd hLb (fun acc hacc => ⟨setL_of (fun z hz => (hacc z hz).trans (part_eq hG hW hf hs ht hj hmd em hqu htk hww (Or.inl (by rw [rcG, reachG, if_neg h65, if_neg h80, hcv, nI_clamp (by omega)])))), hfe⟩) _ 0 rfl (Nat.zero_le _) 0 (fun z _ => by rw [lb_0]; rfl))
          · refine ev_bipush_6 dX10_reaches_83 ?_
            refine ev_goto (tgt := 96) dX10_reaches_85 (by decide) ?_
            refine ev_istore_8 dX10_reaches_96 rfl rfl ?_
            refine ev_iload_5 dX10_reaches_98 ?_
            refine ev_bipush_32 dX10_reaches_100 ?_
            refine ev_iand dX10_reaches_102 ?_
            refine ev_if_eq (tgt := 110) dX10_reaches_103 (by decide) (fun h103 => ?_) (fun h103 => ?_)
            · refine ev_iconst_0 dX10_reaches_110 ?_
              refine ev_istore_9 dX10_reaches_111 rfl rfl ?_
              refine ev_lconst_0 dX10_reaches_113 ?_
              refine ev_lstore_10 dX10_reaches_114 rfl rfl ?_
              refine ev_iconst_0 dX10_reaches_116 ?_
              refine ev_istore_12 dX10_reaches_117 rfl rfl ?_
              have hqu : false = decide (¬ mkG g t j &&& 1 = 0) := by
                rw [emk, (mk_chk md hmd).1]
                first
                | (simp [h18]; done)
                | (simp [h18, h25]; done)
              have htk : true = decide (¬ mkG g t j &&& 2 = 0) := by
                rw [emk, (mk_chk md hmd).2.1]
                first
                | (simp [h39]; done)
                | (simp [h39, h46]; done)
              have hww : 0 = hopN (mkG g t j) := by
                rw [emk, (mk_chk md hmd).2.2]
                first
                | (rw [if_pos h103]; done)
                | (rw [if_neg h103]; done)
              exact Ev.to (by rfl) rfl rfl (c_rch1_119 hm znow_3 hG (qu := false) (tk := true) (ms := 6) (w := 0) hs (by omega) (by omega) hf hd hLb (fun acc hacc => ⟨setL_of (fun z hz => (hacc z hz).trans (part_eq hG hW hf hs ht hj hmd em hqu htk hww (Or.inr ⟨rfl, by rw [rcG, reachG, if_neg h65, if_pos h80]⟩))), hfe⟩) _ 0 rfl (Nat.zero_le _) 0 (fun z _ => by rw [lb_0]; rfl))
            · refine ev_iconst_1 dX10_reaches_106 ?_
              refine ev_goto (tgt := 111) dX10_reaches_107 (by decide) ?_
              refine ev_istore_9 dX10_reaches_111 rfl rfl ?_
              refine ev_lconst_0 dX10_reaches_113 ?_
              refine ev_lstore_10 dX10_reaches_114 rfl rfl ?_
              refine ev_iconst_0 dX10_reaches_116 ?_
              refine ev_istore_12 dX10_reaches_117 rfl rfl ?_
              have hqu : false = decide (¬ mkG g t j &&& 1 = 0) := by
                rw [emk, (mk_chk md hmd).1]
                first
                | (simp [h18]; done)
                | (simp [h18, h25]; done)
              have htk : true = decide (¬ mkG g t j &&& 2 = 0) := by
                rw [emk, (mk_chk md hmd).2.1]
                first
                | (simp [h39]; done)
                | (simp [h39, h46]; done)
              have hww : 1 = hopN (mkG g t j) := by
                rw [emk, (mk_chk md hmd).2.2]
                first
                | (rw [if_pos h103]; done)
                | (rw [if_neg h103]; done)
              exact Ev.to (by rfl) rfl rfl (c_rch1_119 hm znow_3 hG (qu := false) (tk := true) (ms := 6) (w := 1) hs (by omega) (by omega) hf hd hLb (fun acc hacc => ⟨setL_of (fun z hz => (hacc z hz).trans (part_eq hG hW hf hs ht hj hmd em hqu htk hww (Or.inr ⟨rfl, by rw [rcG, reachG, if_neg h65, if_pos h80]⟩))), hfe⟩) _ 0 rfl (Nat.zero_le _) 0 (fun z _ => by rw [lb_0]; rfl))
        · refine ev_iconst_1 dX10_reaches_68 ?_
          refine ev_goto (tgt := 96) dX10_reaches_69 (by decide) ?_
          refine ev_istore_8 dX10_reaches_96 rfl rfl ?_
          refine ev_iload_5 dX10_reaches_98 ?_
          refine ev_bipush_32 dX10_reaches_100 ?_
          refine ev_iand dX10_reaches_102 ?_
          refine ev_if_eq (tgt := 110) dX10_reaches_103 (by decide) (fun h103 => ?_) (fun h103 => ?_)
          · refine ev_iconst_0 dX10_reaches_110 ?_
            refine ev_istore_9 dX10_reaches_111 rfl rfl ?_
            refine ev_lconst_0 dX10_reaches_113 ?_
            refine ev_lstore_10 dX10_reaches_114 rfl rfl ?_
            refine ev_iconst_0 dX10_reaches_116 ?_
            refine ev_istore_12 dX10_reaches_117 rfl rfl ?_
            have hqu : false = decide (¬ mkG g t j &&& 1 = 0) := by
              rw [emk, (mk_chk md hmd).1]
              first
              | (simp [h18]; done)
              | (simp [h18, h25]; done)
            have htk : true = decide (¬ mkG g t j &&& 2 = 0) := by
              rw [emk, (mk_chk md hmd).2.1]
              first
              | (simp [h39]; done)
              | (simp [h39, h46]; done)
            have hww : 0 = hopN (mkG g t j) := by
              rw [emk, (mk_chk md hmd).2.2]
              first
              | (rw [if_pos h103]; done)
              | (rw [if_neg h103]; done)
            exact Ev.to (by rfl) rfl rfl (c_rch1_119 hm znow_3 hG (qu := false) (tk := true) (ms := 1) (w := 0) hs (by omega) (by omega) hf hd hLb (fun acc hacc => ⟨setL_of (fun z hz => (hacc z hz).trans (part_eq hG hW hf hs ht hj hmd em hqu htk hww (Or.inl (by rw [rcG, reachG, if_pos h65])))), hfe⟩) _ 0 rfl (Nat.zero_le _) 0 (fun z _ => by rw [lb_0]; rfl))
          · refine ev_iconst_1 dX10_reaches_106 ?_
            refine ev_goto (tgt := 111) dX10_reaches_107 (by decide) ?_
            refine ev_istore_9 dX10_reaches_111 rfl rfl ?_
            refine ev_lconst_0 dX10_reaches_113 ?_
            refine ev_lstore_10 dX10_reaches_114 rfl rfl ?_
            refine ev_iconst_0 dX10_reaches_116 ?_
            refine ev_istore_12 dX10_reaches_117 rfl rfl ?_
            have hqu : false = decide (¬ mkG g t j &&& 1 = 0) := by
              rw [emk, (mk_chk md hmd).1]
              first
              | (simp [h18]; done)
              | (simp [h18, h25]; done)
            have htk : true = decide (¬ mkG g t j &&& 2 = 0) := by
              rw [emk, (mk_chk md hmd).2.1]
              first
              | (simp [h39]; done)
              | (simp [h39, h46]; done)
            have hww : 1 = hopN (mkG g t j) := by
              rw [emk, (mk_chk md hmd).2.2]
              first
              | (rw [if_pos h103]; done)
              | (rw [if_neg h103]; done)
            exact Ev.to (by rfl) rfl rfl (c_rch1_119 hm znow_3 hG (qu := false) (tk := true) (ms := 1) (w := 1) hs (by omega) (by omega) hf hd hLb (fun acc hacc => ⟨setL_of (fun z hz => (hacc z hz).trans (part_eq hG hW hf hs ht hj hmd em hqu htk hww (Or.inl (by rw [rcG, reachG, if_pos h65])))), hfe⟩) _ 0 rfl (Nat.zero_le _) 0 (fun z _ => by rw [lb_0]; rfl))
      · refine ev_iload_5 dX10_reaches_42 ?_
        refine ev_iconst_1 dX10_reaches_44 ?_
        refine ev_iand dX10_reaches_45 ?_
        refine ev_if_ne (tgt := 53) dX10_reaches_46 (by decide) (fun h46 => ?_) (fun h46 => ?_)
        · refine ev_iconst_0 dX10_reaches_53 ?_
          refine ev_istore_7 dX10_reaches_54 rfl rfl ?_
          refine ev_aload_0 dX10_reaches_56 ?_
          refine gf_X10_11 dX10_reaches_57 hm.1 rfl ?_
          refine ev_iload_1 dX10_reaches_60 ?_
          refine ev_iconst_2 dX10_reaches_61 ?_
          refine ev_iadd dX10_reaches_62 ?_
          rw [show nI (61 + 21 * t + 3 * j) + (2 : Int32) = nI (61 + 21 * t + 3 * j + 2) from nI_add (61 + 21 * t + 3 * j) (2)]
          refine ev_ldk (k := 61 + 21 * t + 3 * j + 2) hm.2.1 znow_3 rfl (by omega) (by decide) dX10_reaches_63 ?_
          rw [show g (61 + 21 * t + 3 * j + 2) = g (63 + 21 * t + 3 * j) from congrArg g (by omega)]
          refine ev_iconst_m1 dX10_reaches_64 ?_
          refine ev_icmp_ne (tgt := 72) dX10_reaches_65 (by decide) (fun h65 => ?_) (fun h65 => ?_)
          · refine ev_aload_0 dX10_reaches_72 ?_
            refine gf_X10_11 dX10_reaches_73 hm.1 rfl ?_
            refine ev_iload_1 dX10_reaches_76 ?_
            refine ev_iconst_2 dX10_reaches_77 ?_
            refine ev_iadd dX10_reaches_78 ?_
            rw [show nI (61 + 21 * t + 3 * j) + (2 : Int32) = nI (61 + 21 * t + 3 * j + 2) from nI_add (61 + 21 * t + 3 * j) (2)]
            refine ev_ldk (k := 61 + 21 * t + 3 * j + 2) hm.2.1 znow_3 rfl (by omega) (by decide) dX10_reaches_79 ?_
            rw [show g (61 + 21 * t + 3 * j + 2) = g (63 + 21 * t + 3 * j) from congrArg g (by omega)]
            refine ev_if_ne (tgt := 88) dX10_reaches_80 (by decide) (fun h80 => ?_) (fun h80 => ?_)
            · obtain ⟨ec, hec, hcv⟩ := hcd.resolve_left h65
              refine ev_aload_0 dX10_reaches_88 ?_
              refine gf_X10_11 dX10_reaches_89 hm.1 rfl ?_
              refine ev_iload_1 dX10_reaches_92 ?_
              refine ev_iconst_2 dX10_reaches_93 ?_
              refine ev_iadd dX10_reaches_94 ?_
              rw [show nI (61 + 21 * t + 3 * j) + (2 : Int32) = nI (61 + 21 * t + 3 * j + 2) from nI_add (61 + 21 * t + 3 * j) (2)]
              refine ev_ldk (k := 61 + 21 * t + 3 * j + 2) hm.2.1 znow_3 rfl (by omega) (by decide) dX10_reaches_95 ?_
              rw [show g (61 + 21 * t + 3 * j + 2) = g (63 + 21 * t + 3 * j) from congrArg g (by omega), hcv]
              refine ev_istore_8 dX10_reaches_96 rfl rfl ?_
              refine ev_iload_5 dX10_reaches_98 ?_
              refine ev_bipush_32 dX10_reaches_100 ?_
              refine ev_iand dX10_reaches_102 ?_
              refine ev_if_eq (tgt := 110) dX10_reaches_103 (by decide) (fun h103 => ?_) (fun h103 => ?_)
              · refine ev_iconst_0 dX10_reaches_110 ?_
                refine ev_istore_9 dX10_reaches_111 rfl rfl ?_
                refine ev_lconst_0 dX10_reaches_113 ?_
                refine ev_lstore_10 dX10_reaches_114 rfl rfl ?_
                refine ev_iconst_0 dX10_reaches_116 ?_
                refine ev_istore_12 dX10_reaches_117 rfl rfl ?_
                have hqu : false = decide (¬ mkG g t j &&& 1 = 0) := by
                  rw [emk, (mk_chk md hmd).1]
                  first
                  | (simp [h18]; done)
                  | (simp [h18, h25]; done)
                have htk : false = decide (¬ mkG g t j &&& 2 = 0) := by
                  rw [emk, (mk_chk md hmd).2.1]
                  first
                  | (simp [h39]; done)
                  | (simp [h39, h46]; done)
                have hww : 0 = hopN (mkG g t j) := by
                  rw [emk, (mk_chk md hmd).2.2]
                  first
                  | (rw [if_pos h103]; done)
                  | (rw [if_neg h103]; done)
                exact Ev.to (by rfl) rfl rfl (c_rch1_119 hm znow_3 hG (qu := false) (tk := false) (ms := ec) (w := 0) hs (by omega) (by omega) hf hd hLb (fun acc hacc => ⟨setL_of (fun z hz => (hacc z hz).trans (part_eq hG hW hf hs ht hj hmd em hqu htk hww (Or.inl (by rw [rcG, reachG, if_neg h65, if_neg h80, hcv, nI_clamp (by omega)])))), hfe⟩) _ 0 rfl (Nat.zero_le _) 0 (fun z _ => by rw [lb_0]; rfl))
              · refine ev_iconst_1 dX10_reaches_106 ?_
                refine ev_goto (tgt := 111) dX10_reaches_107 (by decide) ?_
                refine ev_istore_9 dX10_reaches_111 rfl rfl ?_
                refine ev_lconst_0 dX10_reaches_113 ?_
                refine ev_lstore_10 dX10_reaches_114 rfl rfl ?_
                refine ev_iconst_0 dX10_reaches_116 ?_
                refine ev_istore_12 dX10_reaches_117 rfl rfl ?_
                have hqu : false = decide (¬ mkG g t j &&& 1 = 0) := by
                  rw [emk, (mk_chk md hmd).1]
                  first
                  | (simp [h18]; done)
                  | (simp [h18, h25]; done)
                have htk : false = decide (¬ mkG g t j &&& 2 = 0) := by
                  rw [emk, (mk_chk md hmd).2.1]
                  first
                  | (simp [h39]; done)
                  | (simp [h39, h46]; done)
                have hww : 1 = hopN (mkG g t j) := by
                  rw [emk, (mk_chk md hmd).2.2]
                  first
                  | (rw [if_pos h103]; done)
                  | (rw [if_neg h103]; done)
                exact Ev.to (by rfl) rfl rfl (c_rch1_119 hm znow_3 hG (qu := false) (tk := false) (ms := ec) (w := 1) hs (by omega) (by omega) hf hd hLb (fun acc hacc => ⟨setL_of (fun z hz => (hacc z hz).trans (part_eq hG hW hf hs ht hj hmd em hqu htk hww (Or.inl (by rw [rcG, reachG, if_neg h65, if_neg h80, hcv, nI_clamp (by omega)])))), hfe⟩) _ 0 rfl (Nat.zero_le _) 0 (fun z _ => by rw [lb_0]; rfl))
            · refine ev_bipush_6 dX10_reaches_83 ?_
              refine ev_goto (tgt := 96) dX10_reaches_85 (by decide) ?_
              refine ev_istore_8 dX10_reaches_96 rfl rfl ?_
              refine ev_iload_5 dX10_reaches_98 ?_
              refine ev_bipush_32 dX10_reaches_100 ?_
              refine ev_iand dX10_reaches_102 ?_
              refine ev_if_eq (tgt := 110) dX10_reaches_103 (by decide) (fun h103 => ?_) (fun h103 => ?_)
              · refine ev_iconst_0 dX10_reaches_110 ?_
                refine ev_istore_9 dX10_reaches_111 rfl rfl ?_
                refine ev_lconst_0 dX10_reaches_113 ?_
                refine ev_lstore_10 dX10_reaches_114 rfl rfl ?_
                refine ev_iconst_0 dX10_reaches_116 ?_
                refine ev_istore_12 dX10_reaches_117 rfl rfl ?_
                have hqu : false = decide (¬ mkG g t j &&& 1 = 0) := by
                  rw [emk, (mk_chk md hmd).1]
                  first
                  | (simp [h18]; done)
                  | (simp [h18, h25]; done)
                have htk : false = decide (¬ mkG g t j &&& 2 = 0) := by
                  rw [emk, (mk_chk md hmd).2.1]
                  first
                  | (simp [h39]; done)
                  | (simp [h39, h46]; done)
                have hww : 0 = hopN (mkG g t j) := by
                  rw [emk, (mk_chk md hmd).2.2]
                  first
                  | (rw [if_pos h103]; done)
                  | (rw [if_neg h103]; done)
                exact Ev.to (by rfl) rfl rfl (c_rch1_119 hm znow_3 hG (qu := false) (tk := false) (ms := 6) (w := 0) hs (by omega) (by omega) hf hd hLb (fun acc hacc => ⟨setL_of (fun z hz => (hacc z hz).trans (part_eq hG hW hf hs ht hj hmd em hqu htk hww (Or.inr ⟨rfl, by rw [rcG, reachG, if_neg h65, if_pos h80]⟩))), hfe⟩) _ 0 rfl (Nat.zero_le _) 0 (fun z _ => by rw [lb_0]; rfl))
              · refine ev_iconst_1 dX10_reaches_106 ?_
                refine ev_goto (tgt := 111) dX10_reaches_107 (by decide) ?_
                refine ev_istore_9 dX10_reaches_111 rfl rfl ?_
                refine ev_lconst_0 dX10_reaches_113 ?_
                refine ev_lstore_10 dX10_reaches_114 rfl rfl ?_
                refine ev_iconst_0 dX10_reaches_116 ?_
                refine ev_istore_12 dX10_reaches_117 rfl rfl ?_
                have hqu : false = decide (¬ mkG g t j &&& 1 = 0) := by
                  rw [emk, (mk_chk md hmd).1]
                  first
                  | (simp [h18]; done)
                  | (simp [h18, h25]; done)
                have htk : false = decide (¬ mkG g t j &&& 2 = 0) := by
                  rw [emk, (mk_chk md hmd).2.1]
                  first
                  | (simp [h39]; done)
                  | (simp [h39, h46]; done)
                have hww : 1 = hopN (mkG g t j) := by
                  rw [emk, (mk_chk md hmd).2.2]
                  first
                  | (rw [if_pos h103]; done)
                  | (rw [if_neg h103]; done)
                exact Ev.to (by rfl) rfl rfl (c_rch1_119 hm znow_3 hG (qu := false) (tk := false) (ms := 6) (w := 1) hs (by omega) (by omega) hf hd hLb (fun acc hacc => ⟨setL_of (fun z hz => (hacc z hz).trans (part_eq hG hW hf hs ht hj hmd em hqu htk hww (Or.inr ⟨rfl, by rw [rcG, reachG, if_neg h65, if_pos h80]⟩))), hfe⟩) _ 0 rfl (Nat.zero_le _) 0 (fun z _ => by rw [lb_0]; rfl))
          · refine ev_iconst_1 dX10_reaches_68 ?_
            refine ev_goto (tgt := 96) dX10_reaches_69 (by decide) ?_
            refine ev_istore_8 dX10_reaches_96 rfl rfl ?_
            refine ev_iload_5 dX10_reaches_98 ?_
            refine ev_bipush_32 dX10_reaches_100 ?_
            refine ev_iand dX10_reaches_102 ?_
            refine ev_if_eq (tgt := 110) dX10_reaches_103 (by decide) (fun h103 => ?_) (fun h103 => ?_)
            · refine ev_iconst_0 dX10_reaches_110 ?_
              refine ev_istore_9 dX10_reaches_111 rfl rfl ?_
              refine ev_lconst_0 dX10_reaches_113 ?_
              refine ev_lstore_10 dX10_reaches_114 rfl rfl ?_
              refine ev_iconst_0 dX10_reaches_116 ?_
              refine ev_istore_12 dX10_reaches_117 rfl rfl ?_
              have hqu : false = decide (¬ mkG g t j &&& 1 = 0) := by
                rw [emk, (mk_chk md hmd).1]
                first
                | (simp [h18]; done)
                | (simp [h18, h25]; done)
              have htk : false = decide (¬ mkG g t j &&& 2 = 0) := by
                rw [emk, (mk_chk md hmd).2.1]
                first
                | (simp [h39]; done)
                | (simp [h39, h46]; done)
              have hww : 0 = hopN (mkG g t j) := by
                rw [emk, (mk_chk md hmd).2.2]
                first
                | (rw [if_pos h103]; done)
                | (rw [if_neg h103]; done)
              exact Ev.to (by rfl) rfl rfl (c_rch1_119 hm znow_3 hG (qu := false) (tk := false) (ms := 1) (w := 0) hs (by omega) (by omega) hf hd hLb (fun acc hacc => ⟨setL_of (fun z hz => (hacc z hz).trans (part_eq hG hW hf hs ht hj hmd em hqu htk hww (Or.inl (by rw [rcG, reachG, if_pos h65])))), hfe⟩) _ 0 rfl (Nat.zero_le _) 0 (fun z _ => by rw [lb_0]; rfl))
            · refine ev_iconst_1 dX10_reaches_106 ?_
              refine ev_goto (tgt := 111) dX10_reaches_107 (by decide) ?_
              refine ev_istore_9 dX10_reaches_111 rfl rfl ?_
              refine ev_lconst_0 dX10_reaches_113 ?_
              refine ev_lstore_10 dX10_reaches_114 rfl rfl ?_
              refine ev_iconst_0 dX10_reaches_116 ?_
              refine ev_istore_12 dX10_reaches_117 rfl rfl ?_
              have hqu : false = decide (¬ mkG g t j &&& 1 = 0) := by
                rw [emk, (mk_chk md hmd).1]
                first
                | (simp [h18]; done)
                | (simp [h18, h25]; done)
              have htk : false = decide (¬ mkG g t j &&& 2 = 0) := by
                rw [emk, (mk_chk md hmd).2.1]
                first
                | (simp [h39]; done)
                | (simp [h39, h46]; done)
              have hww : 1 = hopN (mkG g t j) := by
                rw [emk, (mk_chk md hmd).2.2]
                first
                | (rw [if_pos h103]; done)
                | (rw [if_neg h103]; done)
              exact Ev.to (by rfl) rfl rfl (c_rch1_119 hm znow_3 hG (qu := false) (tk := false) (ms := 1) (w := 1) hs (by omega) (by omega) hf hd hLb (fun acc hacc => ⟨setL_of (fun z hz => (hacc z hz).trans (part_eq hG hW hf hs ht hj hmd em hqu htk hww (Or.inl (by rw [rcG, reachG, if_pos h65])))), hfe⟩) _ 0 rfl (Nat.zero_le _) 0 (fun z _ => by rw [lb_0]; rfl))
        · refine ev_iconst_1 dX10_reaches_49 ?_
          refine ev_goto (tgt := 54) dX10_reaches_50 (by decide) ?_
          refine ev_istore_7 dX10_reaches_54 rfl rfl ?_
          refine ev_aload_0 dX10_reaches_56 ?_
          refine gf_X10_11 dX10_reaches_57 hm.1 rfl ?_
          refine ev_iload_1 dX10_reaches_60 ?_
          refine ev_iconst_2 dX10_reaches_61 ?_
          refine ev_iadd dX10_reaches_62 ?_
          rw [show nI (61 + 21 * t + 3 * j) + (2 : Int32) = nI (61 + 21 * t + 3 * j + 2) from nI_add (61 + 21 * t + 3 * j) (2)]
          refine ev_ldk (k := 61 + 21 * t + 3 * j + 2) hm.2.1 znow_3 rfl (by omega) (by decide) dX10_reaches_63 ?_
          rw [show g (61 + 21 * t + 3 * j + 2) = g (63 + 21 * t + 3 * j) from congrArg g (by omega)]
          refine ev_iconst_m1 dX10_reaches_64 ?_
          refine ev_icmp_ne (tgt := 72) dX10_reaches_65 (by decide) (fun h65 => ?_) (fun h65 => ?_)
          · refine ev_aload_0 dX10_reaches_72 ?_
            refine gf_X10_11 dX10_reaches_73 hm.1 rfl ?_
            refine ev_iload_1 dX10_reaches_76 ?_
            refine ev_iconst_2 dX10_reaches_77 ?_
            refine ev_iadd dX10_reaches_78 ?_
            rw [show nI (61 + 21 * t + 3 * j) + (2 : Int32) = nI (61 + 21 * t + 3 * j + 2) from nI_add (61 + 21 * t + 3 * j) (2)]
            refine ev_ldk (k := 61 + 21 * t + 3 * j + 2) hm.2.1 znow_3 rfl (by omega) (by decide) dX10_reaches_79 ?_
            rw [show g (61 + 21 * t + 3 * j + 2) = g (63 + 21 * t + 3 * j) from congrArg g (by omega)]
            refine ev_if_ne (tgt := 88) dX10_reaches_80 (by decide) (fun h80 => ?_) (fun h80 => ?_)
            · obtain ⟨ec, hec, hcv⟩ := hcd.resolve_left h65
              refine ev_aload_0 dX10_reaches_88 ?_
              refine gf_X10_11 dX10_reaches_89 hm.1 rfl ?_
              refine ev_iload_1 dX10_reaches_92 ?_
              refine ev_iconst_2 dX10_reaches_93 ?_
              refine ev_iadd dX10_reaches_94 ?_
              rw [show nI (61 + 21 * t + 3 * j) + (2 : Int32) = nI (61 + 21 * t + 3 * j + 2) from nI_add (61 + 21 * t + 3 * j) (2)]
              refine ev_ldk (k := 61 + 21 * t + 3 * j + 2) hm.2.1 znow_3 rfl (by omega) (by decide) dX10_reaches_95 ?_
              rw [show g (61 + 21 * t + 3 * j + 2) = g (63 + 21 * t + 3 * j) from congrArg g (by omega), hcv]
              refine ev_istore_8 dX10_reaches_96 rfl rfl ?_
              refine ev_iload_5 dX10_reaches_98 ?_
              refine ev_bipush_32 dX10_reaches_100 ?_
              refine ev_iand dX10_reaches_102 ?_
              refine ev_if_eq (tgt := 110) dX10_reaches_103 (by decide) (fun h103 => ?_) (fun h103 => ?_)
              · refine ev_iconst_0 dX10_reaches_110 ?_
                refine ev_istore_9 dX10_reaches_111 rfl rfl ?_
                refine ev_lconst_0 dX10_reaches_113 ?_
                refine ev_lstore_10 dX10_reaches_114 rfl rfl ?_
                refine ev_iconst_0 dX10_reaches_116 ?_
                refine ev_istore_12 dX10_reaches_117 rfl rfl ?_
                have hqu : false = decide (¬ mkG g t j &&& 1 = 0) := by
                  rw [emk, (mk_chk md hmd).1]
                  first
                  | (simp [h18]; done)
                  | (simp [h18, h25]; done)
                have htk : true = decide (¬ mkG g t j &&& 2 = 0) := by
                  rw [emk, (mk_chk md hmd).2.1]
                  first
                  | (simp [h39]; done)
                  | (simp [h39, h46]; done)
                have hww : 0 = hopN (mkG g t j) := by
                  rw [emk, (mk_chk md hmd).2.2]
                  first
                  | (rw [if_pos h103]; done)
                  | (rw [if_neg h103]; done)
                exact Ev.to (by rfl) rfl rfl (c_rch1_119 hm znow_3 hG (qu := false) (tk := true) (ms := ec) (w := 0) hs (by omega) (by omega) hf hd hLb (fun acc hacc => ⟨setL_of (fun z hz => (hacc z hz).trans (part_eq hG hW hf hs ht hj hmd em hqu htk hww (Or.inl (by rw [rcG, reachG, if_neg h65, if_neg h80, hcv, nI_clamp (by omega)])))), hfe⟩) _ 0 rfl (Nat.zero_le _) 0 (fun z _ => by rw [lb_0]; rfl))
              · refine ev_iconst_1 dX10_reaches_106 ?_
                refine ev_goto (tgt := 111) dX10_reaches_107 (by decide) ?_
                refine ev_istore_9 dX10_reaches_111 rfl rfl ?_
                refine ev_lconst_0 dX10_reaches_113 ?_
                refine ev_lstore_10 dX10_reaches_114 rfl rfl ?_
                refine ev_iconst_0 dX10_reaches_116 ?_
                refine ev_istore_12 dX10_reaches_117 rfl rfl ?_
                have hqu : false = decide (¬ mkG g t j &&& 1 = 0) := by
                  rw [emk, (mk_chk md hmd).1]
                  first
                  | (simp [h18]; done)
                  | (simp [h18, h25]; done)
                have htk : true = decide (¬ mkG g t j &&& 2 = 0) := by
                  rw [emk, (mk_chk md hmd).2.1]
                  first
                  | (simp [h39]; done)
                  | (simp [h39, h46]; done)
                have hww : 1 = hopN (mkG g t j) := by
                  rw [emk, (mk_chk md hmd).2.2]
                  first
                  | (rw [if_pos h103]; done)
                  | (rw [if_neg h103]; done)
                exact Ev.to (by rfl) rfl rfl (c_rch1_119 hm znow_3 hG (qu := false) (tk := true) (ms := ec) (w := 1) hs (by omega) (by omega) hf hd hLb (fun acc hacc => ⟨setL_of (fun z hz => (hacc z hz).trans (part_eq hG hW hf hs ht hj hmd em hqu htk hww (Or.inl (by rw [rcG, reachG, if_neg h65, if_neg h80, hcv, nI_clamp (by omega)])))), hfe⟩) _ 0 rfl (Nat.zero_le _) 0 (fun z _ => by rw [lb_0]; rfl))
            · refine ev_bipush_6 dX10_reaches_83 ?_
              refine ev_goto (tgt := 96) dX10_reaches_85 (by decide) ?_
              refine ev_istore_8 dX10_reaches_96 rfl rfl ?_
              refine ev_iload_5 dX10_reaches_98 ?_
              refine ev_bipush_32 dX10_reaches_100 ?_
              refine ev_iand dX10_reaches_102 ?_
              refine ev_if_eq (tgt := 110) dX10_reaches_103 (by decide) (fun h103 => ?_) (fun h103 => ?_)
              · refine ev_iconst_0 dX10_reaches_110 ?_
                refine ev_istore_9 dX10_reaches_111 rfl rfl ?_
                refine ev_lconst_0 dX10_reaches_113 ?_
                refine ev_lstore_10 dX10_reaches_114 rfl rfl ?_
                refine ev_iconst_0 dX10_reaches_116 ?_
                refine ev_istore_12 dX10_reaches_117 rfl rfl ?_
                have hqu : false = decide (¬ mkG g t j &&& 1 = 0) := by
                  rw [emk, (mk_chk md hmd).1]
                  first
                  | (simp [h18]; done)
                  | (simp [h18, h25]; done)
                have htk : true = decide (¬ mkG g t j &&& 2 = 0) := by
                  rw [emk, (mk_chk md hmd).2.1]
                  first
                  | (simp [h39]; done)
                  | (simp [h39, h46]; done)
                have hww : 0 = hopN (mkG g t j) := by
                  rw [emk, (mk_chk md hmd).2.2]
                  first
                  | (rw [if_pos h103]; done)
                  | (rw [if_neg h103]; done)
                exact Ev.to (by rfl) rfl rfl (c_rch1_119 hm znow_3 hG (qu := false) (tk := true) (ms := 6) (w := 0) hs (by omega) (by omega) hf hd hLb (fun acc hacc => ⟨setL_of (fun z hz => (hacc z hz).trans (part_eq hG hW hf hs ht hj hmd em hqu htk hww (Or.inr ⟨rfl, by rw [rcG, reachG, if_neg h65, if_pos h80]⟩))), hfe⟩) _ 0 rfl (Nat.zero_le _) 0 (fun z _ => by rw [lb_0]; rfl))
              · refine ev_iconst_1 dX10_reaches_106 ?_
                refine ev_goto (tgt := 111) dX10_reaches_107 (by decide) ?_
                refine ev_istore_9 dX10_reaches_111 rfl rfl ?_
                refine ev_lconst_0 dX10_reaches_113 ?_
                refine ev_lstore_10 dX10_reaches_114 rfl rfl ?_
                refine ev_iconst_0 dX10_reaches_116 ?_
                refine ev_istore_12 dX10_reaches_117 rfl rfl ?_
                have hqu : false = decide (¬ mkG g t j &&& 1 = 0) := by
                  rw [emk, (mk_chk md hmd).1]
                  first
                  | (simp [h18]; done)
                  | (simp [h18, h25]; done)
                have htk : true = decide (¬ mkG g t j &&& 2 = 0) := by
                  rw [emk, (mk_chk md hmd).2.1]
                  first
                  | (simp [h39]; done)
                  | (simp [h39, h46]; done)
                have hww : 1 = hopN (mkG g t j) := by
                  rw [emk, (mk_chk md hmd).2.2]
                  first
                  | (rw [if_pos h103]; done)
                  | (rw [if_neg h103]; done)
                exact Ev.to (by rfl) rfl rfl (c_rch1_119 hm znow_3 hG (qu := false) (tk := true) (ms := 6) (w := 1) hs (by omega) (by omega) hf hd hLb (fun acc hacc => ⟨setL_of (fun z hz => (hacc z hz).trans (part_eq hG hW hf hs ht hj hmd em hqu htk hww (Or.inr ⟨rfl, by rw [rcG, reachG, if_neg h65, if_pos h80]⟩))), hfe⟩) _ 0 rfl (Nat.zero_le _) 0 (fun z _ => by rw [lb_0]; rfl))
          · refine ev_iconst_1 dX10_reaches_68 ?_
            refine ev_goto (tgt := 96) dX10_reaches_69 (by decide) ?_
            refine ev_istore_8 dX10_reaches_96 rfl rfl ?_
            refine ev_iload_5 dX10_reaches_98 ?_
            refine ev_bipush_32 dX10_reaches_100 ?_
            refine ev_iand dX10_reaches_102 ?_
            refine ev_if_eq (tgt := 110) dX10_reaches_103 (by decide) (fun h103 => ?_) (fun h103 => ?_)
            · refine ev_iconst_0 dX10_reaches_110 ?_
              refine ev_istore_9 dX10_reaches_111 rfl rfl ?_
              refine ev_lconst_0 dX10_reaches_113 ?_
              refine ev_lstore_10 dX10_reaches_114 rfl rfl ?_
              refine ev_iconst_0 dX10_reaches_116 ?_
              refine ev_istore_12 dX10_reaches_117 rfl rfl ?_
              have hqu : false = decide (¬ mkG g t j &&& 1 = 0) := by
                rw [emk, (mk_chk md hmd).1]
                first
                | (simp [h18]; done)
                | (simp [h18, h25]; done)
              have htk : true = decide (¬ mkG g t j &&& 2 = 0) := by
                rw [emk, (mk_chk md hmd).2.1]
                first
                | (simp [h39]; done)
                | (simp [h39, h46]; done)
              have hww : 0 = hopN (mkG g t j) := by
                rw [emk, (mk_chk md hmd).2.2]
                first
                | (rw [if_pos h103]; done)
                | (rw [if_neg h103]; done)
              exact Ev.to (by rfl) rfl rfl (c_rch1_119 hm znow_3 hG (qu := false) (tk := true) (ms := 1) (w := 0) hs (by omega) (by omega) hf hd hLb (fun acc hacc => ⟨setL_of (fun z hz => (hacc z hz).trans (part_eq hG hW hf hs ht hj hmd em hqu htk hww (Or.inl (by rw [rcG, reachG, if_pos h65])))), hfe⟩) _ 0 rfl (Nat.zero_le _) 0 (fun z _ => by rw [lb_0]; rfl))
            · refine ev_iconst_1 dX10_reaches_106 ?_
              refine ev_goto (tgt := 111) dX10_reaches_107 (by decide) ?_
              refine ev_istore_9 dX10_reaches_111 rfl rfl ?_
              refine ev_lconst_0 dX10_reaches_113 ?_
              refine ev_lstore_10 dX10_reaches_114 rfl rfl ?_
              refine ev_iconst_0 dX10_reaches_116 ?_
              refine ev_istore_12 dX10_reaches_117 rfl rfl ?_
              have hqu : false = decide (¬ mkG g t j &&& 1 = 0) := by
                rw [emk, (mk_chk md hmd).1]
                first
                | (simp [h18]; done)
                | (simp [h18, h25]; done)
              have htk : true = decide (¬ mkG g t j &&& 2 = 0) := by
                rw [emk, (mk_chk md hmd).2.1]
                first
                | (simp [h39]; done)
                | (simp [h39, h46]; done)
              have hww : 1 = hopN (mkG g t j) := by
                rw [emk, (mk_chk md hmd).2.2]
                first
                | (rw [if_pos h103]; done)
                | (rw [if_neg h103]; done)
              exact Ev.to (by rfl) rfl rfl (c_rch1_119 hm znow_3 hG (qu := false) (tk := true) (ms := 1) (w := 1) hs (by omega) (by omega) hf hd hLb (fun acc hacc => ⟨setL_of (fun z hz => (hacc z hz).trans (part_eq hG hW hf hs ht hj hmd em hqu htk hww (Or.inl (by rw [rcG, reachG, if_pos h65])))), hfe⟩) _ 0 rfl (Nat.zero_le _) 0 (fun z _ => by rw [lb_0]; rfl))
    · refine ev_iconst_1 dX10_reaches_28 ?_
      refine ev_goto (tgt := 33) dX10_reaches_29 (by decide) ?_
      refine ev_istore_6 dX10_reaches_33 rfl rfl ?_
      refine ev_iload_5 dX10_reaches_35 ?_
      refine ev_iconst_2 dX10_reaches_37 ?_
      refine ev_iand dX10_reaches_38 ?_
      refine ev_if_ne (tgt := 49) dX10_reaches_39 (by decide) (fun h39 => ?_) (fun h39 => ?_)
      · refine ev_iconst_1 dX10_reaches_49 ?_
        refine ev_goto (tgt := 54) dX10_reaches_50 (by decide) ?_
        refine ev_istore_7 dX10_reaches_54 rfl rfl ?_
        refine ev_aload_0 dX10_reaches_56 ?_
        refine gf_X10_11 dX10_reaches_57 hm.1 rfl ?_
        refine ev_iload_1 dX10_reaches_60 ?_
        refine ev_iconst_2 dX10_reaches_61 ?_
        refine ev_iadd dX10_reaches_62 ?_
        rw [show nI (61 + 21 * t + 3 * j) + (2 : Int32) = nI (61 + 21 * t + 3 * j + 2) from nI_add (61 + 21 * t + 3 * j) (2)]
        refine ev_ldk (k := 61 + 21 * t + 3 * j + 2) hm.2.1 znow_3 rfl (by omega) (by decide) dX10_reaches_63 ?_
        rw [show g (61 + 21 * t + 3 * j + 2) = g (63 + 21 * t + 3 * j) from congrArg g (by omega)]
        refine ev_iconst_m1 dX10_reaches_64 ?_
        refine ev_icmp_ne (tgt := 72) dX10_reaches_65 (by decide) (fun h65 => ?_) (fun h65 => ?_)
        · refine ev_aload_0 dX10_reaches_72 ?_
          refine gf_X10_11 dX10_reaches_73 hm.1 rfl ?_
          refine ev_iload_1 dX10_reaches_76 ?_
          refine ev_iconst_2 dX10_reaches_77 ?_
          refine ev_iadd dX10_reaches_78 ?_
          rw [show nI (61 + 21 * t + 3 * j) + (2 : Int32) = nI (61 + 21 * t + 3 * j + 2) from nI_add (61 + 21 * t + 3 * j) (2)]
          refine ev_ldk (k := 61 + 21 * t + 3 * j + 2) hm.2.1 znow_3 rfl (by omega) (by decide) dX10_reaches_79 ?_
          rw [show g (61 + 21 * t + 3 * j + 2) = g (63 + 21 * t + 3 * j) from congrArg g (by omega)]
          refine ev_if_ne (tgt := 88) dX10_reaches_80 (by decide) (fun h80 => ?_) (fun h80 => ?_)
          · obtain ⟨ec, hec, hcv⟩ := hcd.resolve_left h65
            refine ev_aload_0 dX10_reaches_88 ?_
            refine gf_X10_11 dX10_reaches_89 hm.1 rfl ?_
            refine ev_iload_1 dX10_reaches_92 ?_
            refine ev_iconst_2 dX10_reaches_93 ?_
            refine ev_iadd dX10_reaches_94 ?_
            rw [show nI (61 + 21 * t + 3 * j) + (2 : Int32) = nI (61 + 21 * t + 3 * j + 2) from nI_add (61 + 21 * t + 3 * j) (2)]
            refine ev_ldk (k := 61 + 21 * t + 3 * j + 2) hm.2.1 znow_3 rfl (by omega) (by decide) dX10_reaches_95 ?_
            rw [show g (61 + 21 * t + 3 * j + 2) = g (63 + 21 * t + 3 * j) from congrArg g (by omega), hcv]
            refine ev_istore_8 dX10_reaches_96 rfl rfl ?_
            refine ev_iload_5 dX10_reaches_98 ?_
            refine ev_bipush_32 dX10_reaches_100 ?_
            refine ev_iand dX10_reaches_102 ?_
            refine ev_if_eq (tgt := 110) dX10_reaches_103 (by decide) (fun h103 => ?_) (fun h103 => ?_)
            · refine ev_iconst_0 dX10_reaches_110 ?_
              refine ev_istore_9 dX10_reaches_111 rfl rfl ?_
              refine ev_lconst_0 dX10_reaches_113 ?_
              refine ev_lstore_10 dX10_reaches_114 rfl rfl ?_
              refine ev_iconst_0 dX10_reaches_116 ?_
              refine ev_istore_12 dX10_reaches_117 rfl rfl ?_
              have hqu : true = decide (¬ mkG g t j &&& 1 = 0) := by
                rw [emk, (mk_chk md hmd).1]
                first
                | (simp [h18]; done)
                | (simp [h18, h25]; done)
              have htk : true = decide (¬ mkG g t j &&& 2 = 0) := by
                rw [emk, (mk_chk md hmd).2.1]
                first
                | (simp [h39]; done)
                | (simp [h39, h46]; done)
              have hww : 0 = hopN (mkG g t j) := by
                rw [emk, (mk_chk md hmd).2.2]
                first
                | (rw [if_pos h103]; done)
                | (rw [if_neg h103]; done)
              exact Ev.to (by rfl) rfl rfl (c_rch1_119 hm znow_3 hG (qu := true) (tk := true) (ms := ec) (w := 0) hs (by omega) (by omega) hf hd hLb (fun acc hacc => ⟨setL_of (fun z hz => (hacc z hz).trans (part_eq hG hW hf hs ht hj hmd em hqu htk hww (Or.inl (by rw [rcG, reachG, if_neg h65, if_neg h80, hcv, nI_clamp (by omega)])))), hfe⟩) _ 0 rfl (Nat.zero_le _) 0 (fun z _ => by rw [lb_0]; rfl))
            · refine ev_iconst_1 dX10_reaches_106 ?_
              refine ev_goto (tgt := 111) dX10_reaches_107 (by decide) ?_
              refine ev_istore_9 dX10_reaches_111 rfl rfl ?_
              refine ev_lconst_0 dX10_reaches_113 ?_
              refine ev_lstore_10 dX10_reaches_114 rfl rfl ?_
              refine ev_iconst_0 dX10_reaches_116 ?_
              refine ev_istore_12 dX10_reaches_117 rfl rfl ?_
              have hqu : true = decide (¬ mkG g t j &&& 1 = 0) := by
                rw [emk, (mk_chk md hmd).1]
                first
                | (simp [h18]; done)
                | (simp [h18, h25]; done)
              have htk : true = decide (¬ mkG g t j &&& 2 = 0) := by
                rw [emk, (mk_chk md hmd).2.1]
                first
                | (simp [h39]; done)
                | (simp [h39, h46]; done)
              have hww : 1 = hopN (mkG g t j) := by
                rw [emk, (mk_chk md hmd).2.2]
                first
                | (rw [if_pos h103]; done)
                | (rw [if_neg h103]; done)
              exact Ev.to (by rfl) rfl rfl (c_rch1_119 hm znow_3 hG (qu := true) (tk := true) (ms := ec) (w := 1) hs (by omega) (by omega) hf hd hLb (fun acc hacc => ⟨setL_of (fun z hz => (hacc z hz).trans (part_eq hG hW hf hs ht hj hmd em hqu htk hww (Or.inl (by rw [rcG, reachG, if_neg h65, if_neg h80, hcv, nI_clamp (by omega)])))), hfe⟩) _ 0 rfl (Nat.zero_le _) 0 (fun z _ => by rw [lb_0]; rfl))
          · refine ev_bipush_6 dX10_reaches_83 ?_
            refine ev_goto (tgt := 96) dX10_reaches_85 (by decide) ?_
            refine ev_istore_8 dX10_reaches_96 rfl rfl ?_
            refine ev_iload_5 dX10_reaches_98 ?_
            refine ev_bipush_32 dX10_reaches_100 ?_
            refine ev_iand dX10_reaches_102 ?_
            refine ev_if_eq (tgt := 110) dX10_reaches_103 (by decide) (fun h103 => ?_) (fun h103 => ?_)
            · refine ev_iconst_0 dX10_reaches_110 ?_
              refine ev_istore_9 dX10_reaches_111 rfl rfl ?_
              refine ev_lconst_0 dX10_reaches_113 ?_
              refine ev_lstore_10 dX10_reaches_114 rfl rfl ?_
              refine ev_iconst_0 dX10_reaches_116 ?_
              refine ev_istore_12 dX10_reaches_117 rfl rfl ?_
              have hqu : true = decide (¬ mkG g t j &&& 1 = 0) := by
                rw [emk, (mk_chk md hmd).1]
                first
                | (simp [h18]; done)
                | (simp [h18, h25]; done)
              have htk : true = decide (¬ mkG g t j &&& 2 = 0) := by
                rw [emk, (mk_chk md hmd).2.1]
                first
                | (simp [h39]; done)
                | (simp [h39, h46]; done)
              have hww : 0 = hopN (mkG g t j) := by
                rw [emk, (mk_chk md hmd).2.2]
                first
                | (rw [if_pos h103]; done)
                | (rw [if_neg h103]; done)
              exact Ev.to (by rfl) rfl rfl (c_rch1_119 hm znow_3 hG (qu := true) (tk := true) (ms := 6) (w := 0) hs (by omega) (by omega) hf hd hLb (fun acc hacc => ⟨setL_of (fun z hz => (hacc z hz).trans (part_eq hG hW hf hs ht hj hmd em hqu htk hww (Or.inr ⟨rfl, by rw [rcG, reachG, if_neg h65, if_pos h80]⟩))), hfe⟩) _ 0 rfl (Nat.zero_le _) 0 (fun z _ => by rw [lb_0]; rfl))
            · refine ev_iconst_1 dX10_reaches_106 ?_
              refine ev_goto (tgt := 111) dX10_reaches_107 (by decide) ?_
              refine ev_istore_9 dX10_reaches_111 rfl rfl ?_
              refine ev_lconst_0 dX10_reaches_113 ?_
              refine ev_lstore_10 dX10_reaches_114 rfl rfl ?_
              refine ev_iconst_0 dX10_reaches_116 ?_
              refine ev_istore_12 dX10_reaches_117 rfl rfl ?_
              have hqu : true = decide (¬ mkG g t j &&& 1 = 0) := by
                rw [emk, (mk_chk md hmd).1]
                first
                | (simp [h18]; done)
                | (simp [h18, h25]; done)
              have htk : true = decide (¬ mkG g t j &&& 2 = 0) := by
                rw [emk, (mk_chk md hmd).2.1]
                first
                | (simp [h39]; done)
                | (simp [h39, h46]; done)
              have hww : 1 = hopN (mkG g t j) := by
                rw [emk, (mk_chk md hmd).2.2]
                first
                | (rw [if_pos h103]; done)
                | (rw [if_neg h103]; done)
              exact Ev.to (by rfl) rfl rfl (c_rch1_119 hm znow_3 hG (qu := true) (tk := true) (ms := 6) (w := 1) hs (by omega) (by omega) hf hd hLb (fun acc hacc => ⟨setL_of (fun z hz => (hacc z hz).trans (part_eq hG hW hf hs ht hj hmd em hqu htk hww (Or.inr ⟨rfl, by rw [rcG, reachG, if_neg h65, if_pos h80]⟩))), hfe⟩) _ 0 rfl (Nat.zero_le _) 0 (fun z _ => by rw [lb_0]; rfl))
        · refine ev_iconst_1 dX10_reaches_68 ?_
          refine ev_goto (tgt := 96) dX10_reaches_69 (by decide) ?_
          refine ev_istore_8 dX10_reaches_96 rfl rfl ?_
          refine ev_iload_5 dX10_reaches_98 ?_
          refine ev_bipush_32 dX10_reaches_100 ?_
          refine ev_iand dX10_reaches_102 ?_
          refine ev_if_eq (tgt := 110) dX10_reaches_103 (by decide) (fun h103 => ?_) (fun h103 => ?_)
          · refine ev_iconst_0 dX10_reaches_110 ?_
            refine ev_istore_9 dX10_reaches_111 rfl rfl ?_
            refine ev_lconst_0 dX10_reaches_113 ?_
            refine ev_lstore_10 dX10_reaches_114 rfl rfl ?_
            refine ev_iconst_0 dX10_reaches_116 ?_
            refine ev_istore_12 dX10_reaches_117 rfl rfl ?_
            have hqu : true = decide (¬ mkG g t j &&& 1 = 0) := by
              rw [emk, (mk_chk md hmd).1]
              first
              | (simp [h18]; done)
              | (simp [h18, h25]; done)
            have htk : true = decide (¬ mkG g t j &&& 2 = 0) := by
              rw [emk, (mk_chk md hmd).2.1]
              first
              | (simp [h39]; done)
              | (simp [h39, h46]; done)
            have hww : 0 = hopN (mkG g t j) := by
              rw [emk, (mk_chk md hmd).2.2]
              first
              | (rw [if_pos h103]; done)
              | (rw [if_neg h103]; done)
            exact Ev.to (by rfl) rfl rfl (c_rch1_119 hm znow_3 hG (qu := true) (tk := true) (ms := 1) (w := 0) hs (by omega) (by omega) hf hd hLb (fun acc hacc => ⟨setL_of (fun z hz => (hacc z hz).trans (part_eq hG hW hf hs ht hj hmd em hqu htk hww (Or.inl (by rw [rcG, reachG, if_pos h65])))), hfe⟩) _ 0 rfl (Nat.zero_le _) 0 (fun z _ => by rw [lb_0]; rfl))
          · refine ev_iconst_1 dX10_reaches_106 ?_
            refine ev_goto (tgt := 111) dX10_reaches_107 (by decide) ?_
            refine ev_istore_9 dX10_reaches_111 rfl rfl ?_
            refine ev_lconst_0 dX10_reaches_113 ?_
            refine ev_lstore_10 dX10_reaches_114 rfl rfl ?_
            refine ev_iconst_0 dX10_reaches_116 ?_
            refine ev_istore_12 dX10_reaches_117 rfl rfl ?_
            have hqu : true = decide (¬ mkG g t j &&& 1 = 0) := by
              rw [emk, (mk_chk md hmd).1]
              first
              | (simp [h18]; done)
              | (simp [h18, h25]; done)
            have htk : true = decide (¬ mkG g t j &&& 2 = 0) := by
              rw [emk, (mk_chk md hmd).2.1]
              first
              | (simp [h39]; done)
              | (simp [h39, h46]; done)
            have hww : 1 = hopN (mkG g t j) := by
              rw [emk, (mk_chk md hmd).2.2]
              first
              | (rw [if_pos h103]; done)
              | (rw [if_neg h103]; done)
            exact Ev.to (by rfl) rfl rfl (c_rch1_119 hm znow_3 hG (qu := true) (tk := true) (ms := 1) (w := 1) hs (by omega) (by omega) hf hd hLb (fun acc hacc => ⟨setL_of (fun z hz => (hacc z hz).trans (part_eq hG hW hf hs ht hj hmd em hqu htk hww (Or.inl (by rw [rcG, reachG, if_pos h65])))), hfe⟩) _ 0 rfl (Nat.zero_le _) 0 (fun z _ => by rw [lb_0]; rfl))
      · refine ev_iload_5 dX10_reaches_42 ?_
        refine ev_iconst_1 dX10_reaches_44 ?_
        refine ev_iand dX10_reaches_45 ?_
        refine ev_if_ne (tgt := 53) dX10_reaches_46 (by decide) (fun h46 => ?_) (fun h46 => ?_)
        · refine ev_iconst_0 dX10_reaches_53 ?_
          refine ev_istore_7 dX10_reaches_54 rfl rfl ?_
          refine ev_aload_0 dX10_reaches_56 ?_
          refine gf_X10_11 dX10_reaches_57 hm.1 rfl ?_
          refine ev_iload_1 dX10_reaches_60 ?_
          refine ev_iconst_2 dX10_reaches_61 ?_
          refine ev_iadd dX10_reaches_62 ?_
          rw [show nI (61 + 21 * t + 3 * j) + (2 : Int32) = nI (61 + 21 * t + 3 * j + 2) from nI_add (61 + 21 * t + 3 * j) (2)]
          refine ev_ldk (k := 61 + 21 * t + 3 * j + 2) hm.2.1 znow_3 rfl (by omega) (by decide) dX10_reaches_63 ?_
          rw [show g (61 + 21 * t + 3 * j + 2) = g (63 + 21 * t + 3 * j) from congrArg g (by omega)]
          refine ev_iconst_m1 dX10_reaches_64 ?_
          refine ev_icmp_ne (tgt := 72) dX10_reaches_65 (by decide) (fun h65 => ?_) (fun h65 => ?_)
          · refine ev_aload_0 dX10_reaches_72 ?_
            refine gf_X10_11 dX10_reaches_73 hm.1 rfl ?_
            refine ev_iload_1 dX10_reaches_76 ?_
            refine ev_iconst_2 dX10_reaches_77 ?_
            refine ev_iadd dX10_reaches_78 ?_
            rw [show nI (61 + 21 * t + 3 * j) + (2 : Int32) = nI (61 + 21 * t + 3 * j + 2) from nI_add (61 + 21 * t + 3 * j) (2)]
            refine ev_ldk (k := 61 + 21 * t + 3 * j + 2) hm.2.1 znow_3 rfl (by omega) (by decide) dX10_reaches_79 ?_
            rw [show g (61 + 21 * t + 3 * j + 2) = g (63 + 21 * t + 3 * j) from congrArg g (by omega)]
            refine ev_if_ne (tgt := 88) dX10_reaches_80 (by decide) (fun h80 => ?_) (fun h80 => ?_)
            · obtain ⟨ec, hec, hcv⟩ := hcd.resolve_left h65
              refine ev_aload_0 dX10_reaches_88 ?_
              refine gf_X10_11 dX10_reaches_89 hm.1 rfl ?_
              refine ev_iload_1 dX10_reaches_92 ?_
              refine ev_iconst_2 dX10_reaches_93 ?_
              refine ev_iadd dX10_reaches_94 ?_
              rw [show nI (61 + 21 * t + 3 * j) + (2 : Int32) = nI (61 + 21 * t + 3 * j + 2) from nI_add (61 + 21 * t + 3 * j) (2)]
              refine ev_ldk (k := 61 + 21 * t + 3 * j + 2) hm.2.1 znow_3 rfl (by omega) (by decide) dX10_reaches_95 ?_
              rw [show g (61 + 21 * t + 3 * j + 2) = g (63 + 21 * t + 3 * j) from congrArg g (by omega), hcv]
              refine ev_istore_8 dX10_reaches_96 rfl rfl ?_
              refine ev_iload_5 dX10_reaches_98 ?_
              refine ev_bipush_32 dX10_reaches_100 ?_
              refine ev_iand dX10_reaches_102 ?_
              refine ev_if_eq (tgt := 110) dX10_reaches_103 (by decide) (fun h103 => ?_) (fun h103 => ?_)
              · refine ev_iconst_0 dX10_reaches_110 ?_
                refine ev_istore_9 dX10_reaches_111 rfl rfl ?_
                refine ev_lconst_0 dX10_reaches_113 ?_
                refine ev_lstore_10 dX10_reaches_114 rfl rfl ?_
                refine ev_iconst_0 dX10_reaches_116 ?_
                refine ev_istore_12 dX10_reaches_117 rfl rfl ?_
                have hqu : true = decide (¬ mkG g t j &&& 1 = 0) := by
                  rw [emk, (mk_chk md hmd).1]
                  first
                  | (simp [h18]; done)
                  | (simp [h18, h25]; done)
                have htk : false = decide (¬ mkG g t j &&& 2 = 0) := by
                  rw [emk, (mk_chk md hmd).2.1]
                  first
                  | (simp [h39]; done)
                  | (simp [h39, h46]; done)
                have hww : 0 = hopN (mkG g t j) := by
                  rw [emk, (mk_chk md hmd).2.2]
                  first
                  | (rw [if_pos h103]; done)
                  | (rw [if_neg h103]; done)
                exact Ev.to (by rfl) rfl rfl (c_rch1_119 hm znow_3 hG (qu := true) (tk := false) (ms := ec) (w := 0) hs (by omega) (by omega) hf hd hLb (fun acc hacc => ⟨setL_of (fun z hz => (hacc z hz).trans (part_eq hG hW hf hs ht hj hmd em hqu htk hww (Or.inl (by rw [rcG, reachG, if_neg h65, if_neg h80, hcv, nI_clamp (by omega)])))), hfe⟩) _ 0 rfl (Nat.zero_le _) 0 (fun z _ => by rw [lb_0]; rfl))
              · refine ev_iconst_1 dX10_reaches_106 ?_
                refine ev_goto (tgt := 111) dX10_reaches_107 (by decide) ?_
                refine ev_istore_9 dX10_reaches_111 rfl rfl ?_
                refine ev_lconst_0 dX10_reaches_113 ?_
                refine ev_lstore_10 dX10_reaches_114 rfl rfl ?_
                refine ev_iconst_0 dX10_reaches_116 ?_
                refine ev_istore_12 dX10_reaches_117 rfl rfl ?_
                have hqu : true = decide (¬ mkG g t j &&& 1 = 0) := by
                  rw [emk, (mk_chk md hmd).1]
                  first
                  | (simp [h18]; done)
                  | (simp [h18, h25]; done)
                have htk : false = decide (¬ mkG g t j &&& 2 = 0) := by
                  rw [emk, (mk_chk md hmd).2.1]
                  first
                  | (simp [h39]; done)
                  | (simp [h39, h46]; done)
                have hww : 1 = hopN (mkG g t j) := by
                  rw [emk, (mk_chk md hmd).2.2]
                  first
                  | (rw [if_pos h103]; done)
                  | (rw [if_neg h103]; done)
                exact Ev.to (by rfl) rfl rfl (c_rch1_119 hm znow_3 hG (qu := true) (tk := false) (ms := ec) (w := 1) hs (by omega) (by omega) hf hd hLb (fun acc hacc => ⟨setL_of (fun z hz => (hacc z hz).trans (part_eq hG hW hf hs ht hj hmd em hqu htk hww (Or.inl (by rw [rcG, reachG, if_neg h65, if_neg h80, hcv, nI_clamp (by omega)])))), hfe⟩) _ 0 rfl (Nat.zero_le _) 0 (fun z _ => by rw [lb_0]; rfl))
            · refine ev_bipush_6 dX10_reaches_83 ?_
              refine ev_goto (tgt := 96) dX10_reaches_85 (by decide) ?_
              refine ev_istore_8 dX10_reaches_96 rfl rfl ?_
              refine ev_iload_5 dX10_reaches_98 ?_
              refine ev_bipush_32 dX10_reaches_100 ?_
              refine ev_iand dX10_reaches_102 ?_
              refine ev_if_eq (tgt := 110) dX10_reaches_103 (by decide) (fun h103 => ?_) (fun h103 => ?_)
              · refine ev_iconst_0 dX10_reaches_110 ?_
                refine ev_istore_9 dX10_reaches_111 rfl rfl ?_
                refine ev_lconst_0 dX10_reaches_113 ?_
                refine ev_lstore_10 dX10_reaches_114 rfl rfl ?_
                refine ev_iconst_0 dX10_reaches_116 ?_
                refine ev_istore_12 dX10_reaches_117 rfl rfl ?_
                have hqu : true = decide (¬ mkG g t j &&& 1 = 0) := by
                  rw [emk, (mk_chk md hmd).1]
                  first
                  | (simp [h18]; done)
                  | (simp [h18, h25]; done)
                have htk : false = decide (¬ mkG g t j &&& 2 = 0) := by
                  rw [emk, (mk_chk md hmd).2.1]
                  first
                  | (simp [h39]; done)
                  | (simp [h39, h46]; done)
                have hww : 0 = hopN (mkG g t j) := by
                  rw [emk, (mk_chk md hmd).2.2]
                  first
                  | (rw [if_pos h103]; done)
                  | (rw [if_neg h103]; done)
                exact Ev.to (by rfl) rfl rfl (c_rch1_119 hm znow_3 hG (qu := true) (tk := false) (ms := 6) (w := 0) hs (by omega) (by omega) hf hd hLb (fun acc hacc => ⟨setL_of (fun z hz => (hacc z hz).trans (part_eq hG hW hf hs ht hj hmd em hqu htk hww (Or.inr ⟨rfl, by rw [rcG, reachG, if_neg h65, if_pos h80]⟩))), hfe⟩) _ 0 rfl (Nat.zero_le _) 0 (fun z _ => by rw [lb_0]; rfl))
              · refine ev_iconst_1 dX10_reaches_106 ?_
                refine ev_goto (tgt := 111) dX10_reaches_107 (by decide) ?_
                refine ev_istore_9 dX10_reaches_111 rfl rfl ?_
                refine ev_lconst_0 dX10_reaches_113 ?_
                refine ev_lstore_10 dX10_reaches_114 rfl rfl ?_
                refine ev_iconst_0 dX10_reaches_116 ?_
                refine ev_istore_12 dX10_reaches_117 rfl rfl ?_
                have hqu : true = decide (¬ mkG g t j &&& 1 = 0) := by
                  rw [emk, (mk_chk md hmd).1]
                  first
                  | (simp [h18]; done)
                  | (simp [h18, h25]; done)
                have htk : false = decide (¬ mkG g t j &&& 2 = 0) := by
                  rw [emk, (mk_chk md hmd).2.1]
                  first
                  | (simp [h39]; done)
                  | (simp [h39, h46]; done)
                have hww : 1 = hopN (mkG g t j) := by
                  rw [emk, (mk_chk md hmd).2.2]
                  first
                  | (rw [if_pos h103]; done)
                  | (rw [if_neg h103]; done)
                exact Ev.to (by rfl) rfl rfl (c_rch1_119 hm znow_3 hG (qu := true) (tk := false) (ms := 6) (w := 1) hs (by omega) (by omega) hf hd hLb (fun acc hacc => ⟨setL_of (fun z hz => (hacc z hz).trans (part_eq hG hW hf hs ht hj hmd em hqu htk hww (Or.inr ⟨rfl, by rw [rcG, reachG, if_neg h65, if_pos h80]⟩))), hfe⟩) _ 0 rfl (Nat.zero_le _) 0 (fun z _ => by rw [lb_0]; rfl))
          · refine ev_iconst_1 dX10_reaches_68 ?_
            refine ev_goto (tgt := 96) dX10_reaches_69 (by decide) ?_
            refine ev_istore_8 dX10_reaches_96 rfl rfl ?_
            refine ev_iload_5 dX10_reaches_98 ?_
            refine ev_bipush_32 dX10_reaches_100 ?_
            refine ev_iand dX10_reaches_102 ?_
            refine ev_if_eq (tgt := 110) dX10_reaches_103 (by decide) (fun h103 => ?_) (fun h103 => ?_)
            · refine ev_iconst_0 dX10_reaches_110 ?_
              refine ev_istore_9 dX10_reaches_111 rfl rfl ?_
              refine ev_lconst_0 dX10_reaches_113 ?_
              refine ev_lstore_10 dX10_reaches_114 rfl rfl ?_
              refine ev_iconst_0 dX10_reaches_116 ?_
              refine ev_istore_12 dX10_reaches_117 rfl rfl ?_
              have hqu : true = decide (¬ mkG g t j &&& 1 = 0) := by
                rw [emk, (mk_chk md hmd).1]
                first
                | (simp [h18]; done)
                | (simp [h18, h25]; done)
              have htk : false = decide (¬ mkG g t j &&& 2 = 0) := by
                rw [emk, (mk_chk md hmd).2.1]
                first
                | (simp [h39]; done)
                | (simp [h39, h46]; done)
              have hww : 0 = hopN (mkG g t j) := by
                rw [emk, (mk_chk md hmd).2.2]
                first
                | (rw [if_pos h103]; done)
                | (rw [if_neg h103]; done)
              exact Ev.to (by rfl) rfl rfl (c_rch1_119 hm znow_3 hG (qu := true) (tk := false) (ms := 1) (w := 0) hs (by omega) (by omega) hf hd hLb (fun acc hacc => ⟨setL_of (fun z hz => (hacc z hz).trans (part_eq hG hW hf hs ht hj hmd em hqu htk hww (Or.inl (by rw [rcG, reachG, if_pos h65])))), hfe⟩) _ 0 rfl (Nat.zero_le _) 0 (fun z _ => by rw [lb_0]; rfl))
            · refine ev_iconst_1 dX10_reaches_106 ?_
              refine ev_goto (tgt := 111) dX10_reaches_107 (by decide) ?_
              refine ev_istore_9 dX10_reaches_111 rfl rfl ?_
              refine ev_lconst_0 dX10_reaches_113 ?_
              refine ev_lstore_10 dX10_reaches_114 rfl rfl ?_
              refine ev_iconst_0 dX10_reaches_116 ?_
              refine ev_istore_12 dX10_reaches_117 rfl rfl ?_
              have hqu : true = decide (¬ mkG g t j &&& 1 = 0) := by
                rw [emk, (mk_chk md hmd).1]
                first
                | (simp [h18]; done)
                | (simp [h18, h25]; done)
              have htk : false = decide (¬ mkG g t j &&& 2 = 0) := by
                rw [emk, (mk_chk md hmd).2.1]
                first
                | (simp [h39]; done)
                | (simp [h39, h46]; done)
              have hww : 1 = hopN (mkG g t j) := by
                rw [emk, (mk_chk md hmd).2.2]
                first
                | (rw [if_pos h103]; done)
                | (rw [if_neg h103]; done)
              exact Ev.to (by rfl) rfl rfl (c_rch1_119 hm znow_3 hG (qu := true) (tk := false) (ms := 1) (w := 1) hs (by omega) (by omega) hf hd hLb (fun acc hacc => ⟨setL_of (fun z hz => (hacc z hz).trans (part_eq hG hW hf hs ht hj hmd em hqu htk hww (Or.inl (by rw [rcG, reachG, if_pos h65])))), hfe⟩) _ 0 rfl (Nat.zero_le _) 0 (fun z _ => by rw [lb_0]; rfl))
        · refine ev_iconst_1 dX10_reaches_49 ?_
          refine ev_goto (tgt := 54) dX10_reaches_50 (by decide) ?_
          refine ev_istore_7 dX10_reaches_54 rfl rfl ?_
          refine ev_aload_0 dX10_reaches_56 ?_
          refine gf_X10_11 dX10_reaches_57 hm.1 rfl ?_
          refine ev_iload_1 dX10_reaches_60 ?_
          refine ev_iconst_2 dX10_reaches_61 ?_
          refine ev_iadd dX10_reaches_62 ?_
          rw [show nI (61 + 21 * t + 3 * j) + (2 : Int32) = nI (61 + 21 * t + 3 * j + 2) from nI_add (61 + 21 * t + 3 * j) (2)]
          refine ev_ldk (k := 61 + 21 * t + 3 * j + 2) hm.2.1 znow_3 rfl (by omega) (by decide) dX10_reaches_63 ?_
          rw [show g (61 + 21 * t + 3 * j + 2) = g (63 + 21 * t + 3 * j) from congrArg g (by omega)]
          refine ev_iconst_m1 dX10_reaches_64 ?_
          refine ev_icmp_ne (tgt := 72) dX10_reaches_65 (by decide) (fun h65 => ?_) (fun h65 => ?_)
          · refine ev_aload_0 dX10_reaches_72 ?_
            refine gf_X10_11 dX10_reaches_73 hm.1 rfl ?_
            refine ev_iload_1 dX10_reaches_76 ?_
            refine ev_iconst_2 dX10_reaches_77 ?_
            refine ev_iadd dX10_reaches_78 ?_
            rw [show nI (61 + 21 * t + 3 * j) + (2 : Int32) = nI (61 + 21 * t + 3 * j + 2) from nI_add (61 + 21 * t + 3 * j) (2)]
            refine ev_ldk (k := 61 + 21 * t + 3 * j + 2) hm.2.1 znow_3 rfl (by omega) (by decide) dX10_reaches_79 ?_
            rw [show g (61 + 21 * t + 3 * j + 2) = g (63 + 21 * t + 3 * j) from congrArg g (by omega)]
            refine ev_if_ne (tgt := 88) dX10_reaches_80 (by decide) (fun h80 => ?_) (fun h80 => ?_)
            · obtain ⟨ec, hec, hcv⟩ := hcd.resolve_left h65
              refine ev_aload_0 dX10_reaches_88 ?_
              refine gf_X10_11 dX10_reaches_89 hm.1 rfl ?_
              refine ev_iload_1 dX10_reaches_92 ?_
              refine ev_iconst_2 dX10_reaches_93 ?_
              refine ev_iadd dX10_reaches_94 ?_
              rw [show nI (61 + 21 * t + 3 * j) + (2 : Int32) = nI (61 + 21 * t + 3 * j + 2) from nI_add (61 + 21 * t + 3 * j) (2)]
              refine ev_ldk (k := 61 + 21 * t + 3 * j + 2) hm.2.1 znow_3 rfl (by omega) (by decide) dX10_reaches_95 ?_
              rw [show g (61 + 21 * t + 3 * j + 2) = g (63 + 21 * t + 3 * j) from congrArg g (by omega), hcv]
              refine ev_istore_8 dX10_reaches_96 rfl rfl ?_
              refine ev_iload_5 dX10_reaches_98 ?_
              refine ev_bipush_32 dX10_reaches_100 ?_
              refine ev_iand dX10_reaches_102 ?_
              refine ev_if_eq (tgt := 110) dX10_reaches_103 (by decide) (fun h103 => ?_) (fun h103 => ?_)
              · refine ev_iconst_0 dX10_reaches_110 ?_
                refine ev_istore_9 dX10_reaches_111 rfl rfl ?_
                refine ev_lconst_0 dX10_reaches_113 ?_
                refine ev_lstore_10 dX10_reaches_114 rfl rfl ?_
                refine ev_iconst_0 dX10_reaches_116 ?_
                refine ev_istore_12 dX10_reaches_117 rfl rfl ?_
                have hqu : true = decide (¬ mkG g t j &&& 1 = 0) := by
                  rw [emk, (mk_chk md hmd).1]
                  first
                  | (simp [h18]; done)
                  | (simp [h18, h25]; done)
                have htk : true = decide (¬ mkG g t j &&& 2 = 0) := by
                  rw [emk, (mk_chk md hmd).2.1]
                  first
                  | (simp [h39]; done)
                  | (simp [h39, h46]; done)
                have hww : 0 = hopN (mkG g t j) := by
                  rw [emk, (mk_chk md hmd).2.2]
                  first
                  | (rw [if_pos h103]; done)
                  | (rw [if_neg h103]; done)
                exact Ev.to (by rfl) rfl rfl (c_rch1_119 hm znow_3 hG (qu := true) (tk := true) (ms := ec) (w := 0) hs (by omega) (by omega) hf hd hLb (fun acc hacc => ⟨setL_of (fun z hz => (hacc z hz).trans (part_eq hG hW hf hs ht hj hmd em hqu htk hww (Or.inl (by rw [rcG, reachG, if_neg h65, if_neg h80, hcv, nI_clamp (by omega)])))), hfe⟩) _ 0 rfl (Nat.zero_le _) 0 (fun z _ => by rw [lb_0]; rfl))
              · refine ev_iconst_1 dX10_reaches_106 ?_
                refine ev_goto (tgt := 111) dX10_reaches_107 (by decide) ?_
                refine ev_istore_9 dX10_reaches_111 rfl rfl ?_
                refine ev_lconst_0 dX10_reaches_113 ?_
                refine ev_lstore_10 dX10_reaches_114 rfl rfl ?_
                refine ev_iconst_0 dX10_reaches_116 ?_
                refine ev_istore_12 dX10_reaches_117 rfl rfl ?_
                have hqu : true = decide (¬ mkG g t j &&& 1 = 0) := by
                  rw [emk, (mk_chk md hmd).1]
                  first
                  | (simp [h18]; done)
                  | (simp [h18, h25]; done)
                have htk : true = decide (¬ mkG g t j &&& 2 = 0) := by
                  rw [emk, (mk_chk md hmd).2.1]
                  first
                  | (simp [h39]; done)
                  | (simp [h39, h46]; done)
                have hww : 1 = hopN (mkG g t j) := by
                  rw [emk, (mk_chk md hmd).2.2]
                  first
                  | (rw [if_pos h103]; done)
                  | (rw [if_neg h103]; done)
                exact Ev.to (by rfl) rfl rfl (c_rch1_119 hm znow_3 hG (qu := true) (tk := true) (ms := ec) (w := 1) hs (by omega) (by omega) hf hd hLb (fun acc hacc => ⟨setL_of (fun z hz => (hacc z hz).trans (part_eq hG hW hf hs ht hj hmd em hqu htk hww (Or.inl (by rw [rcG, reachG, if_neg h65, if_neg h80, hcv, nI_clamp (by omega)])))), hfe⟩) _ 0 rfl (Nat.zero_le _) 0 (fun z _ => by rw [lb_0]; rfl))
            · refine ev_bipush_6 dX10_reaches_83 ?_
              refine ev_goto (tgt := 96) dX10_reaches_85 (by decide) ?_
              refine ev_istore_8 dX10_reaches_96 rfl rfl ?_
              refine ev_iload_5 dX10_reaches_98 ?_
              refine ev_bipush_32 dX10_reaches_100 ?_
              refine ev_iand dX10_reaches_102 ?_
              refine ev_if_eq (tgt := 110) dX10_reaches_103 (by decide) (fun h103 => ?_) (fun h103 => ?_)
              · refine ev_iconst_0 dX10_reaches_110 ?_
                refine ev_istore_9 dX10_reaches_111 rfl rfl ?_
                refine ev_lconst_0 dX10_reaches_113 ?_
                refine ev_lstore_10 dX10_reaches_114 rfl rfl ?_
                refine ev_iconst_0 dX10_reaches_116 ?_
                refine ev_istore_12 dX10_reaches_117 rfl rfl ?_
                have hqu : true = decide (¬ mkG g t j &&& 1 = 0) := by
                  rw [emk, (mk_chk md hmd).1]
                  first
                  | (simp [h18]; done)
                  | (simp [h18, h25]; done)
                have htk : true = decide (¬ mkG g t j &&& 2 = 0) := by
                  rw [emk, (mk_chk md hmd).2.1]
                  first
                  | (simp [h39]; done)
                  | (simp [h39, h46]; done)
                have hww : 0 = hopN (mkG g t j) := by
                  rw [emk, (mk_chk md hmd).2.2]
                  first
                  | (rw [if_pos h103]; done)
                  | (rw [if_neg h103]; done)
                exact Ev.to (by rfl) rfl rfl (c_rch1_119 hm znow_3 hG (qu := true) (tk := true) (ms := 6) (w := 0) hs (by omega) (by omega) hf hd hLb (fun acc hacc => ⟨setL_of (fun z hz => (hacc z hz).trans (part_eq hG hW hf hs ht hj hmd em hqu htk hww (Or.inr ⟨rfl, by rw [rcG, reachG, if_neg h65, if_pos h80]⟩))), hfe⟩) _ 0 rfl (Nat.zero_le _) 0 (fun z _ => by rw [lb_0]; rfl))
              · refine ev_iconst_1 dX10_reaches_106 ?_
                refine ev_goto (tgt := 111) dX10_reaches_107 (by decide) ?_
                refine ev_istore_9 dX10_reaches_111 rfl rfl ?_
                refine ev_lconst_0 dX10_reaches_113 ?_
                refine ev_lstore_10 dX10_reaches_114 rfl rfl ?_
                refine ev_iconst_0 dX10_reaches_116 ?_
                refine ev_istore_12 dX10_reaches_117 rfl rfl ?_
                have hqu : true = decide (¬ mkG g t j &&& 1 = 0) := by
                  rw [emk, (mk_chk md hmd).1]
                  first
                  | (simp [h18]; done)
                  | (simp [h18, h25]; done)
                have htk : true = decide (¬ mkG g t j &&& 2 = 0) := by
                  rw [emk, (mk_chk md hmd).2.1]
                  first
                  | (simp [h39]; done)
                  | (simp [h39, h46]; done)
                have hww : 1 = hopN (mkG g t j) := by
                  rw [emk, (mk_chk md hmd).2.2]
                  first
                  | (rw [if_pos h103]; done)
                  | (rw [if_neg h103]; done)
                exact Ev.to (by rfl) rfl rfl (c_rch1_119 hm znow_3 hG (qu := true) (tk := true) (ms := 6) (w := 1) hs (by omega) (by omega) hf hd hLb (fun acc hacc => ⟨setL_of (fun z hz => (hacc z hz).trans (part_eq hG hW hf hs ht hj hmd em hqu htk hww (Or.inr ⟨rfl, by rw [rcG, reachG, if_neg h65, if_pos h80]⟩))), hfe⟩) _ 0 rfl (Nat.zero_le _) 0 (fun z _ => by rw [lb_0]; rfl))
          · refine ev_iconst_1 dX10_reaches_68 ?_
            refine ev_goto (tgt := 96) dX10_reaches_69 (by decide) ?_
            refine ev_istore_8 dX10_reaches_96 rfl rfl ?_
            refine ev_iload_5 dX10_reaches_98 ?_
            refine ev_bipush_32 dX10_reaches_100 ?_
            refine ev_iand dX10_reaches_102 ?_
            refine ev_if_eq (tgt := 110) dX10_reaches_103 (by decide) (fun h103 => ?_) (fun h103 => ?_)
            · refine ev_iconst_0 dX10_reaches_110 ?_
              refine ev_istore_9 dX10_reaches_111 rfl rfl ?_
              refine ev_lconst_0 dX10_reaches_113 ?_
              refine ev_lstore_10 dX10_reaches_114 rfl rfl ?_
              refine ev_iconst_0 dX10_reaches_116 ?_
              refine ev_istore_12 dX10_reaches_117 rfl rfl ?_
              have hqu : true = decide (¬ mkG g t j &&& 1 = 0) := by
                rw [emk, (mk_chk md hmd).1]
                first
                | (simp [h18]; done)
                | (simp [h18, h25]; done)
              have htk : true = decide (¬ mkG g t j &&& 2 = 0) := by
                rw [emk, (mk_chk md hmd).2.1]
                first
                | (simp [h39]; done)
                | (simp [h39, h46]; done)
              have hww : 0 = hopN (mkG g t j) := by
                rw [emk, (mk_chk md hmd).2.2]
                first
                | (rw [if_pos h103]; done)
                | (rw [if_neg h103]; done)
              exact Ev.to (by rfl) rfl rfl (c_rch1_119 hm znow_3 hG (qu := true) (tk := true) (ms := 1) (w := 0) hs (by omega) (by omega) hf hd hLb (fun acc hacc => ⟨setL_of (fun z hz => (hacc z hz).trans (part_eq hG hW hf hs ht hj hmd em hqu htk hww (Or.inl (by rw [rcG, reachG, if_pos h65])))), hfe⟩) _ 0 rfl (Nat.zero_le _) 0 (fun z _ => by rw [lb_0]; rfl))
            · refine ev_iconst_1 dX10_reaches_106 ?_
              refine ev_goto (tgt := 111) dX10_reaches_107 (by decide) ?_
              refine ev_istore_9 dX10_reaches_111 rfl rfl ?_
              refine ev_lconst_0 dX10_reaches_113 ?_
              refine ev_lstore_10 dX10_reaches_114 rfl rfl ?_
              refine ev_iconst_0 dX10_reaches_116 ?_
              refine ev_istore_12 dX10_reaches_117 rfl rfl ?_
              have hqu : true = decide (¬ mkG g t j &&& 1 = 0) := by
                rw [emk, (mk_chk md hmd).1]
                first
                | (simp [h18]; done)
                | (simp [h18, h25]; done)
              have htk : true = decide (¬ mkG g t j &&& 2 = 0) := by
                rw [emk, (mk_chk md hmd).2.1]
                first
                | (simp [h39]; done)
                | (simp [h39, h46]; done)
              have hww : 1 = hopN (mkG g t j) := by
                rw [emk, (mk_chk md hmd).2.2]
                first
                | (rw [if_pos h103]; done)
                | (rw [if_neg h103]; done)
              exact Ev.to (by rfl) rfl rfl (c_rch1_119 hm znow_3 hG (qu := true) (tk := true) (ms := 1) (w := 1) hs (by omega) (by omega) hf hd hLb (fun acc hacc => ⟨setL_of (fun z hz => (hacc z hz).trans (part_eq hG hW hf hs ht hj hmd em hqu htk hww (Or.inl (by rw [rcG, reachG, if_pos h65])))), hfe⟩) _ 0 rfl (Nat.zero_le _) 0 (fun z _ => by rw [lb_0]; rfl))
