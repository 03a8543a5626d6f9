/-- the reference's fourth number of a move: the type or the slot -/
def whN (g : Nat → Int32) (m : Nat) : Nat := if mK m = 0 then tyN (mN g (mA m)) else mA m
theorem c_mPlays {ae ad : Nat → Nat} {sh : mSh} {σ : mSt} (hm : mModel ad sh) {g : Nat → Int32} (hg : σ.1 62 = g) (hG : wfP g) (hW : wfL g) {m : Nat} (hm0 : mvOk g m) : Ct yX10_plays cX10_plays 10 none 3 0 0 [.ref (ad 61), .int (nI (mK m)), .int (fromN g m), .int (toN g m), .int (nI (whN g m))] ae ad sh σ (mPv ad sh (fun σ' => nowR σ σ' (playsG g m))) := by
  rcases mK_le hm0 with h | h | h
  · have e1 : fromN g m = nI (mA m) := if_pos h
    have e2 : toN g m = nI (mB m) := if_neg (by omega)
    have e3 : whN g m = tyN (mN g (mA m)) := if_pos h
    rw [e1, e2, e3, h]
    exact c_mPlays0 hm hg hG hW hm0 h
  · have e3 : whN g m = mA m := if_neg (by omega)
    rw [e3, h]
    exact c_mPlays1 hm hg hG hW hm0 h
  · have e1 : fromN g m = -5 := by unfold fromN; rw [if_neg (by omega), if_neg (by omega)]
    have e2 : toN g m = nI (mB m) := if_neg (by omega)
    have e3 : whN g m = mA m := if_neg (by omega)
    rw [e1, e2, e3, h]
    exact c_mPlays2 hm hg hG hW hm0 h
/-- the reference's list of the depth d holds the moves L of the position g -/
def mliR (σ : mSt) (d : Nat) (g : Nat → Int32) (L : List Nat) : Prop := σ.1 70 d = nI L.length ∧ L.length ≤ 445 ∧ ∀ i m, L[i]? = some m → σ.1 66 (1600 * d + i) = nI (mK m) ∧ σ.1 67 (1600 * d + i) = fromN g m ∧ σ.1 68 (1600 * d + i) = toN g m ∧ σ.1 69 (1600 * d + i) = nI (whN g m)
/-- only directions and what belongs to the depth d have changed -/
def frA (d : Nat) (σ σ' : mSt) : Prop := (∀ j, j ≠ 61 → (j < 66 ∨ 71 < j) → j ≠ 73 → j ≠ 74 → σ'.1 j = σ.1 j) ∧ (∀ k, k ≠ 17 → σ'.1 61 k = σ.1 61 k) ∧ (∀ q, 66 ≤ q → q ≤ 69 → ∀ k, (k < 1600 * d ∨ 1600 * d + 1600 ≤ k) → σ'.1 q k = σ.1 q k) ∧ (∀ k, k ≠ d → σ'.1 70 k = σ.1 70 k) ∧ (∀ k, (k < 53 * d ∨ 53 * d + 53 ≤ k) → σ'.1 71 k = σ.1 71 k) ∧ σ'.2 = σ.2
theorem frA.rf {d : Nat} {σ : mSt} : frA d σ σ := ⟨fun _ _ _ _ _ => rfl, fun _ _ => rfl, fun _ _ _ _ _ => rfl, fun _ _ => rfl, fun _ _ => rfl, rfl⟩
theorem frA.tr {d : Nat} {σ σ1 σ2 : mSt} (h1 : frA d σ σ1) (h2 : frA d σ1 σ2) : frA d σ σ2 :=
  ⟨fun j a b c e => (h2.1 j a b c e).trans (h1.1 j a b c e), fun k a => (h2.2.1 k a).trans (h1.2.1 k a), fun q a b k c => (h2.2.2.1 q a b k c).trans (h1.2.2.1 q a b k c), fun k a => (h2.2.2.2.1 k a).trans (h1.2.2.2.1 k a), fun k a => (h2.2.2.2.2.1 k a).trans (h1.2.2.2.2.1 k a), h2.2.2.2.2.2.trans h1.2.2.2.2.2⟩
theorem frA.E {d : Nat} {σ σ' : mSt} (h : frE σ σ') : frA d σ σ' :=
  ⟨fun j a _ b c => h.1 j a b c, h.2.1, fun q a b k _ => by rw [h.1 q (by omega) (by omega) (by omega)], fun k _ => by rw [h.1 70 (by decide) (by decide) (by decide)], fun k _ => by rw [h.1 71 (by decide) (by decide) (by decide)], h.2.2⟩
theorem frA.now {d : Nat} {σ σ' : mSt} {g : Nat → Int32} (h : frA d σ σ') (hg : σ.1 62 = g) : σ'.1 62 = g := (h.1 62 (by decide) (by decide) (by decide) (by decide)).trans hg
theorem mliR.E {d : Nat} {σ σ' : mSt} {g : Nat → Int32} {L : List Nat} (hl : mliR σ d g L) (h : frE σ σ') : mliR σ' d g L := by
  unfold mliR
  rw [h.1 66 (by decide) (by decide) (by decide), h.1 67 (by decide) (by decide) (by decide), h.1 68 (by decide) (by decide) (by decide), h.1 69 (by decide) (by decide) (by decide), h.1 70 (by decide) (by decide) (by decide)]
  exact hl
theorem mliR.add {d : Nat} {σ σ' : mSt} {g : Nat → Int32} {L : List Nat} {m : Nat} (h : mliR σ d g L) (hl : L.length < 445) (e0 : σ'.1 70 = upd (σ.1 70) d (nI (L.length + 1))) (e1 : σ'.1 66 = upd (σ.1 66) (1600 * d + L.length) (nI (mK m))) (e2 : σ'.1 67 = upd (σ.1 67) (1600 * d + L.length) (fromN g m)) (e3 : σ'.1 68 = upd (σ.1 68) (1600 * d + L.length) (toN g m)) (e4 : σ'.1 69 = upd (σ.1 69) (1600 * d + L.length) (nI (whN g m))) : mliR σ' d g (L ++ [m]) := by
  refine ⟨by rw [e0, upd_at, List.length_append]; rfl, by rw [List.length_append]; exact hl, fun i m' hi => ?_⟩
  rw [e1, e2, e3, e4]
  by_cases z : i = L.length
  · subst z
    rw [List.getElem?_append_right (Nat.le_refl _)] at hi
    simp at hi
    rw [upd_at, upd_at, upd_at, upd_at, ← hi]; exact ⟨rfl, rfl, rfl, rfl⟩
  · rw [upd_ne (by omega), upd_ne (by omega), upd_ne (by omega), upd_ne (by omega)]
    refine h.2.2 i m' ?_
    rcases Nat.lt_or_ge i L.length with y | y
    · rw [List.getElem?_append_left y] at hi; exact hi
    · rw [List.getElem?_eq_none (by rw [List.length_append]; simp; omega)] at hi; cases hi

set_option maxRecDepth 100000 in
set_option maxHeartbeats 4000000 in
theorem c_mAdds {ae ad : Nat → Nat} {sh : mSh} {σ : mSt} (hm : mModel ad sh) {g : Nat → Int32} (hg : σ.1 62 = g) (hG : wfP g) (hW : wfL g) {d m : Nat} {L : List Nat} (hd : d ≤ 1) (hm0 : mvOk g m) (hl : mliR σ d g L) (hlen : L.length < 445) : Ct yX10_adds cX10_adds 9 none 7 0 0 [.ref (ad 61), .int (nI d), .int (nI (mK m)), .int (fromN g m), .int (toN g m), .int (nI (whN g m))] ae ad sh σ (mPv ad sh (fun σ' => mliR σ' d g (L ++ (if okG g m then [m] else [])) ∧ frA d σ σ')) := by
  refine Ct.ofL (own := RX10) (ini := false) (ls := [some (.ref (ad 61)), some (.int (nI d)), some (.int (nI (mK m))), some (.int (fromN g m)), some (.int (toN g m)), some (.int (nI (whN g m))), none, none, none]) (by decide +kernel) rfl (fun h => by cases h) (Nat.le_of_ble_eq_true rfl) rfl ?_
  refine ev_aload_0 dX10_adds_0 ?_
  refine gf_X10_11 dX10_adds_1 hm.1 rfl ?_
  refine ev_iconst_0 dX10_adds_4 ?_
  refine ev_ldk (k := 0) hm.2.1 hg rfl (by omega) (by decide) dX10_adds_5 ?_
  rw [hG.2.2.2.2.2.1]
  refine ev_istore_6 dX10_adds_6 rfl rfl ?_
  refine ev_aload_0 dX10_adds_8 ?_
  refine ev_iload_1 dX10_adds_9 ?_
  refine cg_X10_210 (c_mKeeps hm hd hg rfl) hm.1 dX10_adds_10 rfl (Nat.le_of_ble_eq_true rfl) (fun σk hk1 => ?_)
  obtain ⟨k1, k2, k3⟩ := hk1
  have znow_10 := (k2 62 (by decide)).trans hg
  have zmany_10 := (k2 70 (by decide)).trans (Eq.refl _)
  have zkinds_10 := (k2 66 (by decide)).trans (Eq.refl _)
  have zfroms_10 := (k2 67 (by decide)).trans (Eq.refl _)
  have ztos_10 := (k2 68 (by decide)).trans (Eq.refl _)
  have zwhats_10 := (k2 69 (by decide)).trans (Eq.refl _)
  refine ev_aload_0 dX10_adds_13 ?_
  refine ev_iload_2 dX10_adds_14 ?_
  refine ev_iload_3 dX10_adds_15 ?_
  refine ev_iload_4 dX10_adds_16 ?_
  refine ev_iload_5 dX10_adds_18 ?_
  refine cg_X10_213 (c_mPlays hm znow_10 hG hW hm0) hm.1 dX10_adds_20 rfl (Nat.le_of_ble_eq_true rfl) (fun σp hp1 => ?_)
  obtain ⟨p1, p2, p3⟩ := hp1
  have zbehind_20 := (p2 71 (by decide)).trans k1
  have zmany_20 := (p2 70 (by decide)).trans zmany_10
  have zkinds_20 := (p2 66 (by decide)).trans zkinds_10
  have zfroms_20 := (p2 67 (by decide)).trans zfroms_10
  have ztos_20 := (p2 68 (by decide)).trans ztos_10
  have zwhats_20 := (p2 69 (by decide)).trans zwhats_10
  refine ev_aload_0 dX10_adds_23 ?_
  refine ev_iload_6 dX10_adds_24 ?_
  refine cg_X10_216 (c_mSafe hm (pl_wfP hG hW hm0) (pl_wfL hG hW hm0) (tu_le hG) p1) hm.1 dX10_adds_26 rfl (Nat.le_of_ble_eq_true rfl) (fun rs σs hs1 => ?_)
  obtain ⟨s1, s2⟩ := hs1
  subst s1
  have znow_26 := (s2.1 62 (by decide) (by decide) (by decide)).trans p1
  have zbehind_26 := (s2.1 71 (by decide) (by decide) (by decide)).trans zbehind_20
  have zmany_26 := (s2.1 70 (by decide) (by decide) (by decide)).trans zmany_20
  have zkinds_26 := (s2.1 66 (by decide) (by decide) (by decide)).trans zkinds_20
  have zfroms_26 := (s2.1 67 (by decide) (by decide) (by decide)).trans zfroms_20
  have ztos_26 := (s2.1 68 (by decide) (by decide) (by decide)).trans ztos_20
  have zwhats_26 := (s2.1 69 (by decide) (by decide) (by decide)).trans zwhats_20
  refine ev_istore_7 dX10_adds_29 rfl rfl ?_
  refine ev_aload_0 dX10_adds_31 ?_
  refine ev_iload_1 dX10_adds_32 ?_
  refine cg_X10_219 (c_mAgain hm hd znow_26 zbehind_26) hm.1 dX10_adds_33 rfl (Nat.le_of_ble_eq_true rfl) (fun σa ha1 => ?_)
  obtain ⟨a1, a2, a3⟩ := ha1
  have a1 := a1.trans (again_row (fun k hk => kp_at hk) (fun k hk => pl_hi hk))
  have zbehind_33 := (a2 71 (by decide)).trans zbehind_26
  have zmany_33 := (a2 70 (by decide)).trans zmany_26
  have zkinds_33 := (a2 66 (by decide)).trans zkinds_26
  have zfroms_33 := (a2 67 (by decide)).trans zfroms_26
  have ztos_33 := (a2 68 (by decide)).trans ztos_26
  have zwhats_33 := (a2 69 (by decide)).trans zwhats_26
  refine ev_iload_7 dX10_adds_36 ?_
  refine ev_if_ne (tgt := 42) dX10_adds_38 (by decide) (fun h38 => ?_) (fun h38 => ?_)
  · have hyes : okG g m = true := b2i_t h38
    refine ev_sipush_1600 dX10_adds_42 ?_
    refine ev_iload_1 dX10_adds_45 ?_
    refine ev_imul dX10_adds_46 ?_
    rw [show (1600 : Int32) * nI d = nI (1600 * d) from nI_mul (1600) (d)]
    refine ev_aload_0 dX10_adds_47 ?_
    refine gf_X10_36 dX10_adds_48 hm.1 rfl ?_
    refine ev_iload_1 dX10_adds_51 ?_
    refine ev_dup2 dX10_adds_52 rfl rfl ?_
    refine ev_ldk (k := d) hm.2.2.2.2.2.2.2.2.2.1 zmany_33 rfl (by omega) (by decide) dX10_adds_53 ?_
    rw [hl.1]
    refine ev_dup_x2 dX10_adds_54 rfl rfl rfl ?_
    refine ev_iconst_1 dX10_adds_55 ?_
    refine ev_iadd dX10_adds_56 ?_
    rw [show nI (L.length) + (1 : Int32) = nI (L.length + 1) from nI_add (L.length) (1)]
    refine ev_stk (k := d) hm.2.2.2.2.2.2.2.2.2.1 zmany_33 rfl (by omega) (by decide) dX10_adds_57 (fun σ57 hw57 hf57 hl57 => ?_)
    have znow_57 := (hf57 62 (by decide)).trans a1
    have zbehind_57 := (hf57 71 (by decide)).trans zbehind_33
    have zkinds_57 := (hf57 66 (by decide)).trans zkinds_33
    have zfroms_57 := (hf57 67 (by decide)).trans zfroms_33
    have ztos_57 := (hf57 68 (by decide)).trans ztos_33
    have zwhats_57 := (hf57 69 (by decide)).trans zwhats_33
    refine ev_iadd dX10_adds_58 ?_
    rw [show nI (1600 * d) + nI (L.length) = nI (1600 * d + L.length) from nI_add (1600 * d) (L.length)]
    refine ev_istore_8 dX10_adds_59 rfl rfl ?_
    refine ev_aload_0 dX10_adds_61 ?_
    refine gf_X10_24 dX10_adds_62 hm.1 rfl ?_
    refine ev_iload_8 dX10_adds_65 ?_
    refine ev_iload_2 dX10_adds_67 ?_
    refine ev_stk (k := 1600 * d + L.length) hm.2.2.2.2.2.1 zkinds_57 rfl (by omega) (by decide) dX10_adds_68 (fun σ68 hw68 hf68 hl68 => ?_)
    have znow_68 := (hf68 62 (by decide)).trans znow_57
    have zbehind_68 := (hf68 71 (by decide)).trans zbehind_57
    have zmany_68 := (hf68 70 (by decide)).trans hw57
    have zfroms_68 := (hf68 67 (by decide)).trans zfroms_57
    have ztos_68 := (hf68 68 (by decide)).trans ztos_57
    have zwhats_68 := (hf68 69 (by decide)).trans zwhats_57
    refine ev_aload_0 dX10_adds_69 ?_
    refine gf_X10_27 dX10_adds_70 hm.1 rfl ?_
    refine ev_iload_8 dX10_adds_73 ?_
    refine ev_iload_3 dX10_adds_75 ?_
    refine ev_stk (k := 1600 * d + L.length) hm.2.2.2.2.2.2.1 zfroms_68 rfl (by omega) (by decide) dX10_adds_76 (fun σ76 hw76 hf76 hl76 => ?_)
    have znow_76 := (hf76 62 (by decide)).trans znow_68
    have zbehind_76 := (hf76 71 (by decide)).trans zbehind_68
    have zmany_76 := (hf76 70 (by decide)).trans zmany_68
    have zkinds_76 := (hf76 66 (by decide)).trans hw68
    have ztos_76 := (hf76 68 (by decide)).trans ztos_68
    have zwhats_76 := (hf76 69 (by decide)).trans zwhats_68
    refine ev_aload_0 dX10_adds_77 ?_
    refine gf_X10_30 dX10_adds_78 hm.1 rfl ?_
    refine ev_iload_8 dX10_adds_81 ?_
    refine ev_iload_4 dX10_adds_83 ?_
    refine ev_stk (k := 1600 * d + L.length) hm.2.2.2.2.2.2.2.1 ztos_76 rfl (by omega) (by decide) dX10_adds_85 (fun σ85 hw85 hf85 hl85 => ?_)
    have znow_85 := (hf85 62 (by decide)).trans znow_76
    have zbehind_85 := (hf85 71 (by decide)).trans zbehind_76
    have zmany_85 := (hf85 70 (by decide)).trans zmany_76
    have zkinds_85 := (hf85 66 (by decide)).trans zkinds_76
    have zfroms_85 := (hf85 67 (by decide)).trans hw76
    have zwhats_85 := (hf85 69 (by decide)).trans zwhats_76
    refine ev_aload_0 dX10_adds_86 ?_
    refine gf_X10_33 dX10_adds_87 hm.1 rfl ?_
    refine ev_iload_8 dX10_adds_90 ?_
    refine ev_iload_5 dX10_adds_92 ?_
    refine ev_stk (k := 1600 * d + L.length) hm.2.2.2.2.2.2.2.2.1 zwhats_85 rfl (by omega) (by decide) dX10_adds_94 (fun σ94 hw94 hf94 hl94 => ?_)
    have znow_94 := (hf94 62 (by decide)).trans znow_85
    have zbehind_94 := (hf94 71 (by decide)).trans zbehind_85
    have zmany_94 := (hf94 70 (by decide)).trans zmany_85
    have zkinds_94 := (hf94 66 (by decide)).trans zkinds_85
    have zfroms_94 := (hf94 67 (by decide)).trans zfroms_85
    have ztos_94 := (hf94 68 (by decide)).trans hw85
    first
    | refine ev_pv dX10_adds_95 ⟨?_, fun j x61 xb x73 x74 => ?_, fun k x17 => ?_, fun q q1 q2 k _ => ?_, fun k _ => ?_, fun k hk => ?_, ?_⟩
      · rw [hno, if_neg (by decide), List.append_nil]
        unfold mliR
        rw [zkinds_94, zfroms_94, ztos_94, hw94, zmany_94]; exact hl
      · by_cases y : j = 62
        · subst y; exact a1.trans hg.symm
        · have x62 := y
          have x71 : j ≠ 71 := by omega
          rw [hf94 j x69, hf85 j x68, hf76 j x67, hf68 j x66, hf57 j x70, a2 j x62, s2.1 j x61 x73 x74, p2 j x62, k2 j x71]
      · rw [a2 61 (by decide)]
        exact (s2.2.1 k x17).trans (by rw [p2 61 (by decide), k2 61 (by decide)])
      · rcases (show q = 66 ∨ q = 67 ∨ q = 68 ∨ q = 69 by omega) with y | y | y | y <;> subst y
        · rw [zkinds_94]
        · rw [zfroms_94]
        · rw [ztos_94]
        · rw [hw94]
      · rw [zmany_94]
      · rw [zbehind_94]; unfold kpF; rw [if_neg (by omega)]
      · rw [hl94, hl85, hl76, hl68, hl57, a3, s2.2.2, p3, k3]
    | refine ev_pv dX10_adds_95 ⟨?_, fun j x61 xb x73 x74 => ?_, fun k x17 => ?_, fun q q1 q2 k hk => ?_, fun k hk => ?_, fun k hk => ?_, ?_⟩
      · rw [hyes, if_pos rfl]
        exact hl.add hlen zmany_94 zkinds_94 zfroms_94 ztos_94 hw94
      · by_cases y : j = 62
        · subst y; exact znow_94.trans hg.symm
        · have x62 := y
          have x71 : j ≠ 71 := by omega
          have x66 : j ≠ 66 := by omega
          have x67 : j ≠ 67 := by omega
          have x68 : j ≠ 68 := by omega
          have x69 : j ≠ 69 := by omega
          have x70 : j ≠ 70 := by omega
          rw [hf94 j x69, hf85 j x68, hf76 j x67, hf68 j x66, hf57 j x70, a2 j x62, s2.1 j x61 x73 x74, p2 j x62, k2 j x71]
      · rw [hf94 61 (by decide), hf85 61 (by decide), hf76 61 (by decide), hf68 61 (by decide), hf57 61 (by decide), a2 61 (by decide)]
        exact (s2.2.1 k x17).trans (by rw [p2 61 (by decide), k2 61 (by decide)])
      · rcases (show q = 66 ∨ q = 67 ∨ q = 68 ∨ q = 69 by omega) with y | y | y | y <;> subst y
        · rw [zkinds_94, upd_ne (by omega)]
        · rw [zfroms_94, upd_ne (by omega)]
        · rw [ztos_94, upd_ne (by omega)]
        · rw [hw94, upd_ne (by omega)]
      · rw [zmany_94, upd_ne hk]
      · rw [zbehind_94]; unfold kpF; rw [if_neg (by omega)]
      · rw [hl94, hl85, hl76, hl68, hl57, a3, s2.2.2, p3, k3]
  · have hno : okG g m = false := (b2i_0 _).mp h38
    first
    | refine ev_pv dX10_adds_41 ⟨?_, fun j x61 xb x73 x74 => ?_, fun k x17 => ?_, fun q q1 q2 k _ => ?_, fun k _ => ?_, fun k hk => ?_, ?_⟩
      · rw [hno, if_neg (by decide), List.append_nil]
        unfold mliR
        rw [zkinds_33, zfroms_33, ztos_33, zwhats_33, zmany_33]; exact hl
      · by_cases y : j = 62
        · subst y; exact a1.trans hg.symm
        · have x62 := y
          have x71 : j ≠ 71 := by omega
          rw [a2 j x62, s2.1 j x61 x73 x74, p2 j x62, k2 j x71]
      · rw [a2 61 (by decide)]
        exact (s2.2.1 k x17).trans (by rw [p2 61 (by decide), k2 61 (by decide)])
      · rcases (show q = 66 ∨ q = 67 ∨ q = 68 ∨ q = 69 by omega) with y | y | y | y <;> subst y
        · rw [zkinds_33]
        · rw [zfroms_33]
        · rw [ztos_33]
        · rw [zwhats_33]
      · rw [zmany_33]
      · rw [zbehind_33]; unfold kpF; rw [if_neg (by omega)]
      · rw [a3, s2.2.2, p3, k3]
    | refine ev_pv dX10_adds_41 ⟨?_, fun j x61 xb x73 x74 => ?_, fun k x17 => ?_, fun q q1 q2 k hk => ?_, fun k hk => ?_, fun k hk => ?_, ?_⟩
      · rw [hyes, if_pos rfl]
        exact hl.add hlen zmany_33 zkinds_33 zfroms_33 ztos_33 zwhats_33
      · by_cases y : j = 62
        · subst y; exact a1.trans hg.symm
        · have x62 := y
          have x71 : j ≠ 71 := by omega
          have x66 : j ≠ 66 := by omega
          have x67 : j ≠ 67 := by omega
          have x68 : j ≠ 68 := by omega
          have x69 : j ≠ 69 := by omega
          have x70 : j ≠ 70 := by omega
          rw [a2 j x62, s2.1 j x61 x73 x74, p2 j x62, k2 j x71]
      · rw [hf94 61 (by decide), hf85 61 (by decide), hf76 61 (by decide), hf68 61 (by decide), hf57 61 (by decide), a2 61 (by decide)]
        exact (s2.2.1 k x17).trans (by rw [p2 61 (by decide), k2 61 (by decide)])
      · rcases (show q = 66 ∨ q = 67 ∨ q = 68 ∨ q = 69 by omega) with y | y | y | y <;> subst y
        · rw [zkinds_33, upd_ne (by omega)]
        · rw [zfroms_33, upd_ne (by omega)]
        · rw [ztos_33, upd_ne (by omega)]
        · rw [zwhats_33, upd_ne (by omega)]
      · rw [zmany_33, upd_ne hk]
      · rw [zbehind_33]; unfold kpF; rw [if_neg (by omega)]
      · rw [a3, s2.2.2, p3, k3]
