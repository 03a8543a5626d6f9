theorem ssF_cong {T T' W : Nat → Int32} : ∀ (r n : Nat), (∀ j, n ≤ j → j < n + r → T j = T' j) → ssF T W n r = ssF T' W n r
  | 0, _, _ => rfl
  | r + 1, n, h => by
    rw [ssF, ssF, h n (Nat.le_refl _) (by omega), ssF_cong r (n + 1) (fun j a b => h j (by omega) (by omega))]
theorem rdK_cong {T T' : Nat → Int32} {tl : Nat} (h : ∀ j, j < tl → T j = T' j) : ∀ f k kn, rdK T tl f k kn = rdK T' tl f k kn
  | 0, _, _ => rfl
  | f + 1, k, kn => by
    have e : alF T tl k = alF T' tl k := ssF_cong _ _ (fun j _ b => h j (by omega))
    rw [rdK, rdK, e, rdK_cong h f (k + 1)]
/-- only the tape and the reader have changed -/
def frD (σ σ' : mSt) : Prop := ∀ k, k ≠ 1 → k ≠ 2 → (k < 16 ∨ 19 < k) → σ'.1 k = σ.1 k ∧ σ'.2 k = σ.2 k
theorem rd0_X {σ : mSt} {r : Nat} : eqX (rd0 σ r) u0 := ⟨rfl, rfl, rfl, rfl, fun j hj => absurd hj (Nat.not_lt_zero _)⟩
theorem rdZ_X {σ : mSt} {r t n : Nat} {T : Nat → Int32} (h : ∀ j, j < n → σ.1 (t + 1) j = T j) : (rdZ σ r t n).1 = (xF T n 0 n u0).1 ∧ eqX (rdZ σ r t n).2 (xF T n 0 n u0).2 ∧ okX (xF T n 0 n u0).2 := xF_rel n 0 _ _ (fun j _ b => h j (by omega)) rd0_X okX_0
theorem read_def {σ σ' : mSt} {T : Nat → Int32} {tl : Nat} {x : Int32} (hT : tpR σ T tl) (h : rdPost σ 16 1 tl (rdK (σ.1 (1 + 1)) tl 7 0 0) x σ') : x = (defR T tl).1 ∧ ∃ s, rsR σ' 16 s ∧ eqX s (defR T tl).2 ∧ okX (defR T tl).2 ∧ frD σ σ' := by
  rw [rdK_cong (T' := T) (fun j hj => hT.2.2 j hj)] at h
  unfold defR
  generalize rdK T tl 7 0 0 = Q at h ⊢
  rcases Q with k | kn
  · obtain ⟨σ1, ⟨a1, a2, a3, a4⟩, e, hr, f⟩ := h
    obtain ⟨z1, z2, z3⟩ := rdZ_X (σ := σ1) (r := 16) (t := 1) (n := slen (7 + k)) (T := sgn (7 + k)) a2
    exact ⟨e.trans z1, _, hr, z2, z3, fun k b c d => ⟨(f.1 k (by omega)).trans (a3 k b c), by rw [f.2, a4]⟩⟩
  · obtain ⟨e, hr, f⟩ := h
    obtain ⟨z1, z2, z3⟩ := rdZ_X (σ := σ) (r := 16) (t := 1) (n := tl) (T := T) (fun j hj => hT.2.2 j hj)
    rw [z1] at e
    exact ⟨e, _, hr, z2, z3, fun k b c d => ⟨f.1 k (by omega), by rw [f.2]⟩⟩
/-- the reference's row after a type is defined -/
def defS (g : Nat → Int32) (t : Nat) (u : RS) : Nat → Int32 := fun i => if i = 60 + 21 * t then nI u.n else if 61 + 21 * t ≤ i ∧ i < 79 + 21 * t then (if i - (61 + 21 * t) < 3 * u.n then (if (i - (61 + 21 * t)) % 3 = 0 then u.m ((i - (61 + 21 * t)) / 3) else if (i - (61 + 21 * t)) % 3 = 1 then u.a ((i - (61 + 21 * t)) / 3) else u.r ((i - (61 + 21 * t)) / 3)) else 0) else g i
section DS
variable {g : Nat → Int32} {t : Nat} {u : RS}
theorem ds_ne {i : Nat} (h : i < 60 + 21 * t ∨ 79 + 21 * t ≤ i) : defS g t u i = g i := by
  unfold defS
  rw [if_neg (by omega), if_neg (by omega)]
theorem ds_n : defS g t u (60 + 21 * t) = nI u.n := if_pos rfl
theorem ds_m {j : Nat} (h : j < u.n) (h6 : u.n ≤ 6) : defS g t u (61 + 21 * t + 3 * j) = u.m j := by
  unfold defS
  rw [if_neg (by omega), if_pos (by omega), if_pos (by omega), if_pos (by omega)]
  congr 1; omega
theorem ds_a {j : Nat} (h : j < u.n) (h6 : u.n ≤ 6) : defS g t u (62 + 21 * t + 3 * j) = u.a j := by
  unfold defS
  rw [if_neg (by omega), if_pos (by omega), if_pos (by omega), if_neg (by omega), if_pos (by omega)]
  congr 1; omega
theorem ds_r {j : Nat} (h : j < u.n) (h6 : u.n ≤ 6) : defS g t u (63 + 21 * t + 3 * j) = u.r j := by
  unfold defS
  rw [if_neg (by omega), if_pos (by omega), if_pos (by omega), if_neg (by omega), if_neg (by omega)]
  congr 1; omega
theorem ds_cn {i : Nat} (h : i < 60 + 21 * t ∨ 79 + 21 * t ≤ i) : clN (defS g t u) i = clN g i := by rw [clN, clN, ds_ne h]
theorem ds_pc (h6 : u.n ≤ 6) : pcG (defS g t u) t = u.n := clN_nI ds_n (by omega)
theorem ds_wfP (hG : wfP g) : wfP (defS g t u) := wfP_lw (fun i hi => ds_ne (by omega)) hG
theorem ds_wfL (hW : wfL g) (ht : t < 6) (hu : okX u) (h1 : 1 ≤ u.n) : wfL (defS g t u) := by
  have h6 := hu.1.1
  obtain ⟨w1, w2, w3, w4, w5, w6, w7⟩ := hW
  refine ⟨?_, ?_, fun s hs => ?_, fun s hs => ?_, fun s hs => ?_, fun s hs j hj => ?_, fun k hk => ?_⟩
  · rw [ds_cn (by omega), ds_ne (by omega)]; exact w1
  · rw [ds_cn (by omega), ds_ne (by omega)]; exact w2
  · rw [ds_cn (by omega), ds_ne (by omega)]; exact w3 s hs
  · rw [ds_cn (by omega), ds_ne (by omega)]; exact w4 s hs
  · by_cases z : s = t
    · subst z
      rw [ds_pc h6, ds_n]
      exact ⟨h6, Or.inr ⟨rfl, h1⟩⟩
    · have e : pcG (defS g t u) s = pcG g s := ds_cn (by omega)
      rw [e, ds_ne (by omega)]; exact w5 s hs
  · by_cases z : s = t
    · subst z
      rw [ds_pc h6] at hj
      obtain ⟨⟨b, hb, eb⟩, ⟨c, hc, ec⟩, hr⟩ := hu.2.2 j hj
      refine ⟨?_, ?_, ?_⟩
      · rw [show clN (defS g s u) (61 + 21 * s + 3 * j) = c from clN_nI ((ds_m hj h6).trans ec) (by omega), ds_m hj h6, ec]; exact ⟨rfl, hc⟩
      · have : atG (defS g s u) s j = b := clN_nI ((ds_a hj h6).trans eb) (by omega)
        rw [this, ds_a hj h6, eb]; exact ⟨rfl, hb⟩
      · rw [ds_r hj h6]
        rcases hr with hr | ⟨d, hd, ed⟩
        · exact Or.inl hr
        · rw [show clN (defS g s u) (63 + 21 * s + 3 * j) = d from clN_nI ((ds_r hj h6).trans ed) (by omega), ed]
          exact Or.inr ⟨rfl, hd⟩
    · have e : pcG (defS g t u) s = pcG g s := ds_cn (by omega)
      rw [e] at hj
      have hj6 : j < 6 := by have := (w5 s hs).1; omega
      have e2 : atG (defS g t u) s j = atG g s j := ds_cn (by omega)
      rw [e2, ds_cn (by omega), ds_cn (by omega), ds_ne (by omega), ds_ne (by omega), ds_ne (by omega)]; exact w6 s hs j hj
  · have ec : ∀ i, i ≤ 5 → caN (defS g t u) k i = caN g k i := fun i hi => ds_cn (by omega)
    have ex : exN (defS g t u) k = exN g k := ds_cn (by omega)
    have er : riN (defS g t u) k = riN g k := ds_cn (by omega)
    have e1 : cN (defS g t u) = cN g := ds_cn (by omega)
    have e2 : rN (defS g t u) = rN g := ds_cn (by omega)
    obtain ⟨a1, a2, a3, a4⟩ := w7 k hk
    rw [ex, er, e1, e2, ds_ne (by omega)]
    refine ⟨a1, fun i hi hi2 => by rw [ec i hi2, ds_ne (by omega)]; exact a2 i hi hi2, fun z => ?_, a4⟩
    obtain ⟨b1, b2, b3, b4⟩ := a3 z
    exact ⟨by rw [ec 1 (by decide)]; exact b1, fun i hi hi2 => by rw [ec i hi2]; exact b2 i hi hi2, by rw [ec 2 (by decide), ec 4 (by decide)]; exact b3, by rw [ec 3 (by decide), ec 5 (by decide)]; exact b4⟩
theorem layF_in {f h : Nat → Int32} {b n k : Nat} (h1 : k < n) : layF f h b n (b + k) = h k := by
  unfold layF
  rw [if_pos (by omega), Nat.add_sub_cancel_left]
theorem layF_out {f h : Nat → Int32} {b n k : Nat} (h1 : k < b ∨ b + n ≤ k) : layF f h b n k = f k := by
  unfold layF
  rw [if_neg (by omega)]
theorem rc_le {d : Int32} (h : d = -1 ∨ ∃ e, e ≤ 5 ∧ d = nI e) : reachG d ≤ 6 := by
  rcases h with h | ⟨e, he, h⟩
  · rw [h]; decide
  · rw [h]
    have : ∀ e, e ≤ 5 → reachG (nI e) ≤ 6 := by decide
    exact this e he
theorem ds_L {σ σ2 : mSt} {s : RS} (hL : lawR σ 5 g) (ht : t < 6) (hu : okX u) (hx : eqX s u) (hs : rsR σ 16 s) (hp : setP σ σ2 5 16 t s.n (clN u.a) (upd (σ.1 (5 + 1)) t (nI s.n))) : lawR σ2 5 (defS g t u) := by
  have h6 := hu.1.1
  obtain ⟨x1, _, _, _, x5⟩ := hx
  obtain ⟨s1, s2, s3, s4⟩ := hs
  obtain ⟨p1, p2, p3, p4, p5, p6, p7⟩ := hp
  rw [x1] at p1 p2 p3 p4 p5
  obtain ⟨l1, l2, l3, l4, l5, l6, l7, l8, l9, l10⟩ := hL
  have hcl : ∀ j, j < u.n → u.a j = nI (clN u.a j) ∧ clN u.a j < 7 := fun j hj => by
    obtain ⟨⟨b, hb, eb⟩, _, _⟩ := hu.2.2 j hj
    rw [show clN u.a j = b from clN_nI eb (by omega)]; exact ⟨eb, hb⟩
  have hrc : ∀ j, j < u.n → reachG (u.r j) ≤ 6 := fun j hj => rc_le (hu.2.2 j hj).2.2
  refine ⟨fun q hq => ?_, fun q hq j hj => ?_, fun e he => ?_, fun e he => ?_, fun q hq => ?_, fun q hq => ?_, fun k hk => ?_, fun k i hk hi => ?_, ?_, ?_⟩
  · rw [p1]
    by_cases z : q = t
    · subst z; rw [upd_at, ds_pc h6]; exact ⟨rfl, h6⟩
    · have e : pcG (defS g t u) q = pcG g q := ds_cn (by omega)
      rw [upd_ne z, e]; exact l1 q hq
  · rw [p2, p3, p4, p5]
    by_cases z : q = t
    · subst z
      rw [ds_pc h6] at hj
      obtain ⟨y1, y2, y3⟩ := x5 j hj
      obtain ⟨c1, c2⟩ := hcl j hj
      have ea : atG (defS g q u) q j = clN u.a j := clN_nI ((ds_a hj h6).trans c1) (by omega)
      have em : mkG (defS g q u) q j = markG (u.m j) := by rw [mkG, ds_m hj h6]
      have er : rcG (defS g q u) q j = reachG (u.r j) := by rw [rcG, ds_r hj h6]
      rw [dmG, ea, em, er, layF_in hj, layF_in hj, layF_in hj, layF_in hj, s2, s3, s4, y1, y2, y3]
      exact ⟨c1, rfl, rfl, rfl⟩
    · have e : pcG (defS g t u) q = pcG g q := ds_cn (by omega)
      rw [e] at hj
      have hj6 : j < 6 := by have := (l1 q hq).2; omega
      have ea : atG (defS g t u) q j = atG g q j := ds_cn (by omega)
      have em : mkG (defS g t u) q j = mkG g q j := by rw [mkG, mkG, ds_ne (by omega)]
      have er : rcG (defS g t u) q j = rcG g q j := by rw [rcG, rcG, ds_ne (by omega)]
      rw [dmG, ea, em, er, layF_out (by omega), layF_out (by omega), layF_out (by omega), layF_out (by omega)]
      exact l2 q hq j hj
  · have : σ2.1 (5 + 2) e = nI (clN (σ2.1 (5 + 2)) e) ∧ clN (σ2.1 (5 + 2)) e < 7 := by
      have hv : (σ2.1 (5 + 2) e = σ.1 (5 + 2) e) ∨ ∃ j, j < u.n ∧ σ2.1 (5 + 2) e = u.a j := by
        rw [p2]
        by_cases z : t * 6 ≤ e ∧ e < t * 6 + u.n
        · refine Or.inr ⟨e - t * 6, by omega, ?_⟩
          rw [show e = t * 6 + (e - t * 6) by omega, layF_in (by omega), Nat.add_sub_cancel_left, s2]
          exact (x5 _ (by omega)).1
        · exact Or.inl (layF_out (by omega))
      rcases hv with hv | ⟨j, hj, hv⟩
      · have := l3 e he
        rw [clN, hv]; exact this
      · have := hcl j hj
        rw [clN, hv]; exact this
    exact this
  · have hv : (σ2.1 (5 + 4) e = σ.1 (5 + 4) e) ∨ ∃ j, j < u.n ∧ σ2.1 (5 + 4) e = nI (reachG (u.r j)) := by
      rw [p4]
      by_cases z : t * 6 ≤ e ∧ e < t * 6 + u.n
      · refine Or.inr ⟨e - t * 6, by omega, ?_⟩
        rw [show e = t * 6 + (e - t * 6) by omega, layF_in (by omega), Nat.add_sub_cancel_left, s4]
        exact (x5 _ (by omega)).2.2
      · exact Or.inl (layF_out (by omega))
    rcases hv with hv | ⟨j, hj, hv⟩
    · have := l4 e he
      rw [clN, hv]; exact this
    · have := hrc j hj
      rw [clN, hv, nI_clamp (by omega)]; exact ⟨rfl, this⟩
  · rw [p6 _ (by omega), ds_ne (by omega)]; exact l5 q hq
  · rw [p6 _ (by omega), ds_ne (by omega)]; exact l6 q hq
  · rw [p6 _ (by omega), ds_ne (by omega), ds_ne (by omega)]; exact l7 k hk
  · rw [p6 _ (by omega), ds_ne (by omega)]; exact l8 k i hk hi
  · rw [p6 _ (by omega), ds_ne (by omega)]; exact l9
  · rw [p6 _ (by omega), ds_ne (by omega)]; exact l10
end DS

set_option maxRecDepth 100000 in
set_option maxHeartbeats 4000000 in
theorem c_defineNo {ae ad : Nat → Nat} {sh : mSh} {σ : mSt} {x : Int32} (hb : mBoard ad sh) (h : isTy x = false) : Ct yX9_define cX9_define 3 (some .int) 6 0 0 [.ref (ad 0), .int x] ae ad sh σ (mEq (some (.int (-1))) ad sh σ) := by
  refine Ct.ofL (own := RX9) (ini := false) (ls := [some (.ref (ad 0)), some (.int x), none]) (by decide +kernel) rfl (fun h => by cases h) (Nat.le_of_ble_eq_true rfl) rfl ?_
  refine ev_iload_1 dX9_define_0 ?_
  refine cl_X9_109 c_isType dX9_define_1 rfl (Nat.le_of_ble_eq_true rfl) ?_
  refine ev_if_ne (tgt := 9) dX9_define_4 (by decide) (fun h4 => absurd h4 (by rw [h]; decide)) (fun h4 => ?_)
  refine ev_iconst_m1 dX9_define_7 ?_
  exact ev_ireturn dX9_define_8
set_option maxRecDepth 100000 in
set_option maxHeartbeats 4000000 in
theorem c_defineBad {ae ad : Nat → Nat} {sh : mSh} {σ : mSt} {t tl : Nat} {T : Nat → Int32} (hb : mBoard ad sh) (hT : tpR σ T tl) (ht : t < 6) (hw : ¬ (defR T tl).1 < 0) : Ct yX9_define cX9_define 3 (some .int) 6 0 0 [.ref (ad 0), .int (nI t)] ae ad sh σ (mPi ad sh (fun x σ' => x = -100 - (defR T tl).1 ∧ σ'.1 1 1 = 0 ∧ frD σ σ')) := by
  refine Ct.ofL (own := RX9) (ini := false) (ls := [some (.ref (ad 0)), some (.int (nI t)), none]) (by decide +kernel) rfl (fun h => by cases h) (Nat.le_of_ble_eq_true rfl) rfl ?_
  refine ev_iload_1 dX9_define_0 ?_
  refine cl_X9_109 c_isType dX9_define_1 rfl (Nat.le_of_ble_eq_true rfl) ?_
  refine ev_if_ne (tgt := 9) dX9_define_4 (by decide) (fun h4 => ?_) (fun h4 => ?_)
  · refine ev_aload_0 dX9_define_9 ?_
    refine gf_X9_40 dX9_define_10 hb.1 rfl ?_
    refine ev_aload_0 dX9_define_13 ?_
    refine gf_X9_14 dX9_define_14 hb.1 rfl ?_
    refine cg_X9_112 (c_read hb.2.2.2.2.2.1 hb.2.1 (by omega) hT.1 hT.2.1) hb.2.2.2.2.2.1.1 dX9_define_17 rfl (Nat.le_of_ble_eq_true rfl) (fun r1 σ1 h1 => ?_)
    obtain ⟨e1, s, hs, hx, hok, hf⟩ := read_def hT h1
    subst e1
    refine ev_istore_2 dX9_define_20 rfl rfl ?_
    refine ev_aload_0 dX9_define_21 ?_
    refine gf_X9_14 dX9_define_22 hb.1 rfl ?_
    refine ev_iconst_0 dX9_define_25 ?_
    refine pf_X9_91 dX9_define_26 hb.2.1.1 rfl ?_
    refine ev_iload_2 dX9_define_29 ?_
    refine ev_if_lt (tgt := 38) dX9_define_30 (by decide) (fun h30 => absurd h30 hw) (fun h30 => ?_)
    refine ev_bipush_m100 dX9_define_33 ?_
    refine ev_iload_2 dX9_define_35 ?_
    refine ev_isub dX9_define_36 ?_
    exact ev_pi dX9_define_37 ⟨rfl, by simp [mu, upd], fun k a b c => ⟨(mu_ne _ a).trans (hf k a b c).1, (hf k a b c).2⟩⟩
  · exact absurd h4 (by rw [isTy_of ht]; decide)
set_option maxRecDepth 100000 in
set_option maxHeartbeats 4000000 in
theorem c_define {ae ad : Nat → Nat} {sh : mSh} {σ : mSt} {t tl : Nat} {T : Nat → Int32} (hb : mBoard ad sh) (hT : tpR σ T tl) (ht : t < 6) {g : Nat → Int32} (hG : wfP g) (hP : posR σ 20 g) (hR : ritR σ 20 g) (hL : lawR σ 5 g) (hw : (defR T tl).1 < 0) : Ct yX9_define cX9_define 3 (some .int) 6 0 0 [.ref (ad 0), .int (nI t)] ae ad sh σ (mPi ad sh (fun x σ' => x = nI (defR T tl).2.n ∧ ∃ σ1 : mSt, frD σ σ1 ∧ σ1.1 1 1 = 0 ∧ setR σ1 σ' (defS g t (defR T tl).2))) := by
  refine Ct.ofL (own := RX9) (ini := false) (ls := [some (.ref (ad 0)), some (.int (nI t)), none]) (by decide +kernel) rfl (fun h => by cases h) (Nat.le_of_ble_eq_true rfl) rfl ?_
  refine ev_iload_1 dX9_define_0 ?_
  refine cl_X9_109 c_isType dX9_define_1 rfl (Nat.le_of_ble_eq_true rfl) ?_
  refine ev_if_ne (tgt := 9) dX9_define_4 (by decide) (fun h4 => ?_) (fun h4 => ?_)
  · refine ev_aload_0 dX9_define_9 ?_
    refine gf_X9_40 dX9_define_10 hb.1 rfl ?_
    refine ev_aload_0 dX9_define_13 ?_
    refine gf_X9_14 dX9_define_14 hb.1 rfl ?_
    refine cg_X9_112 (c_read hb.2.2.2.2.2.1 hb.2.1 (by omega) hT.1 hT.2.1) hb.2.2.2.2.2.1.1 dX9_define_17 rfl (Nat.le_of_ble_eq_true rfl) (fun r1 σ1 h1 => ?_)
    obtain ⟨e1, s, hs, hx, hok, hf⟩ := read_def hT h1
    subst e1
    refine ev_istore_2 dX9_define_20 rfl rfl ?_
    refine ev_aload_0 dX9_define_21 ?_
    refine gf_X9_14 dX9_define_22 hb.1 rfl ?_
    refine ev_iconst_0 dX9_define_25 ?_
    refine pf_X9_91 dX9_define_26 hb.2.1.1 rfl ?_
    have q1 : ∀ k, k ≠ 1 → k ≠ 2 → (k < 16 ∨ 19 < k) → (mu σ1.1 1 1 0, σ1.2).1 k = σ.1 k := fun k a b c => (mu_ne _ a).trans (hf k a b c).1
    have P1 := posR_lo hP hR (σ' := (mu σ1.1 1 1 0, σ1.2)) (fun j hj => q1 _ (by omega) (by omega) (by omega)) (hf 20 (by decide) (by decide) (by decide)).2
    have L1 : lawR (mu σ1.1 1 1 0, σ1.2) 5 g := lawR_lo hL (fun j hj => q1 _ (by omega) (by omega) (by omega))
    have S3 : rsR (mu σ1.1 1 1 0, σ1.2) 16 s := by
      obtain ⟨a1, a2, a3, a4⟩ := hs
      have e : ∀ k, k ≠ 1 → (mu σ1.1 1 1 0, σ1.2).1 k = σ1.1 k := fun k hk => mu_ne _ hk
      refine ⟨?_, ?_, ?_, ?_⟩
      · rw [e _ (by decide)]; exact a1
      · rw [e _ (by decide)]; exact a2
      · rw [e _ (by decide)]; exact a3
      · rw [e _ (by decide)]; exact a4
    have hA : ∀ i, i < s.n → (mu σ1.1 1 1 0, σ1.2).1 (16 + 1) i = nI (clN (defR T tl).2.a i) ∧ clN (defR T tl).2.a i < 7 := fun i hi => by
      rw [hx.1] at hi
      obtain ⟨⟨b, hb2, eb⟩, _, _⟩ := hok.2.2 i hi
      rw [S3.2.1, (hx.2.2.2.2 i hi).1, show clN (defR T tl).2.a i = b from clN_nI eb (by omega)]
      exact ⟨eb, hb2⟩
    refine ev_iload_2 dX9_define_29 ?_
    refine ev_if_lt (tgt := 38) dX9_define_30 (by decide) (fun h30 => ?_) (fun h30 => absurd hw h30)
    refine ev_aload_0 dX9_define_38 ?_
    refine gf_X9_24 dX9_define_39 hb.1 rfl ?_
    refine ev_iload_1 dX9_define_42 ?_
    refine ev_aload_0 dX9_define_43 ?_
    refine gf_X9_40 dX9_define_44 hb.1 rfl ?_
    refine cg_X9_116 (c_setParts (t := t) (L := s.n) (A := clN (defR T tl).2.a) hb.2.2.2.1 hb.2.2.2.2.2.1 (by omega) ht (by rw [hx.1]; exact hok.1.1) (S3.1) hA) hb.2.2.2.1.1 dX9_define_47 rfl (Nat.le_of_ble_eq_true rfl) (fun σ2 h2 => ?_)
    have L2 := ds_L L1 ht hok hx S3 h2
    have q2 : ∀ k, 10 < k → σ2.1 k = (mu σ1.1 1 1 0, σ1.2).1 k := fun k hk => h2.2.2.2.2.2.1 k (by omega)
    have P2 := posR_lo P1.1 P1.2 (σ' := σ2) (fun j hj => q2 _ (by omega)) (by rw [h2.2.2.2.2.2.2])
    have P3 := posR_lw (g' := defS g t (defR T tl).2) (fun i hi => ds_ne (by omega)) P2.1 P2.2
    have hst := setR_beg (σ := (mu σ1.1 1 1 0, σ1.2)) P3 L2 (fun k a b => ⟨h2.2.2.2.2.2.1 k (by omega), by rw [h2.2.2.2.2.2.2]⟩)
    refine ev_aload_0 dX9_define_50 ?_
    refine cl_X9_84 (c_beginG hb (ds_wfP hG) P3.1 P3.2) hb.1 dX9_define_51 rfl (Nat.le_of_ble_eq_true rfl) ?_
    refine ev_aload_0 dX9_define_54 ?_
    refine gf_X9_24 dX9_define_55 hb.1 rfl ?_
    refine ev_iload_1 dX9_define_58 ?_
    refine cl_X9_120 (c_partsOf hb.2.2.2.1) hb.2.2.2.1.1 dX9_define_59 rfl (Nat.le_of_ble_eq_true rfl) ?_
    have hn6 := hok.1.1
    exact ev_pi dX9_define_62 ⟨by rw [cellV_nI (by omega) ht, (hst.2.1.1 t ht).1, ds_pc hn6], _, fun k a b c => ⟨q1 k a b c, (hf k a b c).2⟩, by simp [mu, upd], hst⟩
  · exact absurd h4 (by rw [isTy_of ht]; decide)
