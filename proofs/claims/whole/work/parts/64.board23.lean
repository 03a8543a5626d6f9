/-- the position before the move i, or the one that stands -/
def curK (g : Nat → Int32) (D i k : Nat) : Int32 := if i < D then g (208 + 53 * i + k) else g k
/-- the trail p tells the moves that led to g -/
def trR (σ : mSt) (p : Nat) (g : Nat → Int32) (D : Nat) : Prop := trD σ p g D ∧ ∀ i, i < D → ∃ (gi : Nat → Int32) (m : Nat), (∀ k, k < 53 → gi k = g (208 + 53 * i + k)) ∧ (∀ k, 53 ≤ k → k < 208 → k ≠ 57 → gi k = g k) ∧ wfP gi ∧ wfL gi ∧ mvOk gi m ∧ σ.1 (p + 1) i = nI m ∧ σ.1 (p + 2) i = nI (unG gi m) ∧ ∀ k, k < 53 → curK g D (i + 1) k = playsG gi m k
theorem trR_lo {σ σ' : mSt} {p D : Nat} {g : Nat → Int32} (h : trR σ p g D) (e : ∀ i, i ≤ 3 → σ'.1 (p + i) = σ.1 (p + i)) : trR σ' p g D := by
  have e0 := e 0 (by decide)
  rw [Nat.add_zero] at e0
  unfold trR trD
  rw [e0, e 1 (by decide), e 2 (by decide), e 3 (by decide)]
  exact h
/-- the reference's row after the move m -/
def makG (g : Nat → Int32) (m D : Nat) : Nat → Int32 := fun k => if k < 53 then playsG g m k else if k = 57 then nI (D + 1) else if 208 + 53 * D ≤ k ∧ k < 208 + 53 * D + 53 then g (k - (208 + 53 * D)) else if k = 2328 + D + 1 then dgG (playsG g m) else g k
theorem mak_lo {g : Nat → Int32} {m D k : Nat} (h : k < 53) : makG g m D k = playsG g m k := if_pos h
theorem mak_mid {g : Nat → Int32} {m D k : Nat} (hD : D < 40) (h : 53 ≤ k) (h2 : k < 208 + 53 * D) (h3 : k ≠ 57) : makG g m D k = g k := by
  unfold makG
  rw [if_neg (by omega), if_neg h3, if_neg (by omega)]
  split
  · omega
  · rfl
theorem mak_new {g : Nat → Int32} {m D k : Nat} (h : k < 53) : makG g m D (208 + 53 * D + k) = g k := by
  unfold makG
  rw [if_neg (by omega), if_neg (by omega), if_pos (by omega), Nat.add_sub_cancel_left]
theorem mak_57 {g : Nat → Int32} {m D : Nat} : makG g m D 57 = nI (D + 1) := by
  unfold makG
  rw [if_neg (by omega), if_pos rfl]
theorem mak_dg {g : Nat → Int32} {m D : Nat} (hD : D < 40) : makG g m D (2328 + D + 1) = dgG (playsG g m) := by
  unfold makG
  rw [if_neg (by omega), if_neg (by omega), if_neg (by omega), if_pos rfl]
theorem mak_do {g : Nat → Int32} {m D i : Nat} (hD : D < 40) (hi : i ≤ D) : makG g m D (2328 + i) = g (2328 + i) := by
  unfold makG
  rw [if_neg (by omega), if_neg (by omega), if_neg (by omega), if_neg (by omega)]
theorem mak_55 {g : Nat → Int32} {m D : Nat} (hD : D < 40) : ∀ i, i < 55 → makG g m D i = playsG g m i := fun i hi => by
  by_cases h : i < 53
  · exact mak_lo h
  · rw [mak_mid (by omega) (by omega) (by omega) (by omega), pl_hi (by omega)]
theorem mak_lw {g : Nat → Int32} {m D : Nat} (hD : D < 40) : ∀ i, 53 ≤ i → i < 208 → i ≠ 57 → makG g m D i = g i := fun i h1 h2 h3 => mak_mid hD h1 (by omega) h3
theorem trR_make {σ σ' : mSt} {p D m : Nat} {g : Nat → Int32} (h : trR σ p g D) (hD : D < 40) (hG : wfP g) (hW : wfL g) (hm : mvOk g m)
    (e1 : σ'.1 (p + 1) = upd (σ.1 (p + 1)) D (nI m)) (e2 : σ'.1 (p + 2) = upd (σ.1 (p + 2)) D (nI (unG g m))) (e3 : σ'.1 p 3 = nI (D + 1)) (e4 : σ'.1 (p + 3) = upd (σ.1 (p + 3)) (D + 1) (dgG (playsG g m))) : trR σ' p (makG g m D) (D + 1) := by
  obtain ⟨⟨a1, a2, a3, a4⟩, h2⟩ := h
  refine ⟨⟨mak_57, by omega, e3, fun i hi => ?_⟩, fun i hi => ?_⟩
  · rw [e4]
    by_cases z : i = D + 1
    · rw [z, show 2328 + (D + 1) = 2328 + D + 1 by omega, mak_dg hD]; exact if_pos rfl
    · rw [mak_do hD (by omega)]
      exact (if_neg z).trans (a4 i (by omega))
  · by_cases z : i = D
    · refine ⟨g, m, fun k hk => ?_, fun k b1 b2 b3 => (mak_lw hD k b1 b2 b3).symm, hG, hW, hm, ?_, ?_, fun k hk => ?_⟩
      · rw [z, mak_new hk]
      · rw [e1, z]; exact if_pos rfl
      · rw [e2, z]; exact if_pos rfl
      · rw [curK, if_neg (by omega), mak_lo hk]
    · obtain ⟨gi, mi, c1, c2, c3, c4, c5, c6, c7, c8⟩ := h2 i (by omega)
      refine ⟨gi, mi, fun k hk => ?_, fun k b1 b2 b3 => by rw [mak_lw hD k b1 b2 b3]; exact c2 k b1 b2 b3, c3, c4, c5, ?_, ?_, fun k hk => ?_⟩
      · rw [mak_mid (by omega) (by omega) (by omega) (by omega)]; exact c1 k hk
      · rw [e1]; exact (if_neg z).trans c6
      · rw [e2]; exact (if_neg z).trans c7
      · rw [← c8 k hk, curK, curK, if_pos (by omega)]
        by_cases y : i + 1 < D
        · rw [if_pos y, mak_mid (by omega) (by omega) (by omega) (by omega)]
        · rw [if_neg y, show i + 1 = D by omega, mak_new hk]
/-- the reference's row when a move is taken back -/
def bakG (g : Nat → Int32) (D : Nat) : Nat → Int32 := fun k => if k < 53 then g (208 + 53 * (D - 1) + k) else if k = 57 then nI (D - 1) else g k
theorem bak_hi {g : Nat → Int32} {D k : Nat} (h : 53 ≤ k) (h2 : k ≠ 57) : bakG g D k = g k := by
  unfold bakG
  rw [if_neg (by omega), if_neg h2]
theorem trR_back {σ σ' : mSt} {p D : Nat} {g : Nat → Int32} (h : trR σ p g D) (hD : 1 ≤ D) (e1 : ∀ i, 1 ≤ i → i ≤ 3 → σ'.1 (p + i) = σ.1 (p + i)) (e3 : σ'.1 p 3 = nI (D - 1)) : trR σ' p (bakG g D) (D - 1) := by
  obtain ⟨⟨a1, a2, a3, a4⟩, h2⟩ := h
  refine ⟨⟨by unfold bakG; rw [if_neg (by omega), if_pos rfl], by omega, e3, fun i hi => ?_⟩, fun i hi => ?_⟩
  · rw [e1 3 (by decide) (by decide), bak_hi (by omega) (by omega)]; exact a4 i (by omega)
  · obtain ⟨gi, mi, c1, c2, c3, c4, c5, c6, c7, c8⟩ := h2 i (by omega)
    refine ⟨gi, mi, fun k hk => by rw [bak_hi (by omega) (by omega)]; exact c1 k hk, fun k b1 b2 b3 => by rw [bak_hi b1 b3]; exact c2 k b1 b2 b3, c3, c4, c5, by rw [e1 1 (by decide) (by decide)]; exact c6, by rw [e1 2 (by decide) (by decide)]; exact c7, fun k hk => ?_⟩
    rw [← c8 k hk, curK, curK, if_pos (show i + 1 < D by omega)]
    by_cases y : i + 1 < D - 1
    · rw [if_pos y, bak_hi (by omega) (by omega)]
    · rw [if_neg y, show i + 1 = D - 1 by omega]
      exact if_pos hk
theorem c_digG {ae ad : Nat → Nat} {sh : mSh} {σ : mSt} {p : Nat} {g : Nat → Int32} (hp : mPos ad sh p) (hG : wfP g) (hP : posR σ p g) (hR : ritR σ p g) : Ct yX6_digestNow cX6_digestNow 3 (some .int) 1 0 0 [.ref (ad p)] ae ad sh σ (mEq (some (.int (dgG g))) ad sh σ) := by
  have h := c_digestNow (ae := ae) hp (hP.sq hG) (sq36 hG)
  rw [← dgQ_G hG hP hR]
  exact h
theorem c_trAddG {ae ad : Nat → Nat} {sh : mSh} {σ : mSt} {p M : Nat} (hp : mTrail ad sh p) (hM : σ.1 p 3 = nI M) (hM2 : M < 40) {m u d : Int32} : Ct yX8_add cX8_add 4 none 1 0 0 [.ref (ad p), .int m, .int u, .int d] ae ad sh σ (mPv ad sh (fun σ' => σ'.1 (p + 1) = upd (σ.1 (p + 1)) M m ∧ σ'.1 (p + 2) = upd (σ.1 (p + 2)) M u ∧ σ'.1 p 3 = nI (M + 1) ∧ σ'.1 (p + 3) = upd (σ.1 (p + 3)) (M + 1) d ∧ (∀ k, (k < p ∨ p + 3 < k) → σ'.1 k = σ.1 k) ∧ σ'.2 = σ.2)) := by
  refine Ct.mono (fun v ad' sh' σ' e => ⟨e.1, e.2.1, e.2.2.1, ?_⟩) (c_trAdd hp hM hM2)
  rw [e.2.2.2]
  dsimp only
  refine ⟨?_, ?_, ?_, ?_, fun k hk => ?_, rfl⟩
  · rw [mr_ne _ _ (by omega), mu_ne _ (by omega), mr_ne _ _ (by omega), mr_at]
  · rw [mr_ne _ _ (by omega), mu_ne _ (by omega), mr_at]
  · rw [mr_ne _ _ (by omega)]; simp [mu, upd]
  · rw [mr_at]
  · rw [mr_ne _ _ (by omega), mu_ne _ (by omega), mr_ne _ _ (by omega), mr_ne _ _ (by omega)]
/-- only the board's flag, the position, the trail and the list have changed -/
def frK (σ σ' : mSt) : Prop := ∀ k, k ≠ 0 → (k < 20 ∨ 22 < k) → (k < 26 ∨ 31 < k) → σ'.1 k = σ.1 k ∧ σ'.2 k = σ.2 k

set_option maxRecDepth 100000 in
set_option maxHeartbeats 4000000 in
theorem c_makeNo {ae ad : Nat → Nat} {sh : mSh} {σ : mSt} {g : Nat → Int32} {D : Nat} {i : Int32} (hb : mBoard ad sh) (hG : wfP g) (hW : wfL g) (hP : posR σ 20 g) (hR : ritR σ 20 g) (hL : lawR σ 5 g) (hl : (σ.1 0 11 = 0) ∨ lgR σ g) (hi : pickG g i = none) : Ct yX9_make cX9_make 4 (some .int) 8 0 0 [.ref (ad 0), .int i] ae ad sh σ (mPi ad sh (fun x σ' => x = -1 ∧ lgR σ' g ∧ (posR σ' 20 g ∧ ritR σ' 20 g) ∧ lawR σ' 5 g ∧ frB σ σ')) := by
  refine Ct.ofL (own := RX9) (ini := false) (ls := [some (.ref (ad 0)), some (.int i), none, none]) (by decide +kernel) rfl (fun h => by cases h) (Nat.le_of_ble_eq_true rfl) rfl ?_
  refine ev_aload_0 dX9_make_0 ?_
  refine cg_X9_202 (c_listed hb hG hW hP hR hL hl) hb.1 dX9_make_1 rfl (Nat.le_of_ble_eq_true rfl) (fun σ1 h1 => ?_)
  obtain ⟨h1, h2, f1⟩ := h1
  have hL1 := hL.B f1
  have h445 := legal_len hG
  refine ev_aload_0 dX9_make_4 ?_
  refine gf_X9_64 dX9_make_5 hb.1 rfl ?_
  refine ev_iload_1 dX9_make_8 ?_
  refine cl_X9_206 (c_moveAt hb.2.2.2.2.2.2.2.2.2.1 h1.2.1 h445) hb.2.2.2.2.2.2.2.2.2.1.1 dX9_make_9 rfl (Nat.le_of_ble_eq_true rfl) ?_
  rw [pick_none h1 hi]
  refine ev_istore_2 dX9_make_12 rfl rfl ?_
  refine ev_iload_2 dX9_make_13 ?_
  refine ev_if_ge (tgt := 19) dX9_make_14 (by decide) (fun h14 => absurd h14 (by decide)) (fun h14 => ?_)
  refine ev_iconst_m1 dX9_make_17 ?_
  exact ev_pi dX9_make_18 ⟨rfl, h1, h2, hL1, f1⟩
set_option maxRecDepth 100000 in
set_option maxHeartbeats 4000000 in
theorem c_makeFull {ae ad : Nat → Nat} {sh : mSh} {σ : mSt} {g : Nat → Int32} {D : Nat} {i : Int32} (hb : mBoard ad sh) (hG : wfP g) (hW : wfL g) (hP : posR σ 20 g) (hR : ritR σ 20 g) (hL : lawR σ 5 g) (hl : (σ.1 0 11 = 0) ∨ lgR σ g) {m : Nat} (hi : pickG g i = some m) (hM : σ.1 26 3 = nI 40) : Ct yX9_make cX9_make 4 (some .int) 8 0 0 [.ref (ad 0), .int i] ae ad sh σ (mPi ad sh (fun x σ' => x = -4 ∧ lgR σ' g ∧ (posR σ' 20 g ∧ ritR σ' 20 g) ∧ lawR σ' 5 g ∧ frB σ σ')) := by
  refine Ct.ofL (own := RX9) (ini := false) (ls := [some (.ref (ad 0)), some (.int i), none, none]) (by decide +kernel) rfl (fun h => by cases h) (Nat.le_of_ble_eq_true rfl) rfl ?_
  have hm := pick_ok hG hW hi
  refine ev_aload_0 dX9_make_0 ?_
  refine cg_X9_202 (c_listed hb hG hW hP hR hL hl) hb.1 dX9_make_1 rfl (Nat.le_of_ble_eq_true rfl) (fun σ1 h1 => ?_)
  obtain ⟨h1, h2, f1⟩ := h1
  have hL1 := hL.B f1
  have h445 := legal_len hG
  refine ev_aload_0 dX9_make_4 ?_
  refine gf_X9_64 dX9_make_5 hb.1 rfl ?_
  refine ev_iload_1 dX9_make_8 ?_
  refine cl_X9_206 (c_moveAt hb.2.2.2.2.2.2.2.2.2.1 h1.2.1 h445) hb.2.2.2.2.2.2.2.2.2.1.1 dX9_make_9 rfl (Nat.le_of_ble_eq_true rfl) ?_
  rw [pick_some h1 hi]
  refine ev_istore_2 dX9_make_12 rfl rfl ?_
  refine ev_iload_2 dX9_make_13 ?_
  refine ev_if_ge (tgt := 19) dX9_make_14 (by decide) (fun h14 => ?_) (fun h14 => absurd (nI_pos' (by have := mvOk_lt hm; omega)) h14)
  refine ev_aload_0 dX9_make_19 ?_
  refine gf_X9_57 dX9_make_20 hb.1 rfl ?_
  refine gf_X9_271 dX9_make_23 hb.2.2.2.2.2.2.2.2.1.1 rfl ?_
  rw [(f1 26 (by decide) (by decide) (by decide) (by decide) (by decide) (by decide)).1, hM]
  refine ev_bipush_40 dX9_make_26 ?_
  refine ev_icmp_lt (tgt := 34) dX9_make_28 (by decide) (fun h28 => absurd h28 (by decide)) (fun h28 => ?_)
  refine ev_bipush_m4 dX9_make_31 ?_
  exact ev_pi dX9_make_33 ⟨rfl, h1, h2, hL1, f1⟩
set_option maxRecDepth 100000 in
set_option maxHeartbeats 4000000 in
theorem c_makeS {ae ad : Nat → Nat} {sh : mSh} {σ : mSt} {g : Nat → Int32} {D : Nat} {i : Int32} (hb : mBoard ad sh) (hG : wfP g) (hW : wfL g) (hP : posR σ 20 g) (hR : ritR σ 20 g) (hL : lawR σ 5 g) (hl : (σ.1 0 11 = 0) ∨ lgR σ g) {m : Nat} (hi : pickG g i = some m) (hT : trR σ 26 g D) (hD : D < 40) : Ct yX9_make cX9_make 4 (some .int) 8 0 0 [.ref (ad 0), .int i] ae ad sh σ (mPi ad sh (fun x σ' => x = nI (ocG (makG g m D) (D + 1)) ∧ (posR σ' 20 (makG g m D) ∧ ritR σ' 20 (makG g m D)) ∧ lawR σ' 5 (makG g m D) ∧ trR σ' 26 (makG g m D) (D + 1) ∧ σ'.1 0 11 = 0 ∧ frK σ σ')) := by
  refine Ct.ofL (own := RX9) (ini := false) (ls := [some (.ref (ad 0)), some (.int i), none, none]) (by decide +kernel) rfl (fun h => by cases h) (Nat.le_of_ble_eq_true rfl) rfl ?_
  have hm := pick_ok hG hW hi
  refine ev_aload_0 dX9_make_0 ?_
  refine cg_X9_202 (c_listed hb hG hW hP hR hL hl) hb.1 dX9_make_1 rfl (Nat.le_of_ble_eq_true rfl) (fun σ1 h1 => ?_)
  obtain ⟨h1, h2, f1⟩ := h1
  have hL1 := hL.B f1
  have h445 := legal_len hG
  refine ev_aload_0 dX9_make_4 ?_
  refine gf_X9_64 dX9_make_5 hb.1 rfl ?_
  refine ev_iload_1 dX9_make_8 ?_
  refine cl_X9_206 (c_moveAt hb.2.2.2.2.2.2.2.2.2.1 h1.2.1 h445) hb.2.2.2.2.2.2.2.2.2.1.1 dX9_make_9 rfl (Nat.le_of_ble_eq_true rfl) ?_
  rw [pick_some h1 hi]
  refine ev_istore_2 dX9_make_12 rfl rfl ?_
  refine ev_iload_2 dX9_make_13 ?_
  refine ev_if_ge (tgt := 19) dX9_make_14 (by decide) (fun h14 => ?_) (fun h14 => absurd (nI_pos' (by have := mvOk_lt hm; omega)) h14)
  refine ev_aload_0 dX9_make_19 ?_
  refine gf_X9_57 dX9_make_20 hb.1 rfl ?_
  refine gf_X9_271 dX9_make_23 hb.2.2.2.2.2.2.2.2.1.1 rfl ?_
  rw [(f1 26 (by decide) (by decide) (by decide) (by decide) (by decide) (by decide)).1, hT.1.2.2.1]
  refine ev_bipush_40 dX9_make_26 ?_
  refine ev_icmp_lt (tgt := 34) dX9_make_28 (by decide) (fun h28 => ?_) (fun h28 => absurd (nI_lt (b := 40) hD (by decide)) h28)
  refine ev_aload_0 dX9_make_34 ?_
  refine gf_X9_33 dX9_make_35 hb.1 rfl ?_
  refine ev_aload_0 dX9_make_38 ?_
  refine gf_X9_47 dX9_make_39 hb.1 rfl ?_
  refine ev_iload_2 dX9_make_42 ?_
  refine cg_X9_257 (c_apply hb.2.2.2.2.1 hb.2.2.2.2.2.2.1 sep520 hG hW h2.1 h2.2 hL1 hm) hb.2.2.2.2.1.1 dX9_make_43 rfl (Nat.le_of_ble_eq_true rfl) (fun r3 σ3 h3 => ?_)
  obtain ⟨e3, q3, f3⟩ := h3
  subst e3
  have hA := ap_R hG hW hm q3
  have hL3 := hL1.fr f3 sep520
  have t3 : ∀ j, j ≤ 3 → σ3.1 (26 + j) = σ.1 (26 + j) := fun j hj => (f3 _ (by omega) (by omega) (by omega)).1.trans (f1 _ (by omega) (by omega) (by omega) (by omega) (by omega) (by omega)).1
  have hT3 := trR_lo hT t3
  refine ev_istore_3 dX9_make_46 rfl rfl ?_
  refine ev_aload_0 dX9_make_47 ?_
  refine gf_X9_57 dX9_make_48 hb.1 rfl ?_
  refine ev_iload_2 dX9_make_51 ?_
  refine ev_iload_3 dX9_make_52 ?_
  refine ev_aload_0 dX9_make_53 ?_
  refine gf_X9_47 dX9_make_54 hb.1 rfl ?_
  refine cl_X9_274 (c_digG hb.2.2.2.2.2.2.1 (pl_wfP hG hW hm) hA.1 hA.2) hb.2.2.2.2.2.2.1.1 dX9_make_57 rfl (Nat.le_of_ble_eq_true rfl) ?_
  refine cg_X9_277 (c_trAddG hb.2.2.2.2.2.2.2.2.1 hT3.1.2.2.1 hD) hb.2.2.2.2.2.2.2.2.1.1 dX9_make_60 rfl (Nat.le_of_ble_eq_true rfl) (fun σ4 h4 => ?_)
  obtain ⟨b1, b2, b3, b4, b5, b6⟩ := h4
  refine ev_aload_0 dX9_make_63 ?_
  refine ev_iconst_0 dX9_make_64 ?_
  refine pf_X9_279 (by decide) (by decide) dX9_make_65 hb.1 rfl ?_
  have hT5 : trR (mu σ4.1 0 11 0, σ4.2) 26 (makG g m D) (D + 1) := trR_lo (trR_make hT3 hD hG hW hm b1 b2 b3 b4) (fun j hj => mu_ne _ (by omega))
  refine ev_aload_0 dX9_make_68 ?_
  refine gf_X9_57 dX9_make_69 hb.1 rfl ?_
  refine cl_X9_283 (c_trOcc hb.2.2.2.2.2.2.2.2.1 hT5.1.2.2.1 hT5.1.2.1) hb.2.2.2.2.2.2.2.2.1.1 dX9_make_72 rfl (Nat.le_of_ble_eq_true rfl) ?_
  refine ev_pi dX9_make_75 ⟨congrArg nI (oc_eq hT5.1), ?_, ?_, hT5, by simp [mu, upd], fun k a b c => ?_⟩
  · refine posR_lw (mak_55 hD) (posR_row0 (by decide) (posR_lo hA.1 hA.2 (fun j hj => b5 _ (by omega)) (by rw [b6]))).1 (posR_row0 (by decide) (posR_lo hA.1 hA.2 (fun j hj => b5 _ (by omega)) (by rw [b6]))).2
  · exact lawR_hi (fun k b1 b2 b3 => mak_lw hD k (by omega) b2 b3) (lawR_lo hL3 (fun j hj => (mu_ne _ (by omega)).trans (b5 _ (by omega))))
  · dsimp only
    rw [mu_ne _ a, b5 _ (by omega), b6]
    exact ⟨(f3 k (by omega) (by omega) (by omega)).1.trans (f1 k a (by omega) (by omega) (by omega) (by omega) (by omega)).1, (f3 k (by omega) (by omega) (by omega)).2.trans (f1 k a (by omega) (by omega) (by omega) (by omega) (by omega)).2⟩
set_option maxRecDepth 100000 in
set_option maxHeartbeats 4000000 in
theorem c_backNo {ae ad : Nat → Nat} {sh : mSh} {σ : mSt} (hb : mBoard ad sh) (h0 : σ.1 26 3 = 0) : Ct yX9_back cX9_back 1 (some .int) 5 0 0 [.ref (ad 0)] ae ad sh σ (mEq (some (.int (-3))) ad sh σ) := by
  refine Ct.ofL (own := RX9) (ini := false) (ls := [some (.ref (ad 0))]) (by decide +kernel) rfl (fun h => by cases h) (Nat.le_of_ble_eq_true rfl) rfl ?_
  refine ev_aload_0 dX9_back_0 ?_
  refine gf_X9_57 dX9_back_1 hb.1 rfl ?_
  refine gf_X9_271 dX9_back_4 hb.2.2.2.2.2.2.2.2.1.1 rfl ?_
  rw [h0]
  refine ev_if_gt (tgt := 13) dX9_back_7 (by decide) (fun h7 => absurd h7 (by decide)) (fun h7 => ?_)
  refine ev_bipush_m3 dX9_back_10 ?_
  exact ev_ireturn dX9_back_12
set_option maxRecDepth 100000 in
set_option maxHeartbeats 4000000 in
theorem c_backS {ae ad : Nat → Nat} {sh : mSh} {σ : mSt} {g : Nat → Int32} {D : Nat} (hb : mBoard ad sh) (hG : wfP g) (hW : wfL g) (hP : posR σ 20 g) (hR : ritR σ 20 g) (hL : lawR σ 5 g) (hT : trR σ 26 g D) (hD : 1 ≤ D) : Ct yX9_back cX9_back 1 (some .int) 5 0 0 [.ref (ad 0)] ae ad sh σ (mPi ad sh (fun x σ' => x = nI (D - 1) ∧ (wfP (bakG g D) ∧ wfL (bakG g D)) ∧ (posR σ' 20 (bakG g D) ∧ ritR σ' 20 (bakG g D)) ∧ lawR σ' 5 (bakG g D) ∧ trR σ' 26 (bakG g D) (D - 1) ∧ σ'.1 0 11 = 0 ∧ frK σ σ')) := by
  refine Ct.ofL (own := RX9) (ini := false) (ls := [some (.ref (ad 0))]) (by decide +kernel) rfl (fun h => by cases h) (Nat.le_of_ble_eq_true rfl) rfl ?_
  have hD40 := hT.1.2.1
  obtain ⟨gi, m, c1, c2, c3, c4, c5, c6, c7, c8⟩ := hT.2 (D - 1) (by omega)
  have g5 : ∀ k, k < 55 → playsG gi m k = g k := fun k hk => by
    by_cases z : k < 53
    · rw [← c8 k z, curK, if_neg (by omega)]
    · rw [pl_hi (by omega), c2 k (by omega) (by omega) (by omega)]
  have hS : ∀ k, k ≠ 26 → (mu σ.1 26 3 (nI (D - 1)), σ.2).1 k = σ.1 k := fun k hk => mu_ne _ hk
  have P0 := posR_lw g5 hP hR
  have P1 := posR_lo (σ' := (mu σ.1 26 3 (nI (D - 1)), σ.2)) P0.1 P0.2 (fun j hj => hS _ (by omega)) rfl
  have Q1 := pl_Q c3 c4 c5 P1.1 P1.2
  have L1 : lawR (mu σ.1 26 3 (nI (D - 1)), σ.2) 5 gi := lawR_hi (fun k b1 b2 b3 => c2 k (by omega) b2 b3) (lawR_lo hL (fun j hj => hS _ (by omega)))
  have eb : ∀ k, k < 55 → bakG g D k = gi k := fun k hk => by
    by_cases z : k < 53
    · rw [c1 k z]; exact if_pos z
    · rw [bak_hi (by omega) (by omega), c2 k (by omega) (by omega) (by omega)]
  have eb2 : ∀ k, 53 ≤ k → k < 208 → k ≠ 57 → bakG g D k = gi k := fun k b1 b2 b3 => by rw [bak_hi b1 b3, c2 k b1 b2 b3]
  refine ev_aload_0 dX9_back_0 ?_
  refine gf_X9_57 dX9_back_1 hb.1 rfl ?_
  refine gf_X9_271 dX9_back_4 hb.2.2.2.2.2.2.2.2.1.1 rfl ?_
  rw [hT.1.2.2.1]
  refine ev_if_gt (tgt := 13) dX9_back_7 (by decide) (fun h7 => ?_) (fun h7 => absurd (Int32.not_le.mp (nI_nle (by omega) (by omega))) h7)
  refine ev_aload_0 dX9_back_13 ?_
  refine gf_X9_57 dX9_back_14 hb.1 rfl ?_
  refine ev_dup dX9_back_17 rfl ?_
  refine gf_X9_271 dX9_back_18 hb.2.2.2.2.2.2.2.2.1.1 rfl ?_
  rw [hT.1.2.2.1]
  refine ev_iconst_1 dX9_back_21 ?_
  refine ev_isub dX9_back_22 ?_
  rw [lI1, nI_sub hD]
  refine pf_X9_271 dX9_back_23 hb.2.2.2.2.2.2.2.2.1.1 rfl ?_
  refine ev_aload_0 dX9_back_26 ?_
  refine gf_X9_33 dX9_back_27 hb.1 rfl ?_
  refine ev_aload_0 dX9_back_30 ?_
  refine gf_X9_47 dX9_back_31 hb.1 rfl ?_
  refine ev_aload_0 dX9_back_34 ?_
  refine gf_X9_57 dX9_back_35 hb.1 rfl ?_
  refine gf_X9_286 dX9_back_38 hb.2.2.2.2.2.2.2.2.1.1 rfl ?_
  refine ev_aload_0 dX9_back_41 ?_
  refine gf_X9_57 dX9_back_42 hb.1 rfl ?_
  refine gf_X9_271 dX9_back_45 hb.2.2.2.2.2.2.2.2.1.1 rfl ?_
  rw [show (mu σ.1 26 3 (nI (D - 1)), σ.2).1 26 3 = nI (D - 1) from by simp [mu, upd]]
  refine cl_X9_134 (c_cell hb.2.2.2.2.2.2.2.2.1.2.1 (by decide)) dX9_back_48 rfl (Nat.le_of_ble_eq_true rfl) ?_
  rw [cellV_nI (by omega) (by omega), hS _ (by decide), c6]
  refine ev_aload_0 dX9_back_51 ?_
  refine gf_X9_57 dX9_back_52 hb.1 rfl ?_
  refine gf_X9_289 dX9_back_55 hb.2.2.2.2.2.2.2.2.1.1 rfl ?_
  refine ev_aload_0 dX9_back_58 ?_
  refine gf_X9_57 dX9_back_59 hb.1 rfl ?_
  refine gf_X9_271 dX9_back_62 hb.2.2.2.2.2.2.2.2.1.1 rfl ?_
  rw [show (mu σ.1 26 3 (nI (D - 1)), σ.2).1 26 3 = nI (D - 1) from by simp [mu, upd]]
  refine cl_X9_134 (c_cell hb.2.2.2.2.2.2.2.2.1.2.2.1 (by decide)) dX9_back_65 rfl (Nat.le_of_ble_eq_true rfl) ?_
  rw [cellV_nI (by omega) (by omega), hS _ (by decide), c7]
  refine cg_X9_267 (c_retract hb.2.2.2.2.1 hb.2.2.2.2.2.2.1 sep520 c3 c4 c5 Q1 L1) hb.2.2.2.2.1.1 dX9_back_68 rfl (Nat.le_of_ble_eq_true rfl) (fun σ3 h3 => ?_)
  obtain ⟨h3, f3⟩ := h3
  refine ev_aload_0 dX9_back_71 ?_
  refine ev_iconst_0 dX9_back_72 ?_
  refine pf_X9_279 (by decide) (by decide) dX9_back_73 hb.1 rfl ?_
  refine ev_aload_0 dX9_back_76 ?_
  refine gf_X9_57 dX9_back_77 hb.1 rfl ?_
  refine gf_X9_271 dX9_back_80 hb.2.2.2.2.2.2.2.2.1.1 rfl ?_
  have e26 : σ3.1 26 3 = nI (D - 1) := by rw [(f3 26 (by decide) (by decide) (by decide)).1]; simp [mu, upd]
  refine ev_pi dX9_back_83 ⟨?_, ⟨wfP_lw eb c3, wfL_of eb2 (fun k hk z => by rw [← z]; unfold riN clN; rw [eb _ (by omega)]) c4⟩, ?_, ?_, trR_back hT hD (fun j j1 j3 => ?_) ?_, by simp [mu, upd], fun k a b c => ?_⟩
  · dsimp only; rw [mu_ne _ (by decide), e26]
  · exact posR_lw eb (posR_row0 (by decide) h3).1 (posR_row0 (by decide) h3).2
  · exact lawR_hi (fun k b1 b2 b3 => eb2 k (by omega) b2 b3) (lawR_lo (L1.fr f3 sep520) (fun j hj => mu_ne _ (by omega)))
  · dsimp only; rw [mu_ne _ (by omega), (f3 _ (by omega) (by omega) (by omega)).1, hS _ (by omega)]
  · dsimp only; rw [mu_ne _ (by decide), e26]
  · dsimp only; rw [mu_ne _ a, (f3 k (by omega) (by omega) (by omega)).1, (f3 k (by omega) (by omega) (by omega)).2, hS k (by omega)]; exact ⟨rfl, rfl⟩
