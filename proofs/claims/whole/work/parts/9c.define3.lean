theorem okX_xF {T : Nat → Int32} {tl : Nat} : ∀ (f i : Nat) (u : RS), okX u → okX (xF T tl i f u).2
  | 0, _, _, h => h
  | f + 1, i, u, h => by
    rw [xF]
    cases e : u.stepX (T i) with
    | none => exact h
    | some u' => exact okX_xF f _ _ (okX_step h e)
theorem ss_full {T W : Nat → Int32} : ∀ (r n : Nat), ssF T W n r = n + r → ∀ j, n ≤ j → j < n + r → T j = W j
  | 0, n, _, j, h1, h2 => by omega
  | r + 1, n, h, j, h1, h2 => by
    rw [ssF] at h
    by_cases z : T n = W n
    · rw [if_pos z] at h
      by_cases y : j = n
      · rw [y]; exact z
      · exact ss_full r (n + 1) (by omega) j (by omega) (by omega)
    · rw [if_neg z] at h; omega
theorem hit_sgn {T : Nat → Int32} {tl k : Nat} (h : hitK T tl k) : tl = slen k ∧ ∀ j, j < tl → T j = sgn k j := by
  have e : tl = slen k := h.1.symm.trans h.2
  refine ⟨e, fun j hj => ?_⟩
  have hm : min tl (slen k) = tl := by omega
  have h1 := h.1
  unfold alF at h1
  rw [hm] at h1
  exact ss_full tl 0 (by omega) j (Nat.zero_le _) (by omega)
theorem wd_ne : ∀ a, a < 7 → ∀ b, b < 7 → a ≠ b → slen a = slen b → ¬ ∀ j, j < slen a → sgn a j = sgn b j := by decide +kernel
theorem hit_uni {T : Nat → Int32} {tl a b : Nat} (ha : a < 7) (hb : b < 7) (h1 : hitK T tl a) (h2 : hitK T tl b) : a = b := by
  refine Classical.byContradiction fun z => ?_
  obtain ⟨e1, f1⟩ := hit_sgn h1
  obtain ⟨e2, f2⟩ := hit_sgn h2
  exact wd_ne a ha b hb z (e1.symm.trans e2) (fun j hj => (f1 j (by omega)).symm.trans (f2 j (by omega)))
theorem fd_none {T : Nat → Int32} {tl : Nat} : ∀ n, (∀ j, j < n → ¬ hitK T tl j) → fdF T tl n = -1
  | 0, _ => rfl
  | n + 1, h => by rw [fdF, if_neg (h n (Nat.lt_succ_self _))]; exact fd_none n (fun j hj => h j (by omega))
theorem fd_some {T : Nat → Int32} {tl k : Nat} (hk : hitK T tl k) : ∀ n, k < n → (∀ j, j < n → j ≠ k → ¬ hitK T tl j) → fdF T tl n = nI k
  | 0, h, _ => by omega
  | n + 1, h, hu => by
    rw [fdF]
    by_cases z : n = k
    · subst z; rw [if_pos hk]
    · rw [if_neg (hu n (Nat.lt_succ_self _) z)]; exact fd_some hk n (by omega) (fun j hj => hu j (by omega))
theorem rk_none {T : Nat → Int32} {tl : Nat} (h : ∀ j, j < 7 → ¬ hitK T tl j) : ∀ n k, n + k = 7 → rdK T tl n k (mxK T tl k) = .inr (mxK T tl 7)
  | 0, k, e => by rw [rdK, show k = 7 by omega]
  | n + 1, k, e => by
    rw [rdK, if_neg (h k (by omega))]
    exact rk_none h n (k + 1) (by omega)
theorem rk_some {T : Nat → Int32} {tl q : Nat} (hq : q < 7) (hh : hitK T tl q) (h : ∀ j, j < 7 → j ≠ q → ¬ hitK T tl j) : ∀ n k, n + k = 7 → k ≤ q → rdK T tl n k (mxK T tl k) = .inl q
  | 0, k, e, _ => by omega
  | n + 1, k, e, hk => by
    rw [rdK]
    by_cases z : k = q
    · subst z; rw [if_pos hh]
    · rw [if_neg (h k (by omega) z)]
      exact rk_some hq hh h n (k + 1) (by omega) (by omega)
theorem def_none {T : Nat → Int32} {tl : Nat} (h : ∀ j, j < 7 → ¬ hitK T tl j) : defR T tl = (if (xF T tl 0 tl u0).1 < 0 then (xF T tl 0 tl u0).1 else maxR (xF T tl 0 tl u0).1 (nI (mxK T tl 7)), (xF T tl 0 tl u0).2) := by
  unfold defR
  rw [show rdK T tl 7 0 0 = .inr (mxK T tl 7) from rk_none h 7 0 rfl]
theorem def_some {T : Nat → Int32} {tl q : Nat} (hq : q < 7) (hh : hitK T tl q) : defR T tl = xF (sgn (7 + q)) (slen (7 + q)) 0 (slen (7 + q)) u0 := by
  unfold defR
  rw [show rdK T tl 7 0 0 = .inl q from rk_some hq hh (fun j hj hn hj2 => hn (hit_uni hj hq hj2 hh)) 7 0 rfl (Nat.zero_le _)]
theorem wd_ok : ∀ q, q < 7 → (xF (sgn (7 + q)) (slen (7 + q)) 0 (slen (7 + q)) u0).1 = -1 := by decide +kernel
/-- define has read badly: σ to σ' (L: the place of a row laid on the way) -/
def dfB (σ σ' : mSt) (L : Nat) : Prop := σ'.1 61 4 = 0 ∧ (∀ c, c ≠ 4 → c ≠ 5 → σ'.1 61 c = σ.1 61 c) ∧ (∀ j, j ≠ 61 → j ≠ 65 → j ≠ L → σ'.1 j = σ.1 j) ∧ ∀ j, j ≠ L → σ'.2 j = σ.2 j
def dfG (σ σ' : mSt) (L : Nat) (g' : Nat → Int32) : Prop := σ'.1 62 = g' ∧ (σ'.1 61 4 = 0 ∧ σ'.1 61 13 = 0) ∧ (∀ c, c ≠ 4 → c ≠ 5 → c ≠ 13 → σ'.1 61 c = σ.1 61 c) ∧ (∀ k, k < 3 → σ'.1 72 k = -1) ∧ (∀ j, j ≠ 61 → j ≠ 62 → j ≠ 65 → j ≠ 72 → j ≠ L → σ'.1 j = σ.1 j) ∧ ∀ j, j ≠ L → σ'.2 j = σ.2 j
def dfP (σ : mSt) (L : Nat) (g T : Nat → Int32) (tl t : Nat) (x : Int32) (σ' : mSt) : Prop := (¬ (defR T tl).1 < 0 → x = -100 - (defR T tl).1 ∧ dfB σ σ' L) ∧ ((defR T tl).1 < 0 → x = nI (defR T tl).2.n ∧ dfG σ σ' L (begG (defS g t (defR T tl).2)))

set_option maxRecDepth 100000 in
set_option maxHeartbeats 4000000 in
theorem c_mDefNo {ae ad : Nat → Nat} {sh : mSh} {σ : mSt} {x : Int32} (hx : isTy x = false) : Ct yX10_define cX10_define 8 (some .int) 6 0 0 [.ref (ad 61), .int x] ae ad sh σ (mEq (some (.int (-1))) ad sh σ) := by
  refine Ct.ofL (own := RX10) (ini := false) (ls := [some (.ref (ad 61)), some (.int x), none, none, none, none, none, none]) (by decide +kernel) rfl (fun h => by cases h) (Nat.le_of_ble_eq_true rfl) rfl ?_
  refine ev_iload_1 dX10_define_0 ?_
  refine cl_X10_120 c_mIsType dX10_define_1 rfl (Nat.le_of_ble_eq_true rfl) ?_
  refine ev_if_ne (tgt := 9) dX10_define_4 (by decide) (fun h4 => absurd h4 (fun z => z (by rw [hx]; rfl))) (fun h4 => ?_)
  refine ev_iconst_m1 dX10_define_7 ?_
  exact ev_ireturn dX10_define_8
set_option maxRecDepth 100000 in
set_option maxHeartbeats 4000000 in
theorem c_mDefine {ae ad : Nat → Nat} {sh : mSh} {σ : mSt} (hm : mModel ad sh) {g T : Nat → Int32} {tl t : Nat} (ht : t < 6) (hg : σ.1 62 = g) (hG : wfP g) (hW : wfL g) (hT0 : σ.1 64 = T) (htl : tl ≤ 60) (hl : σ.1 61 4 = nI tl) (hT : ∀ i, i < tl → ∃ k, k < 128 ∧ T i = nI k) (hn : ∀ j, j < 7 → ¬ hitK T tl j) : Ct yX10_define cX10_define 8 (some .int) 6 0 0 [.ref (ad 61), .int (nI t)] ae ad sh σ (mPi ad sh (dfP σ sh.length g T tl t)) := by
  refine Ct.ofL (own := RX10) (ini := false) (ls := [some (.ref (ad 61)), some (.int (nI t)), none, none, none, none, none, none]) (by decide +kernel) rfl (fun h => by cases h) (Nat.le_of_ble_eq_true rfl) rfl ?_
  refine ev_iload_1 dX10_define_0 ?_
  refine cl_X10_120 c_mIsType dX10_define_1 rfl (Nat.le_of_ble_eq_true rfl) ?_
  refine ev_if_ne (tgt := 9) dX10_define_4 (by decide) (fun h4 => ?_) (fun h4 => ?_)
  · refine ev_aload_0 dX10_define_9 ?_
    refine cg_X10_124 (c_mWord hm htl hT0 hl) hm.1 dX10_define_10 rfl (Nat.le_of_ble_eq_true rfl) (fun r1 σ1 h1 => ?_)
    obtain ⟨e1, w1, w2, w3⟩ := h1
    have ew : r1 = -1 := e1.trans (fd_none 7 hn)
    subst ew
    have hl1 : σ1.1 61 4 = nI tl := by rw [w1, upd_ne (by decide)]; exact hl
    have ht1 : σ1.1 64 = T := (w2 64 (by decide)).trans hT0
    refine ev_istore_2 dX10_define_13 rfl rfl ?_
    refine ev_aload_0 dX10_define_14 ?_
    refine gf_X10_97 dX10_define_15 hm.1 rfl ?_
    rw [show σ1.1 61 5 = nI (mxK T tl 7) from by rw [w1, upd_at]]
    refine ev_istore_3 dX10_define_18 rfl rfl ?_
    refine ev_iload_2 dX10_define_19 ?_
    refine ev_if_lt (tgt := 112) dX10_define_20 (by decide) (fun h20 => ?_) (fun h20 => absurd (by decide) h20)
    refine ev_aload_0 dX10_define_112 ?_
    refine ev_aload_0 dX10_define_113 ?_
    refine gf_X10_18 dX10_define_114 hm.1 rfl ?_
    refine ev_aload_0 dX10_define_117 ?_
    refine gf_X10_85 dX10_define_118 hm.1 rfl ?_
    rw [hl1]
    refine cg_X10_129 (c_mParts (qb := 64) hm hm.2.2.2.1 (by decide) htl ht1 hT) hm.1 dX10_define_121 rfl (Nat.le_of_ble_eq_true rfl) (fun r2 σ2 h2 => ?_)
    obtain ⟨e2, x2, f2, l2⟩ := h2
    subst e2
    refine ev_istore_4 dX10_define_124 rfl rfl ?_
    have hD := def_none hn
    have hg2 : σ2.1 62 = g := (f2 62 (by decide)).trans ((w2 62 (by decide)).trans hg)
    have hok : okX (xF T tl 0 tl u0).2 := okX_xF _ _ _ okX_0
    have h61 : σ2.1 61 = upd (σ.1 61) 5 (nI (mxK T tl 7)) := (f2 61 (by decide)).trans w1
    refine c_def_126 (mc := 0) (ms := 0) hm ht x2 hok hg2 hG hW (fun h => ?_) (fun x σ' h => ⟨x, rfl, rfl, rfl, ?_⟩)
    · rcases xF_end (T := T) (tl := tl) tl 0 u0 (by omega) (by omega) with z | z
      · exact absurd h z.1
      · exact z.2
    · unfold dfP
      rw [hD]
      by_cases z : (xF T tl 0 tl u0).1 < 0
      · rw [if_pos z]
        obtain ⟨a1, a2, a3, a4, a5, a6⟩ := h.2 z
        refine ⟨fun y => absurd z y, fun _ => ⟨a1, a2, ?_, fun c c4 c5 c13 => ?_, a4, fun j x1 x2 x3 x4 _ => ?_, fun j _ => ?_⟩⟩
        · exact ⟨by rw [a3, upd_ne (by decide), upd_at], by rw [a3, upd_at]⟩
        · rw [a3, h61, upd_ne c13, upd_ne c4, upd_ne c5]
        · rw [a5 j x1 x2 x4, f2 j x3, w2 j x1]
        · rw [a6, l2, w3]
      · rw [if_neg z]
        obtain ⟨a1, a2, a3, a4⟩ := h.1 z
        refine ⟨fun _ => ⟨a1, ?_, fun c c4 c5 => ?_, fun j x1 x3 _ => ?_, fun j _ => ?_⟩, fun y => absurd y ?_⟩
        · rw [a2, upd_at]
        · rw [a2, h61, upd_ne c4, upd_ne c5]
        · rw [a3 j x1, f2 j x3, w2 j x1]
        · rw [a4, l2, w3]
        · unfold maxR
          split
          · exact Int32.not_lt.mpr (Int32.le_trans (Int32.not_lt.mp z) (Int32.le_of_lt (by assumption)))
          · exact z
  · exact absurd h4 (by rw [isTy_of ht]; decide)
