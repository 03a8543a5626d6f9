theorem cRel.fr2 {σ σ' : mSt} {g : Nat → Int32} (h : cRel σ g) (e : ∀ k, k < 43 → k ≠ 1 → k ≠ 2 → (k < 16 ∨ 19 < k) → (k < 23 ∨ 25 < k) → σ'.1 k = σ.1 k ∧ σ'.2 k = σ.2 k) : cRel σ' g := by
  obtain ⟨⟨h1, h2⟩, h3, ⟨D, h4⟩, h5⟩ := h
  have E : ∀ k, k < 43 → k ≠ 1 → k ≠ 2 → (k < 16 ∨ 19 < k) → (k < 23 ∨ 25 < k) → σ'.1 k = σ.1 k := fun k a b c d f => (e k a b c d f).1
  refine ⟨posR_lo h1 h2 (fun j hj => E _ (by omega) (by omega) (by omega) (by omega) (by omega)) (e 20 (by decide) (by decide) (by decide) (by decide) (by decide)).2, lawR_lo h3 (fun i hi => E _ (by omega) (by omega) (by omega) (by omega) (by omega)), ⟨D, trR_lo h4 (fun i hi => E _ (by omega) (by omega) (by omega) (by omega) (by omega))⟩, ?_⟩
  rcases h5 with h5 | ⟨a, b⟩
  · left; rw [E 0 (by decide) (by decide) (by decide) (by decide) (by decide)]; exact h5
  · right
    refine ⟨by rw [E 0 (by decide) (by decide) (by decide) (by decide) (by decide)]; exact a, ?_⟩
    unfold listR at b ⊢
    rw [E 30 (by decide) (by decide) (by decide) (by decide) (by decide), E 31 (by decide) (by decide) (by decide) (by decide) (by decide)]
    exact b
theorem maxR_nn {a b : Int32} (h : ¬ a < 0) : ¬ maxR a b < 0 := by
  unfold maxR
  split
  · exact Int32.not_lt.mpr (Int32.le_trans (Int32.not_lt.mp h) (Int32.le_of_lt (by assumption)))
  · exact h
theorem def_n1 {T : Nat → Int32} {tl : Nat} (ht : tl ≤ 60) (h : (defR T tl).1 < 0) : 1 ≤ (defR T tl).2.n := by
  by_cases z : ∃ q, q < 7 ∧ hitK T tl q
  · obtain ⟨q, hq, hh⟩ := z
    have h60 := slen60 q hq
    rw [def_some hq hh] at h ⊢
    rcases xF_end (T := sgn (7 + q)) (tl := slen (7 + q)) (slen (7 + q)) 0 u0 (by omega) (by omega) with z | z
    · exact absurd h z.1
    · exact z.2
  · rw [def_none (fun j hj hn => z ⟨j, hj, hn⟩)] at h ⊢
    rcases xF_end (T := T) (tl := tl) tl 0 u0 (by omega) (by omega) with y | y
    · rw [if_neg y.1] at h
      exact absurd h (maxR_nn y.1)
    · exact y.2
section Q
variable {ae ad : Nat → Nat} {sh : mSh} {σ : mSt} {g : Nat → Int32} {yc ym : MethodName} {cc cm : ByteArray} {nc nm dc dm : Nat} {as : List Value}
theorem jSt_A {M : mSt → Prop} {r : Int32} {N : Nat} (hN : N ≤ 60) (hc : Ct yc cc nc (some .int) dc 0 0 (.ref (ad 0) :: as) ae ad sh σ (mPi ad sh (fun x σ' => x = r ∧ M σ'))) (hm : ∀ σ', M σ' → ∃ g', Ct ym cm nm (some .int) dm 1 N (.ref (ad 61) :: as) ae ad sh σ' (mPa ad sh N (fun x σ2 => x = r ∧ jRel σ2 g'))) : jSt Value.int yc ym cc cm nc nm .int dc dm ae ad sh σ as := by
  refine ⟨r, M, hc.mono (fun v ad' sh' σ' h => ?_), fun σ' h => ?_⟩
  · obtain ⟨x, e1, e2, e3, e4, e5⟩ := h
    exact ⟨by rw [e1, e4], e2, e3, e5⟩
  · obtain ⟨g', hk⟩ := hm σ' h
    refine ⟨1, N, Nat.le_refl _, hN, hk.mono (fun v ad' sh' σ2 h2 => ?_)⟩
    obtain ⟨x, e1, e2, e3, e4, e5⟩ := h2
    exact ⟨by rw [e1, e4], e2, ⟨_, e3⟩, g', e5⟩
/-- between the two: what the class leaves as it was, where it has begun a game -/
theorem set_hi {σ1 σ' : mSt} {gS : Nat → Int32} (s : setR σ1 σ' gS) (f : ∀ k, 30 ≤ k → σ1.1 k = σ.1 k ∧ σ1.2 k = σ.2 k) : ∀ k, 30 ≤ k → σ'.1 k = σ.1 k ∧ σ'.2 k = σ.2 k := fun k hk =>
  ⟨(s.2.2.2.2 k (by omega) (by omega) (by omega) (by omega) (by omega)).1.trans (f k hk).1, (s.2.2.2.2 k (by omega) (by omega) (by omega) (by omega) (by omega)).2.trans (f k hk).2⟩
theorem set_men {σ1 σ' : mSt} {gS : Nat → Int32} (s : setR σ1 σ' gS) : menG (begG gS) = menG gS :=
  (men_eq (cRel_beg s.1 s.2.1 s.2.2.1.1 s.2.2.1.2 s.2.2.2.1).1.1).symm.trans (men_eq s.1.1)
theorem st_setup (hb : mBoard ad sh) (hm : mModel ad sh) (h : jRel σ g) : jSt Value.int yX9_setup yX10_setup cX9_setup cX10_setup 2 4 .int 3 4 ae ad sh σ [] := by
  obtain ⟨tl, t1, t2, t3, t4⟩ := h.2.2.2.2.2.1.tp
  have hlen := hm.len
  by_cases hw : (posT g (σ.1 64) tl).1 < 0
  · refine jSt_A (N := 36) (by decide) (M := fun σ' => ∃ σ1 : mSt, frT2 σ σ1 ∧ σ1.1 1 1 = 0 ∧ setR σ1 σ' (setS g (posT g (σ.1 64) tl).2)) (c_setup hb h.1 h.2.2.2.1.2.1 h.2.2.2.1.1.1 t2 h.2.1 hw) (fun σ' h' => ⟨begG (setS g (posT g (σ.1 64) tl).2), ?_⟩)
    obtain ⟨σ1, f1, z1, s⟩ := h'
    have E := set_hi s (fun k hk => f1 k (by omega) (by omega))
    have hGS : wfP (setS g (posT g (σ.1 64) tl).2) := sup_wfP h.1 h.2.1 (posT_ok h.1)
    have hWS : wfL (setS g (posT g (σ.1 64) tl).2) := sup_wfL h.2.1
    have k61 := (E 61 (by decide)).1
    refine (c_mSetup (ae := ae) hm (g := g) (T := σ.1 64) (tl := tl) ((E 62 (by decide)).1.trans h.2.2.1) (E 64 (by decide)).1 h.1 h.2.1 t1 (by rw [k61]; exact t3) t4).mono (fun v ad' sh' σ2 h2 => ?_)
    obtain ⟨x, e1, e2, e3, -, e4⟩ := h2
    obtain ⟨b0, b1, b2, b3, b4, b5⟩ := e4 hw
    refine ⟨x, e1, e2, e3, ?_, ?_⟩
    · rw [b0]
      exact ((menOk_of (bg_wfP hGS)).symm).trans (set_men s)
    · refine h.start (bg_wfP hGS) (bg_wfL hWS) ((cRel_beg s.1 s.2.1 s.2.2.1.1 s.2.2.1.2 s.2.2.2.1).fr (fun k hk => ⟨b4 k (by omega) (by omega) (by omega) (by omega), b5 k (by omega)⟩)) b1 (by rw [b2, upd_at]) (b3 2 (by decide)) ?_ (by rw [b2, upd_ne (by decide), upd_at]) (fun k a c => ⟨(b4 k (by omega) (by omega) (by omega) (by omega)).trans (E k (by omega)).1, (b5 k (by omega)).trans (E k (by omega)).2⟩) ((b4 63 (by decide) (by decide) (by decide) (by omega)).trans (E 63 (by decide)).1) (by rw [b2, upd_ne (by decide), upd_ne (by decide), k61])
      rw [b4 1 (by decide) (by decide) (by decide) (by omega), (s.2.2.2.2 1 (by decide) (by decide) (by decide) (by decide) (by decide)).1]
      exact z1
  · refine jSt_A (N := 36) (by decide) (M := fun σ' => σ'.1 1 1 = 0 ∧ frT2 σ σ') (c_setupBad hb h.1 h.2.2.2.1.2.1 h.2.2.2.1.1.1 t2 hw) (fun σ' h' => ⟨g, ?_⟩)
    obtain ⟨z1, f1⟩ := h'
    have E : ∀ k, 30 ≤ k → σ'.1 k = σ.1 k ∧ σ'.2 k = σ.2 k := fun k hk => f1 k (by omega) (by omega)
    have k61 := (E 61 (by decide)).1
    refine (c_mSetup (ae := ae) hm (g := g) (T := σ.1 64) (tl := tl) ((E 62 (by decide)).1.trans h.2.2.1) (E 64 (by decide)).1 h.1 h.2.1 t1 (by rw [k61]; exact t3) t4).mono (fun v ad' sh' σ2 h2 => ?_)
    obtain ⟨x, e1, e2, e3, e4, -⟩ := h2
    obtain ⟨b0, b1, b2, b3, b4⟩ := e4 hw
    refine ⟨x, e1, e2, e3, b0, ?_⟩
    refine h.empty (h.2.2.2.1.fr2 (fun k a b c _ d => ⟨(b3 k (by omega) (by omega)).trans (f1 k b d).1, (b4 k (by omega)).trans (f1 k b d).2⟩)) (b1.trans h.2.2.1.symm) (fun c hc => by rw [b2, upd_ne (by omega), k61]) (fun k a b => (b3 k (by omega) (by omega)).trans (E k (by omega)).1) ((congrFun (b3 1 (by decide) (by omega)) 1).trans z1) (by rw [b2, upd_at]) (fun k a c => ⟨(b3 k (by omega) (by omega)).trans (E k (by omega)).1, (b4 k (by omega)).trans (E k (by omega)).2⟩) ((b3 63 (by decide) (by omega)).trans (E 63 (by decide)).1)
theorem df_ok {σ1 σ' σ2 : mSt} {L t : Nat} {u : RS} (h : jRel σ g) (hL : 75 < L) (hw : wfP (defS g t u) ∧ wfL (defS g t u)) (f1 : frD σ σ1) (z1 : σ1.1 1 1 = 0) (s : setR σ1 σ' (defS g t u)) (b : dfG σ' σ2 L (begG (defS g t u))) : jRel σ2 (begG (defS g t u)) := by
  have E := set_hi s (fun k hk => f1 k (by omega) (by omega) (by omega))
  have k61 := (E 61 (by decide)).1
  obtain ⟨b1, ⟨b2, b13⟩, b6, b3, b4, b5⟩ := b
  refine h.start (bg_wfP hw.1) (bg_wfL hw.2) ((cRel_beg s.1 s.2.1 s.2.2.1.1 s.2.2.1.2 s.2.2.2.1).fr (fun k hk => ⟨b4 k (by omega) (by omega) (by omega) (by omega) (by omega), b5 k (by omega)⟩)) b1 b13 (b3 2 (by decide)) ?_ b2 (fun k a c => ⟨(b4 k (by omega) (by omega) (by omega) (by omega) (by omega)).trans (E k (by omega)).1, (b5 k (by omega)).trans (E k (by omega)).2⟩) ((b4 63 (by decide) (by decide) (by decide) (by decide) (by omega)).trans (E 63 (by decide)).1) (by rw [b6 2 (by decide) (by decide) (by decide), k61])
  rw [b4 1 (by decide) (by decide) (by decide) (by decide) (by omega), (s.2.2.2.2 1 (by decide) (by decide) (by decide) (by decide) (by decide)).1]
  exact z1
theorem df_bad {σ' σ2 : mSt} {L : Nat} (h : jRel σ g) (hL : 75 < L) (z1 : σ'.1 1 1 = 0) (f1 : frD σ σ') (b : dfB σ' σ2 L) : jRel σ2 g := by
  have E : ∀ k, 30 ≤ k → σ'.1 k = σ.1 k ∧ σ'.2 k = σ.2 k := fun k hk => f1 k (by omega) (by omega) (by omega)
  obtain ⟨b2, b6, b3, b4⟩ := b
  exact h.empty (h.2.2.2.1.fr2 (fun k a b c d _ => ⟨(b3 k (by omega) (by omega) (by omega)).trans (f1 k b c d).1, (b4 k (by omega)).trans (f1 k b c d).2⟩)) ((b3 62 (by decide) (by decide) (by omega)).trans (E 62 (by decide)).1) (fun c hc => by rw [b6 c (by omega) (by omega), (E 61 (by decide)).1]) (fun k a b => (b3 k (by omega) (by omega) (by omega)).trans (E k (by omega)).1) ((congrFun (b3 1 (by decide) (by decide) (by omega)) 1).trans z1) b2 (fun k a c => ⟨(b3 k (by omega) (by omega) (by omega)).trans (E k (by omega)).1, (b4 k (by omega)).trans (E k (by omega)).2⟩) ((b3 63 (by decide) (by decide) (by omega)).trans (E 63 (by decide)).1)
theorem st_define {a : Int32} (hb : mBoard ad sh) (hm : mModel ad sh) (h : jRel σ g) : jSt Value.int yX9_define yX10_define cX9_define cX10_define 3 8 .int 6 6 ae ad sh σ [.int a] := by
  cases hx : isTy a with
  | false => exact jSt_E h (c_defineNo hb hx) (fun _ _ => c_mDefNo hx)
  | true =>
    obtain ⟨t, ht, e⟩ := isTy_nI hx
    subst e
    obtain ⟨tl, t1, t2, t3, t4⟩ := h.2.2.2.2.2.1.tp
    have hlen := hm.len
    have hok : okX (defR (σ.1 64) tl).2 := by
      by_cases z : ∃ q, q < 7 ∧ hitK (σ.1 64) tl q
      · obtain ⟨q, hq, hh⟩ := z
        rw [def_some hq hh]; exact okX_xF _ _ _ okX_0
      · rw [def_none (fun j hj hn => z ⟨j, hj, hn⟩)]; exact okX_xF _ _ _ okX_0
    by_cases hw : (defR (σ.1 64) tl).1 < 0
    · have hc := c_define (ae := ae) hb t2 ht h.1 h.2.2.2.1.1.1 h.2.2.2.1.1.2 h.2.2.2.1.2.1 hw
      have pre : ∀ σ' : mSt, (∃ σ1 : mSt, frD σ σ1 ∧ σ1.1 1 1 = 0 ∧ setR σ1 σ' (defS g t (defR (σ.1 64) tl).2)) → σ'.1 62 = g ∧ σ'.1 64 = σ.1 64 ∧ σ'.1 61 4 = nI tl := fun σ' ⟨σ1, f1, z1, s⟩ => by
        have E := set_hi s (fun k hk => f1 k (by omega) (by omega) (by omega))
        exact ⟨(E 62 (by decide)).1.trans h.2.2.1, (E 64 (by decide)).1, by rw [(E 61 (by decide)).1]; exact t3⟩
      have hwf : wfP (defS g t (defR (σ.1 64) tl).2) ∧ wfL (defS g t (defR (σ.1 64) tl).2) := ⟨ds_wfP h.1, ds_wfL h.2.1 ht hok (def_n1 t1 hw)⟩
      by_cases z : ∃ q, q < 7 ∧ hitK (σ.1 64) tl q
      · obtain ⟨q, hq, hh⟩ := z
        refine jSt_A (N := 60) (Nat.le_refl _) (M := fun σ' => ∃ σ1 : mSt, frD σ σ1 ∧ σ1.1 1 1 = 0 ∧ setR σ1 σ' (defS g t (defR (σ.1 64) tl).2)) hc (fun σ' h' => ⟨begG (defS g t (defR (σ.1 64) tl).2), ?_⟩)
        obtain ⟨p1, p2, p3⟩ := pre σ' h'
        obtain ⟨σ1, f1, z1, s⟩ := h'
        refine (c_mDefineW (ae := ae) hm ht p1 h.1 h.2.1 p2 t1 p3 hq hh).mono (fun v ad' sh' σ2 h2 => ?_)
        obtain ⟨x, e1, e2, e3, -, e4⟩ := h2
        exact ⟨x, e1, e2, e3, (e4 hw).1, df_ok h hlen hwf f1 z1 s (e4 hw).2⟩
      · refine jSt_M (M := fun σ' => ∃ σ1 : mSt, frD σ σ1 ∧ σ1.1 1 1 = 0 ∧ setR σ1 σ' (defS g t (defR (σ.1 64) tl).2)) hc (fun σ' h' => ⟨begG (defS g t (defR (σ.1 64) tl).2), ?_⟩)
        obtain ⟨p1, p2, p3⟩ := pre σ' h'
        obtain ⟨σ1, f1, z1, s⟩ := h'
        refine (c_mDefine (ae := ae) hm ht p1 h.1 h.2.1 p2 t1 p3 t4 (fun j hj hn => z ⟨j, hj, hn⟩)).mono (fun v ad' sh' σ2 h2 => ?_)
        obtain ⟨x, e1, e2, e3, -, e4⟩ := h2
        exact ⟨x, e1, e2, e3, (e4 hw).1, df_ok h hlen hwf f1 z1 s (e4 hw).2⟩
    · have hc := c_defineBad (ae := ae) hb t2 ht hw
      have pre : ∀ σ' : mSt, (σ'.1 1 1 = 0 ∧ frD σ σ') → σ'.1 62 = g ∧ σ'.1 64 = σ.1 64 ∧ σ'.1 61 4 = nI tl := fun σ' ⟨z1, f1⟩ =>
        ⟨(f1 62 (by decide) (by decide) (by decide)).1.trans h.2.2.1, (f1 64 (by decide) (by decide) (by decide)).1, by rw [(f1 61 (by decide) (by decide) (by decide)).1]; exact t3⟩
      by_cases z : ∃ q, q < 7 ∧ hitK (σ.1 64) tl q
      · obtain ⟨q, hq, hh⟩ := z
        refine jSt_A (N := 60) (Nat.le_refl _) (M := fun σ' => σ'.1 1 1 = 0 ∧ frD σ σ') hc (fun σ' h' => ⟨g, ?_⟩)
        obtain ⟨p1, p2, p3⟩ := pre σ' h'
        refine (c_mDefineW (ae := ae) hm ht p1 h.1 h.2.1 p2 t1 p3 hq hh).mono (fun v ad' sh' σ2 h2 => ?_)
        obtain ⟨x, e1, e2, e3, e4, -⟩ := h2
        exact ⟨x, e1, e2, e3, (e4 hw).1, df_bad h hlen h'.1 h'.2 (e4 hw).2⟩
      · refine jSt_M (M := fun σ' => σ'.1 1 1 = 0 ∧ frD σ σ') hc (fun σ' h' => ⟨g, ?_⟩)
        obtain ⟨p1, p2, p3⟩ := pre σ' h'
        refine (c_mDefine (ae := ae) hm ht p1 h.1 h.2.1 p2 t1 p3 t4 (fun j hj hn => z ⟨j, hj, hn⟩)).mono (fun v ad' sh' σ2 h2 => ?_)
        obtain ⟨x, e1, e2, e3, e4, -⟩ := h2
        exact ⟨x, e1, e2, e3, (e4 hw).1, df_bad h hlen h'.1 h'.2 (e4 hw).2⟩
end Q
