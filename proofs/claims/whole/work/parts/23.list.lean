def ftm (f : Nat → List Nat) : Nat → List Nat
  | 0 => []
  | n + 1 => ftm f n ++ f n
theorem ftm_le (f : Nat → List Nat) {i n : Nat} (h : i ≤ n) : (ftm f i).length ≤ (ftm f n).length := by
  induction n with
  | zero => have : i = 0 := by omega
            subst this; exact Nat.le_refl _
  | succ n ih =>
    rcases Nat.lt_or_ge i (n + 1) with q | q
    · have := ih (by omega)
      rw [ftm, List.length_append]; omega
    · have : i = n + 1 := by omega
      subst this; exact Nat.le_refl _
theorem ftm_lt (f : Nat → List Nat) {i n : Nat} (h : i < n) : (ftm f i).length + (f i).length ≤ (ftm f n).length := by
  have := ftm_le f (show i + 1 ≤ n by omega)
  rw [ftm, List.length_append] at this
  exact this
def spanB (a b k : Nat) : Bool := decide (min a b ≤ k ∧ k ≤ max a b)
theorem minR_nI {a b : Nat} (ha : a < 2 ^ 31) (hb : b < 2 ^ 31) : minR (nI a) (nI b) = nI (min a b) := by
  unfold minR
  by_cases h : b < a
  · rw [if_pos (nI_lt h ha)]; congr 1; omega
  · rw [if_neg (nI_nlt (by omega) hb)]; congr 1; omega
theorem maxR_nI {a b : Nat} (ha : a < 2 ^ 31) (hb : b < 2 ^ 31) : maxR (nI a) (nI b) = nI (max a b) := by
  unfold maxR
  by_cases h : a < b
  · rw [if_pos (nI_lt h hb)]; congr 1; omega
  · rw [if_neg (nI_nlt (by omega) ha)]; congr 1; omega
/-- a MoveList that holds moves -/
def listR (σ : mSt) (q : Nat) (L : List Nat) : Prop := σ.1 q 1 = nI L.length ∧ L.length ≤ 445 ∧ ∀ (i : Nat) (m : Nat), L[i]? = some m → σ.1 (q + 1) i = nI m
def frL (σ σ' : mSt) (q : Nat) : Prop := (∀ k, k ≠ q → k ≠ q + 1 → σ'.1 k = σ.1 k) ∧ ∀ k, k ≠ q → k ≠ q + 1 → σ'.2 k = σ.2 k
theorem frL.rf {σ : mSt} {q : Nat} : frL σ σ q := ⟨fun _ _ _ => rfl, fun _ _ _ => rfl⟩
theorem frL.tr {σ σ1 σ2 : mSt} {q : Nat} (h1 : frL σ σ1 q) (h2 : frL σ1 σ2 q) : frL σ σ2 q := ⟨fun k a b => (h2.1 k a b).trans (h1.1 k a b), fun k a b => (h2.2 k a b).trans (h1.2 k a b)⟩
theorem listR.add {σ : mSt} {q : Nat} {L : List Nat} {m : Nat} (h : listR σ q L) (hl : L.length < 445) : listR (mu (mu σ.1 (q + 1) L.length (nI m)) q 1 (nI (L.length + 1)), σ.2) q (L ++ [m]) := by
  obtain ⟨h1, h2, h3⟩ := h
  refine ⟨?_, by rw [List.length_append]; exact hl, fun i x hx => ?_⟩
  · rw [List.length_append]; simp [mu, upd]
  · dsimp only
    rw [mu_ne _ (by omega)]
    simp only [mu, if_true, upd]
    by_cases e : i = L.length
    · subst e
      rw [if_pos rfl]
      rw [List.getElem?_append_right (Nat.le_refl _), Nat.sub_self] at hx
      cases hx; rfl
    · rw [if_neg e]
      refine h3 i x ?_
      rcases Nat.lt_or_ge i L.length with z | z
      · rw [List.getElem?_append_left z] at hx; exact hx
      · rw [List.getElem?_append_right z] at hx
        have : (i - L.length) < 1 := (List.getElem?_eq_some_iff.mp hx).1
        omega
theorem frL.add {σ : mSt} {q i : Nat} {x y : Int32} : frL σ (mu (mu σ.1 (q + 1) i x) q 1 y, σ.2) q := ⟨fun k a b => by dsimp only; rw [mu_ne _ a, mu_ne _ b], fun _ _ _ => rfl⟩
def sepP (q p : Nat) : Prop := q + 1 < p ∨ p + 2 < q
def sepW (q l : Nat) : Prop := q + 1 < l ∨ l + 9 < q
theorem posR.frL {σ σ' : mSt} {p q : Nat} {g : Nat → Int32} (hP : posR σ p g) (hf : frL σ σ' q) (hs : sepP q p) : posR σ' p g := by
  unfold sepP at hs
  have e0 := hf.1 p (by omega) (by omega)
  have e1 := hf.1 (p + 1) (by omega) (by omega)
  have e2 := hf.1 (p + 2) (by omega) (by omega)
  have e3 := hf.2 p (by omega) (by omega)
  unfold posR
  rw [e0, e1, e2, e3]
  exact hP
theorem ritR.frL {σ σ' : mSt} {p q : Nat} {g : Nat → Int32} (hP : ritR σ p g) (hf : frL σ σ' q) (hs : sepP q p) : ritR σ' p g := by
  unfold sepP at hs
  have e0 := hf.1 p (by omega) (by omega)
  unfold ritR
  rw [e0]
  exact hP
theorem lawR.frL {σ σ' : mSt} {l q : Nat} {g : Nat → Int32} (hL : lawR σ l g) (hf : frL σ σ' q) (hs : sepW q l) : lawR σ' l g := by
  unfold sepW at hs
  have e : ∀ i, i ≤ 9 → σ'.1 (l + i) = σ.1 (l + i) := fun i hi => hf.1 (l + i) (by omega) (by omega)
  have e0 := e 0 (by decide)
  rw [Nat.add_zero] at e0
  unfold lawR
  rw [e 1 (by decide), e 2 (by decide), e 3 (by decide), e 4 (by decide), e 5 (by decide), e 6 (by decide), e 7 (by decide), e 8 (by decide), e 9 (by decide), e0]
  exact hL
theorem lt_span {a b i k : Nat} (h1 : min a b ≤ i) : (decide (min a b ≤ k ∧ k < i) || decide (k = i)) = decide (min a b ≤ k ∧ k < i + 1) := by
  by_cases e : k = i
  · subst e; simp [h1]
  · simp only [e, decide_false, Bool.or_false]
    exact decide_eq_decide.mpr (by omega)
def tgF (g : Nat → Int32) (f : Nat) (t : Nat) : List Nat := if tgtG g f t then [f * 64 + t] else []
def drOk (g : Nat → Int32) (t q : Nat) : Bool := !(occG g q) && !(decide (1 ≤ proN g t) && farG g (tuN g) q)
def drF (g : Nat → Int32) (t : Nat) (q : Nat) : List Nat := if drOk g t q then [2 * 4096 + t * 64 + q] else []

set_option maxRecDepth 100000 in
set_option maxHeartbeats 4000000 in
theorem c_span_9 {ae ad : Nat → Nat} {sh : mSh} {σ : mSt} {a b : Nat} (ha : a < 64) (hb : b < 64) : ∀ (n i : Nat), (max a b + 1) - i = n → i ≤ (max a b + 1) → ∀ acc : Int64, min a b ≤ i → (∀ k, k < 64 → lb acc k = decide (min a b ≤ k ∧ k < i)) → Ev RX5 cX5_span 5 false (some .long) (mRm 1 0 0) ae (mEq (some (.long (setL (spanB a b)))) ad sh σ) 9 [some (.int (nI a)), some (.int (nI b)), some (.long acc), none, some (.int (nI i))] [] 0 0 ad sh σ := by
  intro n
  induction n with
  | zero =>
    intro i hn hi acc h1 hacc
    have e : i = (max a b + 1) := by omega
    subst e
    refine ev_iload_4 dX5_span_9 ?_
    refine ev_iload_0 dX5_span_11 ?_
    refine ev_iload_1 dX5_span_12 ?_
    refine ev_max lk_X5_247 (Nat.le_of_ble_eq_true rfl) (Nat.le_of_ble_eq_true rfl) (Nat.le_of_ble_eq_true rfl) (Nat.zero_le _) (Nat.zero_le _) dX5_span_13 ?_
    rw [maxR_nI (by omega) (by omega)]
    refine ev_icmp_gt (tgt := 32) dX5_span_16 (by decide) (fun h16 => ?_) (fun h16 => absurd (nI_lt (by omega) (by omega)) h16)
    refine ev_lload_2 dX5_span_32 ?_
    exact ev_lret dX5_span_33 (setL_of (fun k hk => by rw [hacc k hk]; exact decide_eq_decide.mpr (by omega))) rfl
  | succ n ih =>
    intro i hn hi acc h1 hacc
    have hlt : i < (max a b + 1) := by omega
    refine ev_iload_4 dX5_span_9 ?_
    refine ev_iload_0 dX5_span_11 ?_
    refine ev_iload_1 dX5_span_12 ?_
    refine ev_max lk_X5_247 (Nat.le_of_ble_eq_true rfl) (Nat.le_of_ble_eq_true rfl) (Nat.le_of_ble_eq_true rfl) (Nat.zero_le _) (Nat.zero_le _) dX5_span_13 ?_
    rw [maxR_nI (by omega) (by omega)]
    refine ev_icmp_gt (tgt := 32) dX5_span_16 (by decide) (fun h16 => absurd h16 (nI_nlt (by omega) (by omega))) (fun h16 => ?_)
    refine ev_lload_2 dX5_span_19 ?_
    refine ev_lconst_1 dX5_span_20 ?_
    refine ev_iload_4 dX5_span_21 ?_
    refine ev_lshl dX5_span_23 ?_
    refine ev_lor dX5_span_24 ?_
    refine ev_lstore_2 dX5_span_25 rfl rfl ?_
    refine ev_iinc_4 (v := 1) dX5_span_26 (by decide) rfl rfl ?_
    refine ev_goto (tgt := 9) dX5_span_29 (by decide) ?_
    exact Ev.to (by rw [nI_1]) rfl rfl (ih (i + 1) (by omega) (by omega) _ (by omega) (fun k hk => by rw [lb_or, hacc k hk, show (1 : Int64) <<< ((nI i).toInt64 &&& 63) = mBit (nI i) from rfl, lb_mBit (by omega) hk, lt_span h1]))
set_option maxRecDepth 100000 in
set_option maxHeartbeats 4000000 in
theorem c_span {ae ad : Nat → Nat} {sh : mSh} {σ : mSt} {a b : Nat} (ha : a < 64) (hb : b < 64) : Ct yX5_span cX5_span 5 (some .long) 1 0 0 [.int (nI a), .int (nI b)] ae ad sh σ (mEq (some (.long (setL (spanB a b)))) ad sh σ) := by
  refine Ct.ofL (own := RX5) (ini := false) (ls := [some (.int (nI a)), some (.int (nI b)), none, none, none]) (by decide +kernel) rfl (fun h => by cases h) (Nat.le_of_ble_eq_true rfl) rfl ?_
  refine ev_lconst_0 dX5_span_0 ?_
  refine ev_lstore_2 dX5_span_1 rfl rfl ?_
  refine ev_iload_0 dX5_span_2 ?_
  refine ev_iload_1 dX5_span_3 ?_
  refine ev_min lk_X5_242 (Nat.le_of_ble_eq_true rfl) (Nat.le_of_ble_eq_true rfl) (Nat.le_of_ble_eq_true rfl) (Nat.zero_le _) (Nat.zero_le _) dX5_span_4 ?_
  rw [minR_nI (by omega) (by omega)]
  refine ev_istore_4 dX5_span_7 rfl rfl ?_
  exact c_span_9 ha hb _ (min a b) rfl (by omega) 0 (Nat.le_refl _) (fun k hk => by rw [lb_0]; exact (decide_eq_false (by omega)).symm)
set_option maxRecDepth 100000 in
set_option maxHeartbeats 4000000 in
theorem c_addTargets_11 {ae ad : Nat → Nat} {sh : mSh} {σ : mSt} {y0 l p q : Nat} {g : Nat → Int32} (hy : mPlay ad sh y0 l) (hp : mPos ad sh p) (hl : mList ad sh q) (hsP : sepP q p) (hsW : sepW q l) (hG : wfP g) (hP : posR σ p g) (hL : lawR σ l g) {f : Nat} (hf : f < 36) (hm1 : 1 ≤ mN g f) {L : List Nat} (hR : listR σ q L) (hlen : L.length + (ftm (tgF g f) (cN g * rN g)).length ≤ 445) : ∀ (n i : Nat), cN g * rN g - i = n → i ≤ cN g * rN g → ∀ σ2 : mSt, frL σ σ2 q → listR σ2 q (L ++ ftm (tgF g f) i) → Ev RX5 cX5_addTargets 7 false none (mRm 3 0 0) ae (mPv ad sh (fun σ' => listR σ' q (L ++ ftm (tgF g f) (cN g * rN g)) ∧ frL σ σ' q)) 11 [some (.ref (ad y0)), some (.ref (ad p)), some (.int (nI f)), some (.ref (ad q)), some (.long (setL (tgtG g f))), none, some (.int (nI i))] [] 0 0 ad sh σ2 := by
  have h36 := wf_sq hG
  intro n
  induction n with
  | zero =>
    intro i hn hi σ2 hF hR2
    have e : i = cN g * rN g := by omega
    subst e
    have hP2 := hP.frL hF hsP
    refine ev_iload_6 dX5_addTargets_11 ?_
    refine ev_aload_1 dX5_addTargets_13 ?_
    refine cl_X5_95 (c_squares hp) hp.1 dX5_addTargets_14 rfl (Nat.le_of_ble_eq_true rfl) ?_
    rw [hP2.sq hG]
    refine ev_icmp_ge (tgt := 47) dX5_addTargets_17 (by decide) (fun h17 => ?_) (fun h17 => absurd (Int32.le_refl _) h17)
    exact ev_pv dX5_addTargets_47 ⟨hR2, hF⟩
  | succ n ih =>
    intro i hn hi σ2 hF hR2
    have hlt : i < cN g * rN g := by omega
    have hP2 := hP.frL hF hsP
    have hle := ftm_lt (tgF g f) hlt
    refine ev_iload_6 dX5_addTargets_11 ?_
    refine ev_aload_1 dX5_addTargets_13 ?_
    refine cl_X5_95 (c_squares hp) hp.1 dX5_addTargets_14 rfl (Nat.le_of_ble_eq_true rfl) ?_
    rw [hP2.sq hG]
    refine ev_icmp_ge (tgt := 47) dX5_addTargets_17 (by decide) (fun h17 => absurd h17 (nI_ge hlt (by omega))) (fun h17 => ?_)
    refine ev_lload_4 dX5_addTargets_20 ?_
    refine ev_iload_6 dX5_addTargets_22 ?_
    refine cl_X5_99 c_has dX5_addTargets_24 rfl (Nat.le_of_ble_eq_true rfl) ?_
    rw [hasR_nI (by omega), lb_setL (by omega)]
    refine ev_if_eq (tgt := 41) dX5_addTargets_27 (by decide) (fun h27 => ?_) (fun h27 => ?_)
    · refine ev_iinc_6 (v := 1) dX5_addTargets_41 (by decide) rfl rfl ?_
      refine ev_goto (tgt := 11) dX5_addTargets_44 (by decide) ?_
      first
        | exact Ev.to (by rw [nI_1]) rfl rfl (ih (i + 1) (by omega) (by omega) σ2 hF (by rw [ftm, show tgF g f i = [] from if_neg (by rw [(b2i_0 _).mp h27]; decide), List.append_nil]; exact hR2))
        | exact Ev.to (by rw [nI_1]) rfl rfl (ih (i + 1) (by omega) (by omega) _ (hF.tr frL.add) (by rw [ftm, htg, ← List.append_assoc]; exact hR2.add hle2))
    · have htg : tgF g f i = [f * 64 + i] := if_pos (b2i_t h27)
      rw [htg] at hle
      have hle2 : (L ++ ftm (tgF g f) i).length < 445 := by rw [List.length_append]; rw [List.length_singleton] at hle; omega
      refine ev_aload_3 dX5_addTargets_30 ?_
      refine ev_iconst_0 dX5_addTargets_31 ?_
      refine ev_iload_2 dX5_addTargets_32 ?_
      refine ev_iload_6 dX5_addTargets_33 ?_
      refine cl_X5_221 c_coded dX5_addTargets_35 rfl (Nat.le_of_ble_eq_true rfl) ?_
      rw [lI0, coR_nI (by omega) (by omega), Nat.zero_mul, Nat.zero_add]
      refine cl_X5_225 (c_listAdd hl hR2.1 hle2) hl.1 dX5_addTargets_38 rfl (Nat.le_of_ble_eq_true rfl) ?_
      refine ev_iinc_6 (v := 1) dX5_addTargets_41 (by decide) rfl rfl ?_
      refine ev_goto (tgt := 11) dX5_addTargets_44 (by decide) ?_
      first
        | exact Ev.to (by rw [nI_1]) rfl rfl (ih (i + 1) (by omega) (by omega) σ2 hF (by rw [ftm, show tgF g f i = [] from if_neg (by rw [(b2i_0 _).mp h27]; decide), List.append_nil]; exact hR2))
        | exact Ev.to (by rw [nI_1]) rfl rfl (ih (i + 1) (by omega) (by omega) _ (hF.tr frL.add) (by rw [ftm, htg, ← List.append_assoc]; exact hR2.add hle2))
set_option maxRecDepth 100000 in
set_option maxHeartbeats 4000000 in
theorem c_addTargets {ae ad : Nat → Nat} {sh : mSh} {σ : mSt} {y0 l p q : Nat} {g : Nat → Int32} (hy : mPlay ad sh y0 l) (hp : mPos ad sh p) (hl : mList ad sh q) (hsP : sepP q p) (hsW : sepW q l) (hG : wfP g) (hP : posR σ p g) (hL : lawR σ l g) {f : Nat} (hf : f < 36) (hm1 : 1 ≤ mN g f) {L : List Nat} (hR : listR σ q L) (hlen : L.length + (ftm (tgF g f) (cN g * rN g)).length ≤ 445) : Ct yX5_addTargets cX5_addTargets 7 none 3 0 0 [.ref (ad y0), .ref (ad p), .int (nI f), .ref (ad q)] ae ad sh σ (mPv ad sh (fun σ' => listR σ' q (L ++ ftm (tgF g f) (cN g * rN g)) ∧ frL σ σ' q)) := by
  refine Ct.ofL (own := RX5) (ini := false) (ls := [some (.ref (ad y0)), some (.ref (ad p)), some (.int (nI f)), some (.ref (ad q)), none, none, none]) (by decide +kernel) rfl (fun h => by cases h) (Nat.le_of_ble_eq_true rfl) rfl ?_
  refine ev_aload_0 dX5_addTargets_0 ?_
  refine ev_aload_1 dX5_addTargets_1 ?_
  refine ev_iload_2 dX5_addTargets_2 ?_
  refine cl_X5_232 (c_targets hy hp hG hP hL hf hm1) hy.1 dX5_addTargets_3 rfl (Nat.le_of_ble_eq_true rfl) ?_
  refine ev_lstore_4 dX5_addTargets_6 rfl rfl ?_
  refine ev_iconst_0 dX5_addTargets_8 ?_
  refine ev_istore_6 dX5_addTargets_9 rfl rfl ?_
  exact c_addTargets_11 hy hp hl hsP hsW hG hP hL hf hm1 hR hlen _ 0 rfl (Nat.zero_le _) σ frL.rf (by rw [ftm, List.append_nil]; exact hR)
set_option maxRecDepth 100000 in
set_option maxHeartbeats 4000000 in
theorem c_addDrops_21 {ae ad : Nat → Nat} {sh : mSh} {σ : mSt} {y0 l p q : Nat} {g : Nat → Int32} (hy : mPlay ad sh y0 l) (hp : mPos ad sh p) (hl : mList ad sh q) (hsP : sepP q p) (hsW : sepW q l) (hG : wfP g) (hP : posR σ p g) (hL : lawR σ l g) (hW : wfL g) {t : Nat} (ht : t < 6) {L : List Nat} (hR : listR σ q L) (hlen : L.length + (ftm (drF g t) (cN g * rN g)).length ≤ 445) : ∀ (n i : Nat), cN g * rN g - i = n → i ≤ cN g * rN g → ∀ σ2 : mSt, frL σ σ2 q → listR σ2 q (L ++ ftm (drF g t) i) → Ev RX5 cX5_addDrops 6 false none (mRm 2 0 0) ae (mPv ad sh (fun σ' => listR σ' q (L ++ ftm (drF g t) (cN g * rN g)) ∧ frL σ σ' q)) 21 [some (.ref (ad y0)), some (.ref (ad p)), some (.int (nI t)), some (.ref (ad q)), some (.int (b2i (decide (1 ≤ proN g t)))), some (.int (nI i))] [] 0 0 ad sh σ2 := by
  have h36 := wf_sq hG
  have htu := tu_le hG
  intro n
  induction n with
  | zero =>
    intro i hn hi σ2 hF hR2
    have e : i = cN g * rN g := by omega
    subst e
    have hP2 := hP.frL hF hsP
    refine ev_iload_5 dX5_addDrops_21 ?_
    refine ev_aload_1 dX5_addDrops_23 ?_
    refine cl_X5_95 (c_squares hp) hp.1 dX5_addDrops_24 rfl (Nat.le_of_ble_eq_true rfl) ?_
    rw [hP2.sq hG]
    refine ev_icmp_ge (tgt := 82) dX5_addDrops_27 (by decide) (fun h27 => ?_) (fun h27 => absurd (Int32.le_refl _) h27)
    exact ev_pv dX5_addDrops_82 ⟨hR2, hF⟩
  | succ n ih =>
    intro i hn hi σ2 hF hR2
    have hlt : i < cN g * rN g := by omega
    have hP2 := hP.frL hF hsP
    have hle := ftm_lt (drF g t) hlt
    have hocc := congrFun hP2.occ i
    refine ev_iload_5 dX5_addDrops_21 ?_
    refine ev_aload_1 dX5_addDrops_23 ?_
    refine cl_X5_95 (c_squares hp) hp.1 dX5_addDrops_24 rfl (Nat.le_of_ble_eq_true rfl) ?_
    rw [hP2.sq hG]
    refine ev_icmp_ge (tgt := 82) dX5_addDrops_27 (by decide) (fun h27 => absurd h27 (nI_ge hlt (by omega))) (fun h27 => ?_)
    refine ev_aload_1 dX5_addDrops_30 ?_
    refine gf_X5_15 dX5_addDrops_31 hp.1 rfl ?_
    refine ev_aload_1 dX5_addDrops_34 ?_
    refine gf_X5_21 dX5_addDrops_35 hp.1 rfl ?_
    refine ev_lor dX5_addDrops_38 ?_
    refine ev_iload_5 dX5_addDrops_39 ?_
    refine cl_X5_99 c_has dX5_addDrops_41 rfl (Nat.le_of_ble_eq_true rfl) ?_
    rw [hasR_nI (by omega), hocc]
    refine ev_if_ne (tgt := 76) dX5_addDrops_44 (by decide) (fun h44 => ?_) (fun h44 => ?_)
    · refine ev_iinc_5 (v := 1) dX5_addDrops_76 (by decide) rfl rfl ?_
      refine ev_goto (tgt := 21) dX5_addDrops_79 (by decide) ?_
      first
        | exact Ev.to (by rw [nI_1]) rfl rfl (ih (i + 1) (by omega) (by omega) _ (hF.tr frL.add) (by rw [ftm, htg, ← List.append_assoc]; exact hR2.add hle2))
        | exact Ev.to (by rw [nI_1]) rfl rfl (ih (i + 1) (by omega) (by omega) σ2 hF (by rw [ftm, show drF g t i = [] from if_neg (by rw [drOk, b2i_t h44]; simp), List.append_nil]; exact hR2))
        | exact Ev.to (by rw [nI_1]) rfl rfl (ih (i + 1) (by omega) (by omega) σ2 hF (by rw [ftm, show drF g t i = [] from if_neg (by rw [drOk, b2i_t h49, b2i_t h62]; simp), List.append_nil]; exact hR2))
    · refine ev_iload_4 dX5_addDrops_47 ?_
      refine ev_if_eq (tgt := 65) dX5_addDrops_49 (by decide) (fun h49 => ?_) (fun h49 => ?_)
      · have hok : drOk g t i = true := by
          rw [drOk, (b2i_0 (occG g i)).mp (by first | exact h44 | exact Decidable.not_not.mp h44)]
          first
          | (rw [(b2i_0 (decide (1 ≤ proN g t))).mp h49]; rfl)
          | (rw [(b2i_0 (farG g (tuN g) i)).mp (by first | exact h62 | exact Decidable.not_not.mp h62), Bool.and_false]; rfl)
        have htg : drF g t i = [2 * 4096 + t * 64 + i] := if_pos hok
        rw [htg] at hle
        have hle2 : (L ++ ftm (drF g t) i).length < 445 := by rw [List.length_append]; rw [List.length_singleton] at hle; omega
        refine ev_aload_3 dX5_addDrops_65 ?_
        refine ev_iconst_2 dX5_addDrops_66 ?_
        refine ev_iload_2 dX5_addDrops_67 ?_
        refine ev_iload_5 dX5_addDrops_68 ?_
        refine cl_X5_221 c_coded dX5_addDrops_70 rfl (Nat.le_of_ble_eq_true rfl) ?_
        rw [lI2, coR_nI (by omega) (by omega)]
        refine cl_X5_225 (c_listAdd hl hR2.1 hle2) hl.1 dX5_addDrops_73 rfl (Nat.le_of_ble_eq_true rfl) ?_
        refine ev_iinc_5 (v := 1) dX5_addDrops_76 (by decide) rfl rfl ?_
        refine ev_goto (tgt := 21) dX5_addDrops_79 (by decide) ?_
        first
          | exact Ev.to (by rw [nI_1]) rfl rfl (ih (i + 1) (by omega) (by omega) _ (hF.tr frL.add) (by rw [ftm, htg, ← List.append_assoc]; exact hR2.add hle2))
          | exact Ev.to (by rw [nI_1]) rfl rfl (ih (i + 1) (by omega) (by omega) σ2 hF (by rw [ftm, show drF g t i = [] from if_neg (by rw [drOk, b2i_t h44]; simp), List.append_nil]; exact hR2))
          | exact Ev.to (by rw [nI_1]) rfl rfl (ih (i + 1) (by omega) (by omega) σ2 hF (by rw [ftm, show drF g t i = [] from if_neg (by rw [drOk, b2i_t h49, b2i_t h62]; simp), List.append_nil]; exact hR2))
      · refine ev_aload_1 dX5_addDrops_52 ?_
        refine ev_aload_1 dX5_addDrops_53 ?_
        refine gf_X5_131 dX5_addDrops_54 hp.1 rfl ?_
        rw [hP2.turn hG]
        refine ev_iload_5 dX5_addDrops_57 ?_
        refine cl_X5_151 (c_isFarRow hp) hp.1 dX5_addDrops_59 rfl (Nat.le_of_ble_eq_true rfl) ?_
        rw [far_nI hG hP2 htu (by omega)]
        refine ev_if_ne (tgt := 76) dX5_addDrops_62 (by decide) (fun h62 => ?_) (fun h62 => ?_)
        · refine ev_iinc_5 (v := 1) dX5_addDrops_76 (by decide) rfl rfl ?_
          refine ev_goto (tgt := 21) dX5_addDrops_79 (by decide) ?_
          first
            | exact Ev.to (by rw [nI_1]) rfl rfl (ih (i + 1) (by omega) (by omega) _ (hF.tr frL.add) (by rw [ftm, htg, ← List.append_assoc]; exact hR2.add hle2))
            | exact Ev.to (by rw [nI_1]) rfl rfl (ih (i + 1) (by omega) (by omega) σ2 hF (by rw [ftm, show drF g t i = [] from if_neg (by rw [drOk, b2i_t h44]; simp), List.append_nil]; exact hR2))
            | exact Ev.to (by rw [nI_1]) rfl rfl (ih (i + 1) (by omega) (by omega) σ2 hF (by rw [ftm, show drF g t i = [] from if_neg (by rw [drOk, b2i_t h49, b2i_t h62]; simp), List.append_nil]; exact hR2))
        · have hok : drOk g t i = true := by
            rw [drOk, (b2i_0 (occG g i)).mp (by first | exact h44 | exact Decidable.not_not.mp h44)]
            first
            | (rw [(b2i_0 (decide (1 ≤ proN g t))).mp h49]; rfl)
            | (rw [(b2i_0 (farG g (tuN g) i)).mp (by first | exact h62 | exact Decidable.not_not.mp h62), Bool.and_false]; rfl)
          have htg : drF g t i = [2 * 4096 + t * 64 + i] := if_pos hok
          rw [htg] at hle
          have hle2 : (L ++ ftm (drF g t) i).length < 445 := by rw [List.length_append]; rw [List.length_singleton] at hle; omega
          refine ev_aload_3 dX5_addDrops_65 ?_
          refine ev_iconst_2 dX5_addDrops_66 ?_
          refine ev_iload_2 dX5_addDrops_67 ?_
          refine ev_iload_5 dX5_addDrops_68 ?_
          refine cl_X5_221 c_coded dX5_addDrops_70 rfl (Nat.le_of_ble_eq_true rfl) ?_
          rw [lI2, coR_nI (by omega) (by omega)]
          refine cl_X5_225 (c_listAdd hl hR2.1 hle2) hl.1 dX5_addDrops_73 rfl (Nat.le_of_ble_eq_true rfl) ?_
          refine ev_iinc_5 (v := 1) dX5_addDrops_76 (by decide) rfl rfl ?_
          refine ev_goto (tgt := 21) dX5_addDrops_79 (by decide) ?_
          first
            | exact Ev.to (by rw [nI_1]) rfl rfl (ih (i + 1) (by omega) (by omega) _ (hF.tr frL.add) (by rw [ftm, htg, ← List.append_assoc]; exact hR2.add hle2))
            | exact Ev.to (by rw [nI_1]) rfl rfl (ih (i + 1) (by omega) (by omega) σ2 hF (by rw [ftm, show drF g t i = [] from if_neg (by rw [drOk, b2i_t h44]; simp), List.append_nil]; exact hR2))
            | exact Ev.to (by rw [nI_1]) rfl rfl (ih (i + 1) (by omega) (by omega) σ2 hF (by rw [ftm, show drF g t i = [] from if_neg (by rw [drOk, b2i_t h49, b2i_t h62]; simp), List.append_nil]; exact hR2))
set_option maxRecDepth 100000 in
set_option maxHeartbeats 4000000 in
theorem c_addDrops {ae ad : Nat → Nat} {sh : mSh} {σ : mSt} {y0 l p q : Nat} {g : Nat → Int32} (hy : mPlay ad sh y0 l) (hp : mPos ad sh p) (hl : mList ad sh q) (hsP : sepP q p) (hsW : sepW q l) (hG : wfP g) (hP : posR σ p g) (hL : lawR σ l g) (hW : wfL g) {t : Nat} (ht : t < 6) {L : List Nat} (hR : listR σ q L) (hlen : L.length + (ftm (drF g t) (cN g * rN g)).length ≤ 445) : Ct yX5_addDrops cX5_addDrops 6 none 2 0 0 [.ref (ad y0), .ref (ad p), .int (nI t), .ref (ad q)] ae ad sh σ (mPv ad sh (fun σ' => listR σ' q (L ++ ftm (drF g t) (cN g * rN g)) ∧ frL σ σ' q)) := by
  refine Ct.ofL (own := RX5) (ini := false) (ls := [some (.ref (ad y0)), some (.ref (ad p)), some (.int (nI t)), some (.ref (ad q)), none, none]) (by decide +kernel) rfl (fun h => by cases h) (Nat.le_of_ble_eq_true rfl) rfl ?_
  refine ev_aload_0 dX5_addDrops_0 ?_
  refine gf_X5_9 dX5_addDrops_1 hy.1 rfl ?_
  refine ev_iload_2 dX5_addDrops_4 ?_
  refine cl_X5_145 (c_promotionOf hy.2) hy.2.1 dX5_addDrops_5 rfl (Nat.le_of_ble_eq_true rfl) ?_
  rw [(pro_nI hW hL ht).1]
  refine ev_if_lt (tgt := 15) dX5_addDrops_8 (by decide) (fun h8 => ?_) (fun h8 => ?_)
  · refine ev_iconst_0 dX5_addDrops_15 ?_
    refine ev_istore_4 dX5_addDrops_16 rfl rfl ?_
    refine ev_iconst_0 dX5_addDrops_18 ?_
    refine ev_istore_5 dX5_addDrops_19 rfl rfl ?_
    first
      | exact Ev.to (by rw [show decide (1 ≤ proN g t) = true from decide_eq_true (Nat.pos_of_ne_zero (fun z => h8 ((pm1 (pro_nI hW hL ht).2).mpr z)))]; rfl) rfl rfl (c_addDrops_21 hy hp hl hsP hsW hG hP hL hW ht hR hlen _ 0 rfl (Nat.zero_le _) σ frL.rf (by rw [ftm, List.append_nil]; exact hR))
      | exact Ev.to (by rw [show decide (1 ≤ proN g t) = false from decide_eq_false (fun z => absurd ((pm1 (pro_nI hW hL ht).2).mp h8) (by omega))]; rfl) rfl rfl (c_addDrops_21 hy hp hl hsP hsW hG hP hL hW ht hR hlen _ 0 rfl (Nat.zero_le _) σ frL.rf (by rw [ftm, List.append_nil]; exact hR))
  · refine ev_iconst_1 dX5_addDrops_11 ?_
    refine ev_goto (tgt := 16) dX5_addDrops_12 (by decide) ?_
    refine ev_istore_4 dX5_addDrops_16 rfl rfl ?_
    refine ev_iconst_0 dX5_addDrops_18 ?_
    refine ev_istore_5 dX5_addDrops_19 rfl rfl ?_
    first
      | exact Ev.to (by rw [show decide (1 ≤ proN g t) = true from decide_eq_true (Nat.pos_of_ne_zero (fun z => h8 ((pm1 (pro_nI hW hL ht).2).mpr z)))]; rfl) rfl rfl (c_addDrops_21 hy hp hl hsP hsW hG hP hL hW ht hR hlen _ 0 rfl (Nat.zero_le _) σ frL.rf (by rw [ftm, List.append_nil]; exact hR))
      | exact Ev.to (by rw [show decide (1 ≤ proN g t) = false from decide_eq_false (fun z => absurd ((pm1 (pro_nI hW hL ht).2).mp h8) (by omega))]; rfl) rfl rfl (c_addDrops_21 hy hp hl hsP hsW hG hP hL hW ht hR hlen _ 0 rfl (Nat.zero_le _) σ frL.rf (by rw [ftm, List.append_nil]; exact hR))
