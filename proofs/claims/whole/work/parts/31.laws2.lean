/-- the lengths of the rows of the laws, of the trail -/
def lenL (i : Nat) : Nat := if i = 1 then 6 else if i ≤ 5 then 36 else if i ≤ 7 then 6 else if i = 8 then 4 else 16
def lenT (i : Nat) : Nat := if i ≤ 2 then 40 else 41
/-- j rows of q's have been copied to p's -/
def cpR (ln : Nat → Nat) (σ σ' : mSt) (p q j : Nat) : Prop := (∀ i, 1 ≤ i → i ≤ j → σ'.1 (p + i) = fa_fill (σ.1 (q + i)) (σ.1 (p + i)) (ln i)) ∧ (∀ k, (k ≤ p ∨ p + j < k) → σ'.1 k = σ.1 k) ∧ σ'.2 = σ.2
theorem cpR_0 {ln : Nat → Nat} {σ : mSt} {p q : Nat} : cpR ln σ σ p q 0 := ⟨fun i a b => by omega, fun _ _ => rfl, rfl⟩
theorem c_copyJ {ae ad : Nat → Nat} {sh : mSh} {σ σ2 : mSt} {ln : Nat → Nat} {p q j : Nat} (i : Nat) (hj : i = j + 1) (hC : cpR ln σ σ2 p q j) (h1 : sh[q + i]? = some (.inl (ln i))) (h2 : sh[p + i]? = some (.inl (ln i))) (hne : q + i < p ∨ p + i < q) (hl : ln i < 2 ^ 31) : Ct yX9_copy cX9_copy 3 none 0 0 0 [.ref (ad (q + i)), .ref (ad (p + i))] ae ad sh σ2 (mPv ad sh (fun σ' => cpR ln σ σ' p q i)) := by
  subst hj
  refine (c_copy h1 h2 (by omega) hl).mono (fun v a s σ' h => ⟨h.1, h.2.1, h.2.2.1, ?_⟩)
  obtain ⟨c1, c2, c3⟩ := hC
  rw [h.2.2.2]
  refine ⟨fun i a b => ?_, fun k hk => ?_, c3⟩
  · dsimp only
    by_cases e : i = j + 1
    · subst e
      rw [mr_at, c2 _ (by omega), c2 _ (by omega)]
    · rw [mr_ne _ _ (by omega)]
      exact c1 i a (by omega)
  · dsimp only
    rw [mr_ne _ _ (by omega)]
    exact c2 k (by omega)
/-- the laws have been copied -/
def lawC (σ σ' : mSt) (p q : Nat) : Prop := (∀ i, 1 ≤ i → i ≤ 9 → σ'.1 (p + i) = fa_fill (σ.1 (q + i)) (σ.1 (p + i)) (lenL i)) ∧ σ'.1 p = upd (upd (σ.1 p) 9 (σ.1 q 9)) 10 (σ.1 q 10) ∧ (∀ k, (k < p ∨ p + 9 < k) → σ'.1 k = σ.1 k) ∧ σ'.2 = σ.2
theorem lawR.copy {σ σ' : mSt} {p q : Nat} {g : Nat → Int32} (hL : lawR σ q g) (h : lawC σ σ' p q) : lawR σ' p g := by
  obtain ⟨c1, c2, _, _⟩ := h
  have r : ∀ i k, 1 ≤ i → i ≤ 9 → k < lenL i → σ'.1 (p + i) k = σ.1 (q + i) k := fun i k a b d => by rw [c1 i a b, fa_fill_in d]
  obtain ⟨l1, l2, l3, l4, l5, l6, l7, l8, l9, l10⟩ := hL
  have h6 : ∀ t, t < 6 → pcG g t ≤ 6 := fun t ht => (l1 t ht).2
  refine ⟨fun t ht => ?_, fun t ht j hj => ?_, fun e he => ?_, fun e he => ?_, fun t ht => ?_, fun t ht => ?_, fun k hk => ?_, fun k i hk hi => ?_, ?_, ?_⟩
  · rw [r 1 t (by decide) (by decide) (by show t < 6; exact ht)]; exact l1 t ht
  · have := h6 t ht
    have ll : t * 6 + j < 36 := by omega
    rw [r 2 _ (by decide) (by decide) ll, r 3 _ (by decide) (by decide) ll, r 4 _ (by decide) (by decide) ll, r 5 _ (by decide) (by decide) ll]; exact l2 t ht j hj
  · have e2 := r 2 e (by decide) (by decide) he
    rw [e2, clN, e2]; exact l3 e he
  · have e2 := r 4 e (by decide) (by decide) he
    rw [e2, clN, e2]; exact l4 e he
  · rw [r 6 t (by decide) (by decide) ht]; exact l5 t ht
  · rw [r 7 t (by decide) (by decide) ht]; exact l6 t ht
  · rw [r 8 k (by decide) (by decide) hk]; exact l7 k hk
  · rw [r 9 _ (by decide) (by decide) (by show 4 * k + i < 16; omega)]; exact l8 k i hk hi
  · rw [c2]; exact l9
  · rw [c2]; exact l10
/-- the trail has been copied -/
def trailC (σ σ' : mSt) (p q : Nat) : Prop := (∀ i, 1 ≤ i → i ≤ 3 → σ'.1 (p + i) = fa_fill (σ.1 (q + i)) (σ.1 (p + i)) (lenT i)) ∧ σ'.1 p = upd (σ.1 p) 3 (σ.1 q 3) ∧ (∀ k, (k < p ∨ p + 3 < k) → σ'.1 k = σ.1 k) ∧ σ'.2 = σ.2
/-- the steps of the marks of a type's parts -/
def dcF (f : Nat → Int32) (b : Nat) : Nat → Int32
  | 0 => 0
  | n + 1 => dcF f b n + popI (f (b + n))

set_option maxRecDepth 100000 in
set_option maxHeartbeats 4000000 in
theorem c_lawCopy {ae ad : Nat → Nat} {sh : mSh} {σ : mSt} {p q : Nat} (hp : mLaws ad sh p) (hq : mLaws ad sh q) (hne : p + 9 < q ∨ q + 9 < p) : Ct yX1_copyFrom cX1_copyFrom 2 none 1 0 0 [.ref (ad p), .ref (ad q)] ae ad sh σ (mPv ad sh (fun σ' => lawC σ σ' p q)) := by
  refine Ct.ofL (own := RX1) (ini := false) (ls := [some (.ref (ad p)), some (.ref (ad q))]) (by decide +kernel) rfl (fun h => by cases h) (Nat.le_of_ble_eq_true rfl) rfl ?_
  refine ev_aload_1 dX1_copyFrom_0 ?_
  refine gf_X1_9 dX1_copyFrom_1 hq.1 rfl ?_
  refine ev_aload_0 dX1_copyFrom_4 ?_
  refine gf_X1_9 dX1_copyFrom_5 hp.1 rfl ?_
  refine cg_X1_43 (c_copyJ (ln := lenL) (j := 0) 1 rfl cpR_0 hq.2.1 hp.2.1 (by omega) (by decide)) dX1_copyFrom_8 rfl (Nat.le_of_ble_eq_true rfl) (fun σ100 h100 => ?_)
  refine ev_aload_1 dX1_copyFrom_11 ?_
  refine gf_X1_15 dX1_copyFrom_12 hq.1 rfl ?_
  refine ev_aload_0 dX1_copyFrom_15 ?_
  refine gf_X1_15 dX1_copyFrom_16 hp.1 rfl ?_
  refine cg_X1_43 (c_copyJ (ln := lenL) (j := 1) 2 rfl h100 hq.2.2.1 hp.2.2.1 (by omega) (by decide)) dX1_copyFrom_19 rfl (Nat.le_of_ble_eq_true rfl) (fun σ101 h101 => ?_)
  refine ev_aload_1 dX1_copyFrom_22 ?_
  refine gf_X1_18 dX1_copyFrom_23 hq.1 rfl ?_
  refine ev_aload_0 dX1_copyFrom_26 ?_
  refine gf_X1_18 dX1_copyFrom_27 hp.1 rfl ?_
  refine cg_X1_43 (c_copyJ (ln := lenL) (j := 2) 3 rfl h101 hq.2.2.2.1 hp.2.2.2.1 (by omega) (by decide)) dX1_copyFrom_30 rfl (Nat.le_of_ble_eq_true rfl) (fun σ102 h102 => ?_)
  refine ev_aload_1 dX1_copyFrom_33 ?_
  refine gf_X1_21 dX1_copyFrom_34 hq.1 rfl ?_
  refine ev_aload_0 dX1_copyFrom_37 ?_
  refine gf_X1_21 dX1_copyFrom_38 hp.1 rfl ?_
  refine cg_X1_43 (c_copyJ (ln := lenL) (j := 3) 4 rfl h102 hq.2.2.2.2.1 hp.2.2.2.2.1 (by omega) (by decide)) dX1_copyFrom_41 rfl (Nat.le_of_ble_eq_true rfl) (fun σ103 h103 => ?_)
  refine ev_aload_1 dX1_copyFrom_44 ?_
  refine gf_X1_24 dX1_copyFrom_45 hq.1 rfl ?_
  refine ev_aload_0 dX1_copyFrom_48 ?_
  refine gf_X1_24 dX1_copyFrom_49 hp.1 rfl ?_
  refine cg_X1_43 (c_copyJ (ln := lenL) (j := 4) 5 rfl h103 hq.2.2.2.2.2.1 hp.2.2.2.2.2.1 (by omega) (by decide)) dX1_copyFrom_52 rfl (Nat.le_of_ble_eq_true rfl) (fun σ104 h104 => ?_)
  refine ev_aload_1 dX1_copyFrom_55 ?_
  refine gf_X1_27 dX1_copyFrom_56 hq.1 rfl ?_
  refine ev_aload_0 dX1_copyFrom_59 ?_
  refine gf_X1_27 dX1_copyFrom_60 hp.1 rfl ?_
  refine cg_X1_43 (c_copyJ (ln := lenL) (j := 5) 6 rfl h104 hq.2.2.2.2.2.2.1 hp.2.2.2.2.2.2.1 (by omega) (by decide)) dX1_copyFrom_63 rfl (Nat.le_of_ble_eq_true rfl) (fun σ105 h105 => ?_)
  refine ev_aload_1 dX1_copyFrom_66 ?_
  refine gf_X1_30 dX1_copyFrom_67 hq.1 rfl ?_
  refine ev_aload_0 dX1_copyFrom_70 ?_
  refine gf_X1_30 dX1_copyFrom_71 hp.1 rfl ?_
  refine cg_X1_43 (c_copyJ (ln := lenL) (j := 6) 7 rfl h105 hq.2.2.2.2.2.2.2.1 hp.2.2.2.2.2.2.2.1 (by omega) (by decide)) dX1_copyFrom_74 rfl (Nat.le_of_ble_eq_true rfl) (fun σ106 h106 => ?_)
  refine ev_aload_1 dX1_copyFrom_77 ?_
  refine gf_X1_33 dX1_copyFrom_78 hq.1 rfl ?_
  refine ev_aload_0 dX1_copyFrom_81 ?_
  refine gf_X1_33 dX1_copyFrom_82 hp.1 rfl ?_
  refine cg_X1_43 (c_copyJ (ln := lenL) (j := 7) 8 rfl h106 hq.2.2.2.2.2.2.2.2.1 hp.2.2.2.2.2.2.2.2.1 (by omega) (by decide)) dX1_copyFrom_85 rfl (Nat.le_of_ble_eq_true rfl) (fun σ107 h107 => ?_)
  refine ev_aload_1 dX1_copyFrom_88 ?_
  refine gf_X1_36 dX1_copyFrom_89 hq.1 rfl ?_
  refine ev_aload_0 dX1_copyFrom_92 ?_
  refine gf_X1_36 dX1_copyFrom_93 hp.1 rfl ?_
  refine cg_X1_43 (c_copyJ (ln := lenL) (j := 8) 9 rfl h107 hq.2.2.2.2.2.2.2.2.2 hp.2.2.2.2.2.2.2.2.2 (by omega) (by decide)) dX1_copyFrom_96 rfl (Nat.le_of_ble_eq_true rfl) (fun σ108 h108 => ?_)
  refine ev_aload_0 dX1_copyFrom_99 ?_
  refine ev_aload_1 dX1_copyFrom_100 ?_
  refine gf_X1_47 dX1_copyFrom_101 hq.1 rfl ?_
  refine pf_X1_47 dX1_copyFrom_104 hp.1 rfl ?_
  refine ev_aload_0 dX1_copyFrom_107 ?_
  refine ev_aload_1 dX1_copyFrom_108 ?_
  refine gf_X1_51 dX1_copyFrom_109 hq.1 rfl ?_
  refine pf_X1_51 dX1_copyFrom_112 hp.1 rfl ?_
  obtain ⟨c1, c2, c3⟩ := h108
  refine ev_pv dX1_copyFrom_115 ⟨fun i a b => ?_, ?_, fun k hk => ?_, c3⟩
  · dsimp only
    rw [mu_ne _ (by omega), mu_ne _ (by omega)]; exact c1 i a b
  · dsimp only
    rw [mu_ne _ (show q ≠ p by omega), c2 q (by omega)]
    simp only [mu, if_pos, c2 p (Or.inl (Nat.le_refl _))]
  · dsimp only
    rw [mu_ne _ (by omega), mu_ne _ (by omega)]; exact c2 k (by omega)
set_option maxRecDepth 100000 in
set_option maxHeartbeats 4000000 in
theorem c_trailCopy {ae ad : Nat → Nat} {sh : mSh} {σ : mSt} {p q : Nat} (hp : mTrail ad sh p) (hq : mTrail ad sh q) (hne : p + 3 < q ∨ q + 3 < p) : Ct yX8_copyFrom cX8_copyFrom 2 none 1 0 0 [.ref (ad p), .ref (ad q)] ae ad sh σ (mPv ad sh (fun σ' => trailC σ σ' p q)) := by
  refine Ct.ofL (own := RX8) (ini := false) (ls := [some (.ref (ad p)), some (.ref (ad q))]) (by decide +kernel) rfl (fun h => by cases h) (Nat.le_of_ble_eq_true rfl) rfl ?_
  refine ev_aload_1 dX8_copyFrom_0 ?_
  refine gf_X8_9 dX8_copyFrom_1 hq.1 rfl ?_
  refine ev_aload_0 dX8_copyFrom_4 ?_
  refine gf_X8_9 dX8_copyFrom_5 hp.1 rfl ?_
  refine cg_X8_21 (c_copyJ (ln := lenT) (j := 0) 1 rfl cpR_0 hq.2.1 hp.2.1 (by omega) (by decide)) dX8_copyFrom_8 rfl (Nat.le_of_ble_eq_true rfl) (fun σ100 h100 => ?_)
  refine ev_aload_1 dX8_copyFrom_11 ?_
  refine gf_X8_15 dX8_copyFrom_12 hq.1 rfl ?_
  refine ev_aload_0 dX8_copyFrom_15 ?_
  refine gf_X8_15 dX8_copyFrom_16 hp.1 rfl ?_
  refine cg_X8_21 (c_copyJ (ln := lenT) (j := 1) 2 rfl h100 hq.2.2.1 hp.2.2.1 (by omega) (by decide)) dX8_copyFrom_19 rfl (Nat.le_of_ble_eq_true rfl) (fun σ101 h101 => ?_)
  refine ev_aload_1 dX8_copyFrom_22 ?_
  refine gf_X8_18 dX8_copyFrom_23 hq.1 rfl ?_
  refine ev_aload_0 dX8_copyFrom_26 ?_
  refine gf_X8_18 dX8_copyFrom_27 hp.1 rfl ?_
  refine cg_X8_21 (c_copyJ (ln := lenT) (j := 2) 3 rfl h101 hq.2.2.2 hp.2.2.2 (by omega) (by decide)) dX8_copyFrom_30 rfl (Nat.le_of_ble_eq_true rfl) (fun σ102 h102 => ?_)
  refine ev_aload_0 dX8_copyFrom_33 ?_
  refine ev_aload_1 dX8_copyFrom_34 ?_
  refine gf_X8_25 dX8_copyFrom_35 hq.1 rfl ?_
  refine pf_X8_25 dX8_copyFrom_38 hp.1 rfl ?_
  obtain ⟨c1, c2, c3⟩ := h102
  refine ev_pv dX8_copyFrom_41 ⟨fun i a b => ?_, ?_, fun k hk => ?_, c3⟩
  · dsimp only
    rw [mu_ne _ (by omega)]; exact c1 i a b
  · dsimp only
    rw [c2 q (by omega)]
    simp only [mu, if_pos, c2 p (Or.inl (Nat.le_refl _))]
  · dsimp only
    rw [mu_ne _ (by omega)]; exact c2 k (by omega)
set_option maxRecDepth 100000 in
set_option maxHeartbeats 4000000 in
theorem c_directionsOf {ae ad : Nat → Nat} {sh : mSh} {σ : mSt} {a : Nat} {mark : Int32} (ha : a < 7) : Ct yX1_directionsOf cX1_directionsOf 6 (some .int) 1 0 0 [.int (nI a), .int mark] ae ad sh σ (mEq (some (.int (dirM a mark))) ad sh σ) := by
  refine Ct.ofL (own := RX1) (ini := false) (ls := [some (.int (nI a)), some (.int mark), none, none, none, none]) (by decide +kernel) rfl (fun h => by cases h) (Nat.le_of_ble_eq_true rfl) rfl ?_
  refine ev_iconst_0 dX1_directionsOf_0 ?_
  refine ev_istore_2 dX1_directionsOf_1 rfl rfl ?_
  refine ev_gets (j := 2) (by decide) fl_X1_74 dX1_directionsOf_2 ?_
  refine ev_iload_0 dX1_directionsOf_5 ?_
  refine cl_X1_64 (c_cellT (j := 2) (by decide) (by decide)) dX1_directionsOf_6 rfl (Nat.le_of_ble_eq_true rfl) ?_
  rw [cellV_nI (by omega) (show a < (mTab 2).length from ha), show (mTab 2).getD a 0 = nI (aStart a) from (aS_nI a ha).1]
  refine ev_istore_3 dX1_directionsOf_9 rfl rfl ?_
  exact c_directionsOf_10 ha _ 0 rfl (Nat.zero_le _)
set_option maxRecDepth 100000 in
set_option maxHeartbeats 4000000 in
theorem c_directionCount_4 {ae ad : Nat → Nat} {sh : mSh} {σ : mSt} {l t : Nat} {g : Nat → Int32} (hl : mLaws ad sh l) (hL : lawR σ l g) (ht : t < 6) : ∀ (n i : Nat), (pcG g t) - i = n → i ≤ (pcG g t) → Ev RX1 cX1_directionCount 4 false (some .int) (mRm 2 0 0) ae (mEq (some (.int (dcF (σ.1 (l + 5)) (t * 6) (pcG g t)))) ad sh σ) 4 [some (.ref (ad l)), some (.int (nI t)), some (.int (dcF (σ.1 (l + 5)) (t * 6) i)), some (.int (nI i))] [] 0 0 ad sh σ := by
  intro n
  induction n with
  | zero =>
    intro i hn hi
    have e : i = (pcG g t) := by omega
    subst e
    refine ev_iload_3 dX1_directionCount_4 ?_
    refine ev_aload_0 dX1_directionCount_5 ?_
    refine ev_iload_1 dX1_directionCount_6 ?_
    refine cl_X1_83 (c_partsOf hl) hl.1 dX1_directionCount_7 rfl (Nat.le_of_ble_eq_true rfl) ?_
    rw [cellV_nI (by omega) ht, (hL.1 t ht).1]
    refine ev_icmp_ge (tgt := 38) dX1_directionCount_10 (by decide) (fun h10 => ?_) (fun h10 => absurd (Int32.le_refl _) h10)
    refine ev_iload_2 dX1_directionCount_38 ?_
    exact ev_iret dX1_directionCount_39 rfl rfl
  | succ n ih =>
    intro i hn hi
    have hlt : i < (pcG g t) := by omega
    refine ev_iload_3 dX1_directionCount_4 ?_
    refine ev_aload_0 dX1_directionCount_5 ?_
    refine ev_iload_1 dX1_directionCount_6 ?_
    refine cl_X1_83 (c_partsOf hl) hl.1 dX1_directionCount_7 rfl (Nat.le_of_ble_eq_true rfl) ?_
    rw [cellV_nI (by omega) ht, (hL.1 t ht).1]
    refine ev_icmp_ge (tgt := 38) dX1_directionCount_10 (by decide) (fun h10 => absurd h10 (by have h66 := (hL.1 t ht).2; exact nI_ge hlt (by omega))) (fun h10 => ?_)
    refine ev_iload_2 dX1_directionCount_13 ?_
    refine ev_aload_0 dX1_directionCount_14 ?_
    refine gf_X1_24 dX1_directionCount_15 hl.1 rfl ?_
    refine ev_iload_1 dX1_directionCount_18 ?_
    refine ev_bipush_6 dX1_directionCount_19 ?_
    refine ev_imul dX1_directionCount_21 ?_
    refine ev_iload_3 dX1_directionCount_22 ?_
    refine ev_iadd dX1_directionCount_23 ?_
    rw [show (6 : Int32) = nI 6 from rfl, nI_mul, nI_add]
    refine cl_X1_64 (c_cell hl.2.2.2.2.2.1 (by decide)) dX1_directionCount_24 rfl (Nat.le_of_ble_eq_true rfl) ?_
    have h66 := (hL.1 t ht).2
    rw [cellV_nI (by omega) (by omega)]
    refine cl_X1_87 c_popI dX1_directionCount_27 rfl (Nat.le_of_ble_eq_true rfl) ?_
    refine ev_iadd dX1_directionCount_30 ?_
    refine ev_istore_2 dX1_directionCount_31 rfl rfl ?_
    refine ev_iinc_3 (v := 1) dX1_directionCount_32 (by decide) rfl rfl ?_
    refine ev_goto (tgt := 4) dX1_directionCount_35 (by decide) ?_
    exact Ev.to (by rw [nI_1]; rfl) rfl rfl (ih (i + 1) (by omega) (by omega))
set_option maxRecDepth 100000 in
set_option maxHeartbeats 4000000 in
theorem c_directionCount {ae ad : Nat → Nat} {sh : mSh} {σ : mSt} {l t : Nat} {g : Nat → Int32} (hl : mLaws ad sh l) (hL : lawR σ l g) (ht : t < 6) : Ct yX1_directionCount cX1_directionCount 4 (some .int) 2 0 0 [.ref (ad l), .int (nI t)] ae ad sh σ (mEq (some (.int (dcF (σ.1 (l + 5)) (t * 6) (pcG g t)))) ad sh σ) := by
  refine Ct.ofL (own := RX1) (ini := false) (ls := [some (.ref (ad l)), some (.int (nI t)), none, none]) (by decide +kernel) rfl (fun h => by cases h) (Nat.le_of_ble_eq_true rfl) rfl ?_
  refine ev_iconst_0 dX1_directionCount_0 ?_
  refine ev_istore_2 dX1_directionCount_1 rfl rfl ?_
  refine ev_iconst_0 dX1_directionCount_2 ?_
  refine ev_istore_3 dX1_directionCount_3 rfl rfl ?_
  exact c_directionCount_4 hl hL ht _ 0 rfl (Nat.zero_le _)
