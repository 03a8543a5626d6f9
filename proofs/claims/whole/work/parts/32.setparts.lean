/-- i parts of the reader r have been set as the type t's -/
def setP (σ σ2 : mSt) (l r t i : Nat) (A : Nat → Nat) (U : Nat → Int32) : Prop := σ2.1 (l + 1) = U ∧ σ2.1 (l + 2) = layF (σ.1 (l + 2)) (σ.1 (r + 1)) (t * 6) i ∧ σ2.1 (l + 3) = layF (σ.1 (l + 3)) (σ.1 (r + 2)) (t * 6) i ∧ σ2.1 (l + 4) = layF (σ.1 (l + 4)) (σ.1 (r + 3)) (t * 6) i ∧ σ2.1 (l + 5) = layF (σ.1 (l + 5)) (fun k => dirM (A k) (σ.1 (r + 2) k)) (t * 6) i ∧ (∀ k, (k < l + 1 ∨ l + 5 < k) → σ2.1 k = σ.1 k) ∧ σ2.2 = σ.2
theorem setP.next {σ σ2 : mSt} {l r t i : Nat} {A : Nat → Nat} {U : Nat → Int32} (h : setP σ σ2 l r t i A U) : setP σ (mr (mr (mr (mr σ2.1 (l + 2) (upd (σ2.1 (l + 2)) (t * 6 + i) (σ.1 (r + 1) i))) (l + 3) (upd (σ2.1 (l + 3)) (t * 6 + i) (σ.1 (r + 2) i))) (l + 4) (upd (σ2.1 (l + 4)) (t * 6 + i) (σ.1 (r + 3) i))) (l + 5) (upd (σ2.1 (l + 5)) (t * 6 + i) (dirM (A i) (σ.1 (r + 2) i))), σ2.2) l r t (i + 1) A U := by
  obtain ⟨h1, h2, h3, h4, h5, hO, h0⟩ := h
  refine ⟨?_, ?_, ?_, ?_, ?_, fun k hk => ?_, h0⟩
  · dsimp only
    rw [mr_ne _ _ (by omega), mr_ne _ _ (by omega), mr_ne _ _ (by omega), mr_ne _ _ (by omega)]; exact h1
  · dsimp only
    rw [mr_ne _ _ (by omega), mr_ne _ _ (by omega), mr_ne _ _ (by omega), mr_at, h2]; exact layF_succ _ _ _ _
  · dsimp only
    rw [mr_ne _ _ (by omega), mr_ne _ _ (by omega), mr_at, h3]; exact layF_succ _ _ _ _
  · dsimp only
    rw [mr_ne _ _ (by omega), mr_at, h4]; exact layF_succ _ _ _ _
  · dsimp only
    rw [mr_at, h5]; exact layF_succ _ (fun k => dirM (A k) (σ.1 (r + 2) k)) _ _
  · dsimp only
    rw [mr_ne _ _ (by omega), mr_ne _ _ (by omega), mr_ne _ _ (by omega), mr_ne _ _ (by omega)]; exact hO k hk

set_option maxRecDepth 100000 in
set_option maxHeartbeats 4000000 in
theorem c_setParts_14 {ae ad : Nat → Nat} {sh : mSh} {σ : mSt} {l r t L : Nat} {A : Nat → Nat} (hl : mLaws ad sh l) (hr : mReader ad sh r) (hs : l + 9 < r ∨ r + 3 < l) (ht : t < 6) (hL6 : L ≤ 6) (hLr : σ.1 r 3 = nI L) (hA : ∀ i, i < L → σ.1 (r + 1) i = nI (A i) ∧ A i < 7) : ∀ (n i : Nat), L - i = n → i ≤ L → ∀ σ2 : mSt, setP σ σ2 l r t i A (upd (σ.1 (l + 1)) t (nI L)) → Ev RX1 cX1_setParts 7 false none (mRm 2 0 0) ae (mPv ad sh (fun σ' => setP σ σ' l r t L A (upd (σ.1 (l + 1)) t (nI L)))) 14 [some (.ref (ad l)), some (.int (nI t)), some (.ref (ad r)), some (.int (nI i)), none, none, none] [] 0 0 ad sh σ2 := by
  intro n
  induction n with
  | zero =>
    intro i hn hi σ2 hS
    have e : i = L := by omega
    subst e
    have hr3 : σ2.1 r 3 = nI i := by rw [hS.2.2.2.2.2.1 r (by omega)]; exact hLr
    refine ev_iload_3 dX1_setParts_14 ?_
    refine ev_aload_2 dX1_setParts_15 ?_
    refine gf_X1_54 dX1_setParts_16 hr.1 rfl ?_
    rw [hr3]
    refine ev_icmp_ge (tgt := 117) dX1_setParts_19 (by decide) (fun h19 => ?_) (fun h19 => absurd (Int32.le_refl _) h19)
    exact ev_pv dX1_setParts_117 hS
  | succ n ih =>
    intro i hn hi σ2 hS
    have hlt : i < L := by omega
    have hO := hS.2.2.2.2.2.1
    have hr3 : σ2.1 r 3 = nI L := by rw [hO r (by omega)]; exact hLr
    obtain ⟨hA1, hA2⟩ := hA i hlt
    refine ev_iload_3 dX1_setParts_14 ?_
    refine ev_aload_2 dX1_setParts_15 ?_
    refine gf_X1_54 dX1_setParts_16 hr.1 rfl ?_
    rw [hr3]
    refine ev_icmp_ge (tgt := 117) dX1_setParts_19 (by decide) (fun h19 => absurd h19 (nI_ge hlt (by omega))) (fun h19 => ?_)
    refine ev_iload_3 dX1_setParts_22 ?_
    refine ev_bipush_6 dX1_setParts_23 ?_
    refine ev_icmp_ge (tgt := 117) dX1_setParts_25 (by decide) (fun h25 => absurd h25 (nI_ge (b := 6) (by omega) (by decide))) (fun h25 => ?_)
    refine ev_iload_1 dX1_setParts_28 ?_
    refine ev_bipush_6 dX1_setParts_29 ?_
    refine ev_imul dX1_setParts_31 ?_
    refine ev_iload_3 dX1_setParts_32 ?_
    refine ev_iadd dX1_setParts_33 ?_
    rw [show (6 : Int32) = nI 6 from rfl, nI_mul, nI_add]
    refine ev_istore_4 dX1_setParts_34 rfl rfl ?_
    refine ev_aload_2 dX1_setParts_36 ?_
    refine gf_X1_63 dX1_setParts_37 hr.1 rfl ?_
    refine ev_iload_3 dX1_setParts_40 ?_
    refine cl_X1_64 (c_cell hr.2.1 (by decide)) dX1_setParts_41 rfl (Nat.le_of_ble_eq_true rfl) ?_
    rw [cellV_nI (by omega) (by omega), hO (r + 1) (by omega), hA1]
    refine ev_istore_5 dX1_setParts_44 rfl rfl ?_
    refine ev_aload_2 dX1_setParts_46 ?_
    refine gf_X1_68 dX1_setParts_47 hr.1 rfl ?_
    refine ev_iload_3 dX1_setParts_50 ?_
    refine cl_X1_64 (c_cell hr.2.2.1 (by decide)) dX1_setParts_51 rfl (Nat.le_of_ble_eq_true rfl) ?_
    rw [cellV_nI (by omega) (by omega), hO (r + 2) (by omega)]
    refine ev_istore_6 dX1_setParts_54 rfl rfl ?_
    refine ev_aload_0 dX1_setParts_56 ?_
    refine gf_X1_15 dX1_setParts_57 hl.1 rfl ?_
    refine ev_iload_4 dX1_setParts_60 ?_
    refine ev_iload_5 dX1_setParts_62 ?_
    refine cl_X1_59 (c_setCell hl.2.2.1 (by decide)) dX1_setParts_64 rfl (Nat.le_of_ble_eq_true rfl) ?_
    rw [setV_nI (by omega) (by omega)]
    refine ev_aload_0 dX1_setParts_67 ?_
    refine gf_X1_18 dX1_setParts_68 hl.1 rfl ?_
    refine ev_iload_4 dX1_setParts_71 ?_
    refine ev_iload_6 dX1_setParts_73 ?_
    refine cl_X1_59 (c_setCell hl.2.2.2.1 (by decide)) dX1_setParts_75 rfl (Nat.le_of_ble_eq_true rfl) ?_
    rw [setV_nI (by omega) (by omega)]
    dsimp only
    rw [mr_ne σ2.1 _ (show l + 3 ≠ l + 2 by omega)]
    refine ev_aload_0 dX1_setParts_78 ?_
    refine gf_X1_21 dX1_setParts_79 hl.1 rfl ?_
    refine ev_iload_4 dX1_setParts_82 ?_
    refine ev_aload_2 dX1_setParts_84 ?_
    refine gf_X1_69 dX1_setParts_85 hr.1 rfl ?_
    refine ev_iload_3 dX1_setParts_88 ?_
    refine cl_X1_64 (c_cell hr.2.2.2 (by decide)) dX1_setParts_89 rfl (Nat.le_of_ble_eq_true rfl) ?_
    dsimp only
    rw [cellV_nI (by omega) (by omega), mr_ne _ _ (show r + 3 ≠ l + 3 by omega), mr_ne _ _ (show r + 3 ≠ l + 2 by omega), hO (r + 3) (by omega)]
    refine cl_X1_59 (c_setCell hl.2.2.2.2.1 (by decide)) dX1_setParts_92 rfl (Nat.le_of_ble_eq_true rfl) ?_
    rw [setV_nI (by omega) (by omega)]
    dsimp only
    rw [mr_ne _ _ (show l + 4 ≠ l + 3 by omega), mr_ne _ _ (show l + 4 ≠ l + 2 by omega)]
    refine ev_aload_0 dX1_setParts_95 ?_
    refine gf_X1_24 dX1_setParts_96 hl.1 rfl ?_
    refine ev_iload_4 dX1_setParts_99 ?_
    refine ev_iload_5 dX1_setParts_101 ?_
    refine ev_iload_6 dX1_setParts_103 ?_
    refine cl_X1_70 (c_directionsOf hA2) dX1_setParts_105 rfl (Nat.le_of_ble_eq_true rfl) ?_
    refine cl_X1_59 (c_setCell hl.2.2.2.2.2.1 (by decide)) dX1_setParts_108 rfl (Nat.le_of_ble_eq_true rfl) ?_
    rw [setV_nI (by omega) (by omega)]
    dsimp only
    rw [mr_ne _ _ (show l + 5 ≠ l + 4 by omega), mr_ne _ _ (show l + 5 ≠ l + 3 by omega), mr_ne _ _ (show l + 5 ≠ l + 2 by omega), ← hA1]
    refine ev_iinc_3 (v := 1) dX1_setParts_111 (by decide) rfl rfl ?_
    refine ev_goto (tgt := 14) dX1_setParts_114 (by decide) ?_
    refine ev_drop_4 ?_
    refine ev_drop_5 ?_
    refine ev_drop_6 ?_
    exact Ev.to (by rw [nI_1]) rfl rfl (ih (i + 1) (by omega) (by omega) _ hS.next)
set_option maxRecDepth 100000 in
set_option maxHeartbeats 4000000 in
theorem c_setParts {ae ad : Nat → Nat} {sh : mSh} {σ : mSt} {l r t L : Nat} {A : Nat → Nat} (hl : mLaws ad sh l) (hr : mReader ad sh r) (hs : l + 9 < r ∨ r + 3 < l) (ht : t < 6) (hL6 : L ≤ 6) (hLr : σ.1 r 3 = nI L) (hA : ∀ i, i < L → σ.1 (r + 1) i = nI (A i) ∧ A i < 7) : Ct yX1_setParts cX1_setParts 7 none 2 0 0 [.ref (ad l), .int (nI t), .ref (ad r)] ae ad sh σ (mPv ad sh (fun σ' => setP σ σ' l r t L A (upd (σ.1 (l + 1)) t (nI L)))) := by
  refine Ct.ofL (own := RX1) (ini := false) (ls := [some (.ref (ad l)), some (.int (nI t)), some (.ref (ad r)), none, none, none, none]) (by decide +kernel) rfl (fun h => by cases h) (Nat.le_of_ble_eq_true rfl) rfl ?_
  refine ev_aload_0 dX1_setParts_0 ?_
  refine gf_X1_9 dX1_setParts_1 hl.1 rfl ?_
  refine ev_iload_1 dX1_setParts_4 ?_
  refine ev_aload_2 dX1_setParts_5 ?_
  refine gf_X1_54 dX1_setParts_6 hr.1 rfl ?_
  rw [hLr]
  refine cl_X1_59 (c_setCell hl.2.1 (by decide)) dX1_setParts_9 rfl (Nat.le_of_ble_eq_true rfl) ?_
  rw [setV_nI (by omega) ht]
  refine ev_iconst_0 dX1_setParts_12 ?_
  refine ev_istore_3 dX1_setParts_13 rfl rfl ?_
  refine c_setParts_14 hl hr hs ht hL6 hLr hA _ 0 rfl (Nat.zero_le _) _ ⟨mr_at _ _ _, ?_, ?_, ?_, ?_, fun k hk => mr_ne _ _ (by omega), rfl⟩
  · rw [layF_0]; exact mr_ne _ _ (by omega)
  · rw [layF_0]; exact mr_ne _ _ (by omega)
  · rw [layF_0]; exact mr_ne _ _ (by omega)
  · rw [layF_0]; exact mr_ne _ _ (by omega)
