/-- how many squares a man of White of the type t reaches from q on an empty board -/
def frdF (g : Nat → Int32) (t q : Nat) : Int32 := popL (setL (tgtG (emG g (updN (fun _ => 0) q (1 + t))) q))
def mxF (f : Nat → Int32) : Nat → Int32
  | 0 => 0
  | n + 1 => maxR (mxF f n) (f n)
theorem sep523 : sepL 5 23 := by unfold sepL; omega
theorem updN_le {q m N : Nat} (hq : q < N) (hm : m ≤ 12) : ∀ k, k < 36 → updN (fun _ => 0) q m k ≤ 12 ∧ (N ≤ k → updN (fun _ => 0) q m k = 0) := fun k _ => by
  show (if k = q then m else 0) ≤ 12 ∧ (N ≤ k → (if k = q then m else 0) = 0)
  exact ⟨by split <;> omega, fun h => if_neg (by omega)⟩
theorem one_R {σ : mSt} {p i t : Nat} {g : Nat → Int32} (h : posQ σ p (updN (fun _ => 0) i (1 + t)) (fun _ => 0) (g 53) (g 54) 0 0) : posR σ p (emG g (updN (fun _ => 0) i (1 + t))) :=
  h.toR (fun _ hq => em_sq hq) (fun _ hi => em_0 (by omega) (by omega)) (em_hi 53 (by decide)).symm (em_hi 54 (by decide)).symm rfl

set_option maxRecDepth 100000 in
set_option maxHeartbeats 4000000 in
theorem c_most_25 {ae ad : Nat → Nat} {sh : mSh} {σ : mSt} {g : Nat → Int32} (hb : mBoard ad sh) (hG : wfP g) (hL : lawR σ 5 g) {t : Nat} (ht : t < 6) {P : Int32 → mSt → Prop} (hE : ∀ σ', frP σ σ' 23 → P (mxF (frdF g t) (cN g * rN g)) σ') : ∀ (n i : Nat), cN g * rN g - i = n → i ≤ cN g * rN g → ∀ σ2 : mSt, frP σ σ2 23 → posQ σ2 23 (fun _ => 0) (fun _ => 0) (g 53) (g 54) 0 0 → Ev RX9 cX9_mostMovesAlone 4 false (some .int) (mRm 3 0 0) ae (mPi ad sh P) 25 [some (.ref (ad 0)), some (.int (nI t)), some (.int (mxF (frdF g t) i)), some (.int (nI i))] [] 0 0 ad sh σ2 := by
  have h36 := sq36 hG
  intro n
  induction n with
  | zero =>
    intro i hn hi σ2 hF hQ
    have e : i = cN g * rN g := by omega
    subst e
    refine ev_iload_3 dX9_mostMovesAlone_25 ?_
    refine ev_aload_0 dX9_mostMovesAlone_26 ?_
    refine gf_X9_51 dX9_mostMovesAlone_27 hb.1 rfl ?_
    refine cl_X9_105 (c_squares hb.2.2.2.2.2.2.2.1) hb.2.2.2.2.2.2.2.1.1 dX9_mostMovesAlone_30 rfl (Nat.le_of_ble_eq_true rfl) ?_
    rw [hQ.2.2.1, hQ.2.2.2.1, hG.1.1, hG.2.1.1, nI_mul]
    refine ev_icmp_ge (tgt := 84) dX9_mostMovesAlone_33 (by decide) (fun h33 => ?_) (fun h33 => absurd (Int32.le_refl _) h33)
    refine ev_iload_2 dX9_mostMovesAlone_84 ?_
    exact ev_pi dX9_mostMovesAlone_85 (hE _ hF)
  | succ n ih =>
    intro i hn hi σ2 hF hQ
    have hlt : i < cN g * rN g := by omega
    have q1 := hQ.put (q := i) (m := 1 + t) (by omega) (by omega)
    refine ev_iload_3 dX9_mostMovesAlone_25 ?_
    refine ev_aload_0 dX9_mostMovesAlone_26 ?_
    refine gf_X9_51 dX9_mostMovesAlone_27 hb.1 rfl ?_
    refine cl_X9_105 (c_squares hb.2.2.2.2.2.2.2.1) hb.2.2.2.2.2.2.2.1.1 dX9_mostMovesAlone_30 rfl (Nat.le_of_ble_eq_true rfl) ?_
    rw [hQ.2.2.1, hQ.2.2.2.1, hG.1.1, hG.2.1.1, nI_mul]
    refine ev_icmp_ge (tgt := 84) dX9_mostMovesAlone_33 (by decide) (fun h33 => absurd h33 (nI_ge hlt (by omega))) (fun h33 => ?_)
    refine ev_aload_0 dX9_mostMovesAlone_36 ?_
    refine gf_X9_51 dX9_mostMovesAlone_37 hb.1 rfl ?_
    refine ev_iload_3 dX9_mostMovesAlone_40 ?_
    refine ev_iconst_0 dX9_mostMovesAlone_41 ?_
    refine ev_iload_1 dX9_mostMovesAlone_42 ?_
    refine cl_X9_366 c_manOf dX9_mostMovesAlone_43 rfl (Nat.le_of_ble_eq_true rfl) ?_
    rw [show manR 0 (nI t) = nI (1 + t) from manR_nI (s := 0)]
    refine cl_X9_369 (c_put hb.2.2.2.2.2.2.2.1) hb.2.2.2.2.2.2.2.1.1 dX9_mostMovesAlone_46 rfl (Nat.le_of_ble_eq_true rfl) ?_
    refine ev_iload_2 dX9_mostMovesAlone_49 ?_
    refine ev_aload_0 dX9_mostMovesAlone_50 ?_
    refine gf_X9_33 dX9_mostMovesAlone_51 hb.1 rfl ?_
    refine ev_aload_0 dX9_mostMovesAlone_54 ?_
    refine gf_X9_51 dX9_mostMovesAlone_55 hb.1 rfl ?_
    refine ev_iload_3 dX9_mostMovesAlone_58 ?_
    refine cl_X9_249 (c_targets hb.2.2.2.2.1 hb.2.2.2.2.2.2.2.1 (em_wfP hG (updN_le (m := 1 + t) hlt (by omega))) (one_R q1) (lawR_hi (fun i hi _ _ => em_hi i (by omega)) (hL.fr (hF.tr frP.put) sep523)) (by omega) (by rw [em_mN (by omega) (updN_le (m := 1 + t) hlt (by omega) i (by omega)).1]; unfold updN; rw [if_pos rfl]; omega)) hb.2.2.2.2.1.1 dX9_mostMovesAlone_59 rfl (Nat.le_of_ble_eq_true rfl) ?_
    refine cl_X9_372 c_popL dX9_mostMovesAlone_62 rfl (Nat.le_of_ble_eq_true rfl) ?_
    refine ev_max lk_X9_375 (Nat.le_of_ble_eq_true rfl) (Nat.le_of_ble_eq_true rfl) (Nat.le_of_ble_eq_true rfl) (Nat.zero_le _) (Nat.zero_le _) dX9_mostMovesAlone_65 ?_
    refine ev_istore_2 dX9_mostMovesAlone_68 rfl rfl ?_
    refine ev_aload_0 dX9_mostMovesAlone_69 ?_
    refine gf_X9_51 dX9_mostMovesAlone_70 hb.1 rfl ?_
    refine ev_iload_3 dX9_mostMovesAlone_73 ?_
    refine ev_iconst_0 dX9_mostMovesAlone_74 ?_
    refine cl_X9_369 (c_put hb.2.2.2.2.2.2.2.1) hb.2.2.2.2.2.2.2.1.1 dX9_mostMovesAlone_75 rfl (Nat.le_of_ble_eq_true rfl) ?_
    refine ev_iinc_3 (v := 1) dX9_mostMovesAlone_78 (by decide) rfl rfl ?_
    refine ev_goto (tgt := 25) dX9_mostMovesAlone_81 (by decide) ?_
    have q2 := q1.put (q := i) (m := 0) (by omega) (by decide)
    exact Ev.to (by rw [nI_1]; rfl) rfl rfl (ih (i + 1) (by omega) (by omega) _ ((hF.tr frP.put).tr frP.put) (q2.cong (by funext k; unfold updN; split <;> simp) rfl))
set_option maxRecDepth 100000 in
set_option maxHeartbeats 4000000 in
theorem c_most {ae ad : Nat → Nat} {sh : mSh} {σ : mSt} {g : Nat → Int32} (hb : mBoard ad sh) (hG : wfP g) (hL : lawR σ 5 g) {t : Nat} (ht : t < 6) (hP : posR σ 20 g) : Ct yX9_mostMovesAlone cX9_mostMovesAlone 4 (some .int) 3 0 0 [.ref (ad 0), .int (nI t)] ae ad sh σ (mPi ad sh (fun x σ' => x = mxF (frdF g t) (cN g * rN g) ∧ frP σ σ' 23)) := by
  refine Ct.ofL (own := RX9) (ini := false) (ls := [some (.ref (ad 0)), some (.int (nI t)), none, none]) (by decide +kernel) rfl (fun h => by cases h) (Nat.le_of_ble_eq_true rfl) rfl ?_
  refine ev_aload_0 dX9_mostMovesAlone_0 ?_
  refine gf_X9_51 dX9_mostMovesAlone_1 hb.1 rfl ?_
  refine ev_aload_0 dX9_mostMovesAlone_4 ?_
  refine gf_X9_47 dX9_mostMovesAlone_5 hb.1 rfl ?_
  refine gf_X9_148 dX9_mostMovesAlone_8 hb.2.2.2.2.2.2.1.1 rfl ?_
  refine ev_aload_0 dX9_mostMovesAlone_11 ?_
  refine gf_X9_47 dX9_mostMovesAlone_12 hb.1 rfl ?_
  refine gf_X9_151 dX9_mostMovesAlone_15 hb.2.2.2.2.2.2.1.1 rfl ?_
  refine cl_X9_98 (c_empty hb.2.2.2.2.2.2.2.1) hb.2.2.2.2.2.2.2.1.1 dX9_mostMovesAlone_18 rfl (Nat.le_of_ble_eq_true rfl) ?_
  refine ev_iconst_0 dX9_mostMovesAlone_21 ?_
  refine ev_istore_2 dX9_mostMovesAlone_22 rfl rfl ?_
  refine ev_iconst_0 dX9_mostMovesAlone_23 ?_
  refine ev_istore_3 dX9_mostMovesAlone_24 rfl rfl ?_
  have e : posQ (emS σ 23 (σ.1 20 2) (σ.1 20 3)) 23 (fun _ => 0) (fun _ => 0) (g 53) (g 54) 0 0 := by
    rw [← hP.2.2.1, ← hP.2.2.2.1]; exact emS_Q
  exact c_most_25 hb hG hL ht (fun _ f => ⟨rfl, f⟩) _ 0 rfl (Nat.zero_le _) _ emS_fr e
