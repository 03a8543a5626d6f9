theorem ss_le {T W : Nat → Int32} : ∀ (r n : Nat), ssF T W n r ≤ n + r
  | 0, n => Nat.le_refl _
  | r + 1, n => by
    rw [ssF]
    split
    · have := ss_le (T := T) (W := W) r (n + 1); omega
    · omega
/-- how far the line goes with the word k -/
def alF (T : Nat → Int32) (tl k : Nat) : Nat := ssF T (sgn k) 0 (min tl (slen k))
theorem al_le {T : Nat → Int32} {tl k : Nat} : alF T tl k ≤ tl := by have := ss_le (T := T) (W := sgn k) (min tl (slen k)) 0; unfold alF; omega
/-- the word that the line is, or how far it goes with one -/
def rdK (T : Nat → Int32) (tl : Nat) : Nat → Nat → Nat → Nat ⊕ Nat
  | 0, _, kn => .inr kn
  | f + 1, k, kn => if alF T tl k = tl ∧ alF T tl k = slen k then .inl k else rdK T tl f (k + 1) (max kn (alF T tl k))
def rdPost (σ : mSt) (r t tl : Nat) (q : Nat ⊕ Nat) (x : Int32) (σ' : mSt) : Prop := match q with
  | .inl k => ∃ σ1 : mSt, lineS σ σ1 t (7 + k) (slen (7 + k)) ∧ x = (rdZ σ1 r t (slen (7 + k))).1 ∧ rsR σ' r (rdZ σ1 r t (slen (7 + k))).2 ∧ frT σ1 σ' r
  | .inr kn => x = (if (rdZ σ r t tl).1 < 0 then (rdZ σ r t tl).1 else maxR (rdZ σ r t tl).1 (nI kn)) ∧ rsR σ' r (rdZ σ r t tl).2 ∧ frT σ σ' r
theorem rk_hit {T : Nat → Int32} {tl k kn : Nat} (h : k < 7) (e : alF T tl k = tl ∧ alF T tl k = slen k) : rdK T tl (7 - k) k kn = .inl k := by
  rw [show 7 - k = (7 - (k + 1)) + 1 by omega, rdK, if_pos e]
theorem rk_miss {T : Nat → Int32} {tl k kn : Nat} (h : k < 7) (e : ¬ (alF T tl k = tl ∧ alF T tl k = slen k)) : rdK T tl (7 - k) k kn = rdK T tl (7 - (k + 1)) (k + 1) (max kn (alF T tl k)) := by
  rw [show 7 - k = (7 - (k + 1)) + 1 by omega, rdK, if_neg e]
theorem slen60 : ∀ k, k < 7 → slen (7 + k) < 60 := by decide +kernel

set_option maxRecDepth 100000 in
set_option maxHeartbeats 4000000 in
theorem c_read_4 {ae ad : Nat → Nat} {sh : mSh} {σ : mSt} {r t tl : Nat} (hr : mReader ad sh r) (hp : mLine ad sh t) (hs : t + 1 < r ∨ r + 3 < t) (hL : σ.1 t 1 = nI tl) (hL2 : tl ≤ 60) {Q : Nat ⊕ Nat} : ∀ (n k kn : Nat), 7 - k = n → k ≤ 7 → kn < 100 → rdK (σ.1 (t + 1)) tl (7 - k) k kn = Q → Ev RX4 cX4_read 6 false (some .int) (mRm 5 0 0) ae (mPi ad sh (rdPost σ r t tl Q)) 4 [some (.ref (ad r)), some (.ref (ad t)), some (.int (nI kn)), some (.int (nI k)), none, none] [] 0 0 ad sh σ := by
  intro n
  induction n with
  | zero =>
    intro k kn hn hi hkn hQ
    have e : k = 7 := by omega
    subst e
    have hQ2 : Q = .inr kn := hQ.symm
    refine ev_iload_3 dX4_read_4 ?_
    refine ev_bipush_7 dX4_read_5 ?_
    refine ev_icmp_ge (tgt := 70) dX4_read_7 (by decide) (fun h7 => ?_) (fun h7 => absurd (by decide) h7)
    refine ev_aload_0 dX4_read_70 ?_
    refine ev_aload_1 dX4_read_71 ?_
    refine cg_X4_47 (c_readParts hr hp hs hL hL2) hr.1 dX4_read_72 rfl (Nat.le_of_ble_eq_true rfl) (fun r9 σ9 h9 => ?_)
    obtain ⟨e9, h9, f9⟩ := h9
    subst e9
    refine ev_istore_3 dX4_read_75 rfl rfl ?_
    refine ev_iload_3 dX4_read_76 ?_
    refine ev_if_ge (tgt := 84) dX4_read_77 (by decide) (fun h77 => ?_) (fun h77 => ?_)
    · refine ev_iload_3 dX4_read_84 ?_
      refine ev_iload_2 dX4_read_85 ?_
      refine ev_max lk_X4_51 (Nat.le_of_ble_eq_true rfl) (Nat.le_of_ble_eq_true rfl) (Nat.le_of_ble_eq_true rfl) (Nat.zero_le _) (Nat.zero_le _) dX4_read_86 ?_
      exact ev_pi dX4_read_89 (by rw [hQ2]; exact ⟨by first | exact (if_neg (Int32.not_lt.mpr h77)).symm | exact (if_pos (Int32.not_le.mp h77)).symm, h9, f9⟩)
    · refine ev_iload_3 dX4_read_80 ?_
      refine ev_goto (tgt := 89) dX4_read_81 (by decide) ?_
      exact ev_pi dX4_read_89 (by rw [hQ2]; exact ⟨by first | exact (if_neg (Int32.not_lt.mpr h77)).symm | exact (if_pos (Int32.not_le.mp h77)).symm, h9, f9⟩)
  | succ n ih =>
    intro k kn hn hi hkn hQ
    have hk : k < 7 := by omega
    have hk20 : k < 20 := by omega
    have hk27 : 7 + k < 20 := by omega
    have hal : alF (σ.1 (t + 1)) tl k ≤ tl := al_le
    have h100 := slen_le k hk20
    refine ev_iload_3 dX4_read_4 ?_
    refine ev_bipush_7 dX4_read_5 ?_
    refine ev_icmp_ge (tgt := 70) dX4_read_7 (by decide) (fun h7 => absurd h7 (nI_ge (b := 7) hk (by decide))) (fun h7 => ?_)
    refine ev_iload_3 dX4_read_10 ?_
    refine cl_X4_21 (c_wordOf hk) dX4_read_11 rfl (Nat.le_of_ble_eq_true rfl) ?_
    rw [Nat.zero_add]
    refine ev_astore_4 dX4_read_14 rfl rfl ?_
    refine ev_aload_1 dX4_read_16 ?_
    refine ev_aload_4 dX4_read_17 ?_
    refine cl_X4_25 (c_sameSigns hk20 hp hL hL2) dX4_read_19 rfl (Nat.le_of_ble_eq_true rfl) ?_
    rw [show ssF (σ.1 (t + 1)) (sgn k) 0 (min tl (slen k)) = alF (σ.1 (t + 1)) tl k from rfl]
    refine ev_istore_5 dX4_read_22 rfl rfl ?_
    refine ev_iload_5 dX4_read_24 ?_
    refine ev_aload_1 dX4_read_26 ?_
    refine gf_X4_29 dX4_read_27 hp.1 rfl ?_
    rw [hL]
    refine ev_icmp_ne (tgt := 57) dX4_read_30 (by decide) (fun h30 => ?_) (fun h30 => ?_)
    · refine ev_iload_2 dX4_read_57 ?_
      refine ev_iload_5 dX4_read_58 ?_
      refine ev_max lk_X4_51 (Nat.le_of_ble_eq_true rfl) (Nat.le_of_ble_eq_true rfl) (Nat.le_of_ble_eq_true rfl) (Nat.zero_le _) (Nat.zero_le _) dX4_read_60 ?_
      refine ev_istore_2 dX4_read_63 rfl rfl ?_
      refine ev_iinc_3 (v := 1) dX4_read_64 (by decide) rfl rfl ?_
      refine ev_goto (tgt := 4) dX4_read_67 (by decide) ?_
      have hne : ¬ (alF (σ.1 (t + 1)) tl k = tl ∧ alF (σ.1 (t + 1)) tl k = slen k) := fun z => by first | exact h30 (by rw [z.1]) | exact h40 (by rw [z.2])
      refine ev_drop_4 ?_
      refine ev_drop_5 ?_
      exact Ev.to (by rw [maxR_nI (by omega) (by omega), nI_1]) rfl rfl (ih (k + 1) (max kn (alF (σ.1 (t + 1)) tl k)) (by omega) (by omega) (by omega) ((rk_miss hk hne).symm.trans hQ))
    · refine ev_iload_5 dX4_read_33 ?_
      refine ev_aload_4 dX4_read_35 ?_
      refine ct_X4_35 (c_strlen hk20) hk20 dX4_read_37 rfl (Nat.le_of_ble_eq_true rfl) ?_
      refine ev_icmp_ne (tgt := 57) dX4_read_40 (by decide) (fun h40 => ?_) (fun h40 => ?_)
      · refine ev_iload_2 dX4_read_57 ?_
        refine ev_iload_5 dX4_read_58 ?_
        refine ev_max lk_X4_51 (Nat.le_of_ble_eq_true rfl) (Nat.le_of_ble_eq_true rfl) (Nat.le_of_ble_eq_true rfl) (Nat.zero_le _) (Nat.zero_le _) dX4_read_60 ?_
        refine ev_istore_2 dX4_read_63 rfl rfl ?_
        refine ev_iinc_3 (v := 1) dX4_read_64 (by decide) rfl rfl ?_
        refine ev_goto (tgt := 4) dX4_read_67 (by decide) ?_
        have hne : ¬ (alF (σ.1 (t + 1)) tl k = tl ∧ alF (σ.1 (t + 1)) tl k = slen k) := fun z => by first | exact h30 (by rw [z.1]) | exact h40 (by rw [z.2])
        refine ev_drop_4 ?_
        refine ev_drop_5 ?_
        exact Ev.to (by rw [maxR_nI (by omega) (by omega), nI_1]) rfl rfl (ih (k + 1) (max kn (alF (σ.1 (t + 1)) tl k)) (by omega) (by omega) (by omega) ((rk_miss hk hne).symm.trans hQ))
      · refine ev_aload_1 dX4_read_43 ?_
        refine ev_iload_3 dX4_read_44 ?_
        refine cl_X4_40 (c_meaningOf hk) dX4_read_45 rfl (Nat.le_of_ble_eq_true rfl) ?_
        skip
        refine cg_X4_43 (c_replace hk27 (slen60 k hk) hp) dX4_read_48 rfl (Nat.le_of_ble_eq_true rfl) (fun σ8 h8 => ?_)
        refine ev_aload_0 dX4_read_51 ?_
        refine ev_aload_1 dX4_read_52 ?_
        refine cg_X4_47 (c_readParts hr hp hs h8.1 (by have := slen60 k hk; omega)) hr.1 dX4_read_53 rfl (Nat.le_of_ble_eq_true rfl) (fun r9 σ9 h9 => ?_)
        obtain ⟨e9, h9, f9⟩ := h9
        subst e9
        have hhit := (rk_hit (kn := kn) hk ⟨(nI_eq (by omega) (by omega)).mp h30, (nI_eq (by omega) (by omega)).mp h40⟩).symm.trans hQ
        exact ev_pi dX4_read_56 (by rw [← hhit]; exact ⟨σ8, h8, rfl, h9, f9⟩)
set_option maxRecDepth 100000 in
set_option maxHeartbeats 4000000 in
theorem c_read {ae ad : Nat → Nat} {sh : mSh} {σ : mSt} {r t tl : Nat} (hr : mReader ad sh r) (hp : mLine ad sh t) (hs : t + 1 < r ∨ r + 3 < t) (hL : σ.1 t 1 = nI tl) (hL2 : tl ≤ 60) : Ct yX4_read cX4_read 6 (some .int) 5 0 0 [.ref (ad r), .ref (ad t)] ae ad sh σ (mPi ad sh (rdPost σ r t tl (rdK (σ.1 (t + 1)) tl 7 0 0))) := by
  refine Ct.ofL (own := RX4) (ini := false) (ls := [some (.ref (ad r)), some (.ref (ad t)), none, none, none, none]) (by decide +kernel) rfl (fun h => by cases h) (Nat.le_of_ble_eq_true rfl) rfl ?_
  refine ev_iconst_0 dX4_read_0 ?_
  refine ev_istore_2 dX4_read_1 rfl rfl ?_
  refine ev_iconst_0 dX4_read_2 ?_
  refine ev_istore_3 dX4_read_3 rfl rfl ?_
  exact c_read_4 hr hp hs hL hL2 _ 0 0 rfl (Nat.zero_le _) (by decide) rfl
