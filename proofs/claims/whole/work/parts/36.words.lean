set_option maxRecDepth 100000 in
set_option maxHeartbeats 4000000 in
theorem c_wordOf0 {ae ad : Nat → Nat} {sh : mSh} {σ : mSt}  : Ct yX4_wordOf cX4_wordOf 1 (some (.object "java/lang/String")) 0 0 0 [.int (nI 0)] ae ad sh σ (mEq (some (.ref (ae (100 + 0)))) ad sh σ) := by
  refine Ct.ofL (own := RX4) (ini := false) (ls := [some (.int (nI 0))]) (by decide +kernel) rfl (fun h => by cases h) (Nat.le_of_ble_eq_true rfl) rfl ?_
  refine ev_iload_0 dX4_wordOf_0 ?_
  refine ev_tableIn (off := 39) (tgt := 40) dX4_wordOf_1 (by decide) (by decide) (by decide) (by decide) ?_
  refine ev_ldcs (q := 0) rfl dX4_wordOf_40 ?_
  exact ev_areturn dX4_wordOf_42
set_option maxRecDepth 100000 in
set_option maxHeartbeats 4000000 in
theorem c_wordOf1 {ae ad : Nat → Nat} {sh : mSh} {σ : mSt}  : Ct yX4_wordOf cX4_wordOf 1 (some (.object "java/lang/String")) 0 0 0 [.int (nI 1)] ae ad sh σ (mEq (some (.ref (ae (100 + 1)))) ad sh σ) := by
  refine Ct.ofL (own := RX4) (ini := false) (ls := [some (.int (nI 1))]) (by decide +kernel) rfl (fun h => by cases h) (Nat.le_of_ble_eq_true rfl) rfl ?_
  refine ev_iload_0 dX4_wordOf_0 ?_
  refine ev_tableIn (off := 42) (tgt := 43) dX4_wordOf_1 (by decide) (by decide) (by decide) (by decide) ?_
  refine ev_ldcs (q := 1) rfl dX4_wordOf_43 ?_
  exact ev_areturn dX4_wordOf_45
set_option maxRecDepth 100000 in
set_option maxHeartbeats 4000000 in
theorem c_wordOf2 {ae ad : Nat → Nat} {sh : mSh} {σ : mSt}  : Ct yX4_wordOf cX4_wordOf 1 (some (.object "java/lang/String")) 0 0 0 [.int (nI 2)] ae ad sh σ (mEq (some (.ref (ae (100 + 2)))) ad sh σ) := by
  refine Ct.ofL (own := RX4) (ini := false) (ls := [some (.int (nI 2))]) (by decide +kernel) rfl (fun h => by cases h) (Nat.le_of_ble_eq_true rfl) rfl ?_
  refine ev_iload_0 dX4_wordOf_0 ?_
  refine ev_tableIn (off := 45) (tgt := 46) dX4_wordOf_1 (by decide) (by decide) (by decide) (by decide) ?_
  refine ev_ldcs (q := 2) rfl dX4_wordOf_46 ?_
  exact ev_areturn dX4_wordOf_48
set_option maxRecDepth 100000 in
set_option maxHeartbeats 4000000 in
theorem c_wordOf3 {ae ad : Nat → Nat} {sh : mSh} {σ : mSt}  : Ct yX4_wordOf cX4_wordOf 1 (some (.object "java/lang/String")) 0 0 0 [.int (nI 3)] ae ad sh σ (mEq (some (.ref (ae (100 + 3)))) ad sh σ) := by
  refine Ct.ofL (own := RX4) (ini := false) (ls := [some (.int (nI 3))]) (by decide +kernel) rfl (fun h => by cases h) (Nat.le_of_ble_eq_true rfl) rfl ?_
  refine ev_iload_0 dX4_wordOf_0 ?_
  refine ev_tableIn (off := 48) (tgt := 49) dX4_wordOf_1 (by decide) (by decide) (by decide) (by decide) ?_
  refine ev_ldcs (q := 3) rfl dX4_wordOf_49 ?_
  exact ev_areturn dX4_wordOf_51
set_option maxRecDepth 100000 in
set_option maxHeartbeats 4000000 in
theorem c_wordOf4 {ae ad : Nat → Nat} {sh : mSh} {σ : mSt}  : Ct yX4_wordOf cX4_wordOf 1 (some (.object "java/lang/String")) 0 0 0 [.int (nI 4)] ae ad sh σ (mEq (some (.ref (ae (100 + 4)))) ad sh σ) := by
  refine Ct.ofL (own := RX4) (ini := false) (ls := [some (.int (nI 4))]) (by decide +kernel) rfl (fun h => by cases h) (Nat.le_of_ble_eq_true rfl) rfl ?_
  refine ev_iload_0 dX4_wordOf_0 ?_
  refine ev_tableIn (off := 51) (tgt := 52) dX4_wordOf_1 (by decide) (by decide) (by decide) (by decide) ?_
  refine ev_ldcs (q := 4) rfl dX4_wordOf_52 ?_
  exact ev_areturn dX4_wordOf_54
set_option maxRecDepth 100000 in
set_option maxHeartbeats 4000000 in
theorem c_wordOf5 {ae ad : Nat → Nat} {sh : mSh} {σ : mSt}  : Ct yX4_wordOf cX4_wordOf 1 (some (.object "java/lang/String")) 0 0 0 [.int (nI 5)] ae ad sh σ (mEq (some (.ref (ae (100 + 5)))) ad sh σ) := by
  refine Ct.ofL (own := RX4) (ini := false) (ls := [some (.int (nI 5))]) (by decide +kernel) rfl (fun h => by cases h) (Nat.le_of_ble_eq_true rfl) rfl ?_
  refine ev_iload_0 dX4_wordOf_0 ?_
  refine ev_tableIn (off := 54) (tgt := 55) dX4_wordOf_1 (by decide) (by decide) (by decide) (by decide) ?_
  refine ev_ldcs (q := 5) rfl dX4_wordOf_55 ?_
  exact ev_areturn dX4_wordOf_57
set_option maxRecDepth 100000 in
set_option maxHeartbeats 4000000 in
theorem c_wordOf6 {ae ad : Nat → Nat} {sh : mSh} {σ : mSt}  : Ct yX4_wordOf cX4_wordOf 1 (some (.object "java/lang/String")) 0 0 0 [.int (nI 6)] ae ad sh σ (mEq (some (.ref (ae (100 + 6)))) ad sh σ) := by
  refine Ct.ofL (own := RX4) (ini := false) (ls := [some (.int (nI 6))]) (by decide +kernel) rfl (fun h => by cases h) (Nat.le_of_ble_eq_true rfl) rfl ?_
  refine ev_iload_0 dX4_wordOf_0 ?_
  refine ev_tableOut (tgt := 58) dX4_wordOf_1 (by decide) (by decide) ?_
  refine ev_ldcs (q := 6) rfl dX4_wordOf_58 ?_
  exact ev_areturn dX4_wordOf_60
theorem c_wordOf {ae ad : Nat → Nat} {sh : mSh} {σ : mSt} : ∀ {k : Nat}, k < 7 → Ct yX4_wordOf cX4_wordOf 1 (some (.object "java/lang/String")) 0 0 0 [.int (nI k)] ae ad sh σ (mEq (some (.ref (ae (100 + (0 + k))))) ad sh σ)
  | 0, _ => c_wordOf0
  | 1, _ => c_wordOf1
  | 2, _ => c_wordOf2
  | 3, _ => c_wordOf3
  | 4, _ => c_wordOf4
  | 5, _ => c_wordOf5
  | 6, _ => c_wordOf6
  | n + 7, h => absurd h (by omega)
set_option maxRecDepth 100000 in
set_option maxHeartbeats 4000000 in
theorem c_meaningOf0 {ae ad : Nat → Nat} {sh : mSh} {σ : mSt}  : Ct yX4_meaningOf cX4_meaningOf 1 (some (.object "java/lang/String")) 0 0 0 [.int (nI 0)] ae ad sh σ (mEq (some (.ref (ae (100 + 7)))) ad sh σ) := by
  refine Ct.ofL (own := RX4) (ini := false) (ls := [some (.int (nI 0))]) (by decide +kernel) rfl (fun h => by cases h) (Nat.le_of_ble_eq_true rfl) rfl ?_
  refine ev_iload_0 dX4_meaningOf_0 ?_
  refine ev_tableIn (off := 39) (tgt := 40) dX4_meaningOf_1 (by decide) (by decide) (by decide) (by decide) ?_
  refine ev_ldcs (q := 7) rfl dX4_meaningOf_40 ?_
  exact ev_areturn dX4_meaningOf_42
set_option maxRecDepth 100000 in
set_option maxHeartbeats 4000000 in
theorem c_meaningOf1 {ae ad : Nat → Nat} {sh : mSh} {σ : mSt}  : Ct yX4_meaningOf cX4_meaningOf 1 (some (.object "java/lang/String")) 0 0 0 [.int (nI 1)] ae ad sh σ (mEq (some (.ref (ae (100 + 8)))) ad sh σ) := by
  refine Ct.ofL (own := RX4) (ini := false) (ls := [some (.int (nI 1))]) (by decide +kernel) rfl (fun h => by cases h) (Nat.le_of_ble_eq_true rfl) rfl ?_
  refine ev_iload_0 dX4_meaningOf_0 ?_
  refine ev_tableIn (off := 42) (tgt := 43) dX4_meaningOf_1 (by decide) (by decide) (by decide) (by decide) ?_
  refine ev_ldcs (q := 8) rfl dX4_meaningOf_43 ?_
  exact ev_areturn dX4_meaningOf_45
set_option maxRecDepth 100000 in
set_option maxHeartbeats 4000000 in
theorem c_meaningOf2 {ae ad : Nat → Nat} {sh : mSh} {σ : mSt}  : Ct yX4_meaningOf cX4_meaningOf 1 (some (.object "java/lang/String")) 0 0 0 [.int (nI 2)] ae ad sh σ (mEq (some (.ref (ae (100 + 9)))) ad sh σ) := by
  refine Ct.ofL (own := RX4) (ini := false) (ls := [some (.int (nI 2))]) (by decide +kernel) rfl (fun h => by cases h) (Nat.le_of_ble_eq_true rfl) rfl ?_
  refine ev_iload_0 dX4_meaningOf_0 ?_
  refine ev_tableIn (off := 45) (tgt := 46) dX4_meaningOf_1 (by decide) (by decide) (by decide) (by decide) ?_
  refine ev_ldcs (q := 9) rfl dX4_meaningOf_46 ?_
  exact ev_areturn dX4_meaningOf_48
set_option maxRecDepth 100000 in
set_option maxHeartbeats 4000000 in
theorem c_meaningOf3 {ae ad : Nat → Nat} {sh : mSh} {σ : mSt}  : Ct yX4_meaningOf cX4_meaningOf 1 (some (.object "java/lang/String")) 0 0 0 [.int (nI 3)] ae ad sh σ (mEq (some (.ref (ae (100 + 10)))) ad sh σ) := by
  refine Ct.ofL (own := RX4) (ini := false) (ls := [some (.int (nI 3))]) (by decide +kernel) rfl (fun h => by cases h) (Nat.le_of_ble_eq_true rfl) rfl ?_
  refine ev_iload_0 dX4_meaningOf_0 ?_
  refine ev_tableIn (off := 48) (tgt := 49) dX4_meaningOf_1 (by decide) (by decide) (by decide) (by decide) ?_
  refine ev_ldcs (q := 10) rfl dX4_meaningOf_49 ?_
  exact ev_areturn dX4_meaningOf_51
set_option maxRecDepth 100000 in
set_option maxHeartbeats 4000000 in
theorem c_meaningOf4 {ae ad : Nat → Nat} {sh : mSh} {σ : mSt}  : Ct yX4_meaningOf cX4_meaningOf 1 (some (.object "java/lang/String")) 0 0 0 [.int (nI 4)] ae ad sh σ (mEq (some (.ref (ae (100 + 11)))) ad sh σ) := by
  refine Ct.ofL (own := RX4) (ini := false) (ls := [some (.int (nI 4))]) (by decide +kernel) rfl (fun h => by cases h) (Nat.le_of_ble_eq_true rfl) rfl ?_
  refine ev_iload_0 dX4_meaningOf_0 ?_
  refine ev_tableIn (off := 51) (tgt := 52) dX4_meaningOf_1 (by decide) (by decide) (by decide) (by decide) ?_
  refine ev_ldcs (q := 11) rfl dX4_meaningOf_52 ?_
  exact ev_areturn dX4_meaningOf_54
set_option maxRecDepth 100000 in
set_option maxHeartbeats 4000000 in
theorem c_meaningOf5 {ae ad : Nat → Nat} {sh : mSh} {σ : mSt}  : Ct yX4_meaningOf cX4_meaningOf 1 (some (.object "java/lang/String")) 0 0 0 [.int (nI 5)] ae ad sh σ (mEq (some (.ref (ae (100 + 12)))) ad sh σ) := by
  refine Ct.ofL (own := RX4) (ini := false) (ls := [some (.int (nI 5))]) (by decide +kernel) rfl (fun h => by cases h) (Nat.le_of_ble_eq_true rfl) rfl ?_
  refine ev_iload_0 dX4_meaningOf_0 ?_
  refine ev_tableIn (off := 54) (tgt := 55) dX4_meaningOf_1 (by decide) (by decide) (by decide) (by decide) ?_
  refine ev_ldcs (q := 12) rfl dX4_meaningOf_55 ?_
  exact ev_areturn dX4_meaningOf_57
set_option maxRecDepth 100000 in
set_option maxHeartbeats 4000000 in
theorem c_meaningOf6 {ae ad : Nat → Nat} {sh : mSh} {σ : mSt}  : Ct yX4_meaningOf cX4_meaningOf 1 (some (.object "java/lang/String")) 0 0 0 [.int (nI 6)] ae ad sh σ (mEq (some (.ref (ae (100 + 13)))) ad sh σ) := by
  refine Ct.ofL (own := RX4) (ini := false) (ls := [some (.int (nI 6))]) (by decide +kernel) rfl (fun h => by cases h) (Nat.le_of_ble_eq_true rfl) rfl ?_
  refine ev_iload_0 dX4_meaningOf_0 ?_
  refine ev_tableOut (tgt := 58) dX4_meaningOf_1 (by decide) (by decide) ?_
  refine ev_ldcs (q := 13) rfl dX4_meaningOf_58 ?_
  exact ev_areturn dX4_meaningOf_60
theorem c_meaningOf {ae ad : Nat → Nat} {sh : mSh} {σ : mSt} : ∀ {k : Nat}, k < 7 → Ct yX4_meaningOf cX4_meaningOf 1 (some (.object "java/lang/String")) 0 0 0 [.int (nI k)] ae ad sh σ (mEq (some (.ref (ae (100 + (7 + k))))) ad sh σ)
  | 0, _ => c_meaningOf0
  | 1, _ => c_meaningOf1
  | 2, _ => c_meaningOf2
  | 3, _ => c_meaningOf3
  | 4, _ => c_meaningOf4
  | 5, _ => c_meaningOf5
  | 6, _ => c_meaningOf6
  | n + 7, h => absurd h (by omega)
/-- how far T and W go on alike from n on, r places at the most -/
def ssF (T W : Nat → Int32) : Nat → Nat → Nat
  | n, 0 => n
  | n, r + 1 => if T n = W n then ssF T W (n + 1) r else n
theorem ss_eq {T W : Nat → Int32} {n M : Nat} (h : n < M) (e : T n = W n) : ssF T W n (M - n) = ssF T W (n + 1) (M - (n + 1)) := by
  rw [show M - n = (M - (n + 1)) + 1 by omega, ssF, if_pos e]
theorem ss_ne {T W : Nat → Int32} {n M : Nat} (h : n < M) (e : ¬ T n = W n) : ssF T W n (M - n) = n := by
  rw [show M - n = (M - (n + 1)) + 1 by omega, ssF, if_neg e]
theorem ss_end {T W : Nat → Int32} {n M : Nat} (h : M ≤ n) : ssF T W n (M - n) = n := by
  rw [show M - n = 0 by omega]; rfl

set_option maxRecDepth 100000 in
set_option maxHeartbeats 4000000 in
theorem c_ss_2 {ae ad : Nat → Nat} {sh : mSh} {σ : mSt} {i t tl : Nat} (hi : i < 20) (hp : mLine ad sh t) (hL : σ.1 t 1 = nI tl) (hL2 : tl ≤ 60) : ∀ (n k0 : Nat), min tl (slen i) - k0 = n → k0 ≤ min tl (slen i) → Ev RX4 cX4_sameSigns 3 false (some .int) (mRm 4 0 0) ae (mEq (some (.int (nI (ssF (σ.1 (t + 1)) (sgn i) k0 (min tl (slen i) - k0))))) ad sh σ) 2 [some (.ref (ad t)), some (.ref (ae (100 + i))), some (.int (nI k0))] [] 0 0 ad sh σ := by
  have h100 := slen_le i hi
  intro n
  induction n with
  | zero =>
    intro k0 hn hk2
    have e : k0 = min tl (slen i) := by omega
    refine ev_iload_2 dX4_sameSigns_2 ?_
    refine ev_aload_0 dX4_sameSigns_3 ?_
    refine gf_X4_29 dX4_sameSigns_4 hp.1 rfl ?_
    rw [hL]
    refine ev_icmp_ge (tgt := 37) dX4_sameSigns_7 (by decide) (fun h7 => ?_) (fun h7 => ?_)
    · refine ev_iload_2 dX4_sameSigns_37 ?_
      exact ev_iret dX4_sameSigns_38 (by rw [ss_end (by omega)]) rfl
    · refine ev_iload_2 dX4_sameSigns_10 ?_
      refine ev_aload_1 dX4_sameSigns_11 ?_
      refine ct_X4_35 (c_strlen hi) hi dX4_sameSigns_12 rfl (Nat.le_of_ble_eq_true rfl) ?_
      refine ev_icmp_ge (tgt := 37) dX4_sameSigns_15 (by decide) (fun h15 => ?_) (fun h15 => ?_)
      · refine ev_iload_2 dX4_sameSigns_37 ?_
        exact ev_iret dX4_sameSigns_38 (by rw [ss_end (by omega)]) rfl
      · exact absurd (Nat.lt_of_not_le (fun z => h15 (nI_le z (by omega)))) (by have := Nat.lt_of_not_le (fun z => h7 (nI_le z (by omega))); omega)
  | succ n ih =>
    intro k0 hn hk2
    have hlt : k0 < min tl (slen i) := by omega
    have hkt : k0 < tl := by omega
    have hks : k0 < slen i := by omega
    refine ev_iload_2 dX4_sameSigns_2 ?_
    refine ev_aload_0 dX4_sameSigns_3 ?_
    refine gf_X4_29 dX4_sameSigns_4 hp.1 rfl ?_
    rw [hL]
    refine ev_icmp_ge (tgt := 37) dX4_sameSigns_7 (by decide) (fun h7 => absurd h7 (nI_ge hkt (by omega))) (fun h7 => ?_)
    refine ev_iload_2 dX4_sameSigns_10 ?_
    refine ev_aload_1 dX4_sameSigns_11 ?_
    refine ct_X4_35 (c_strlen hi) hi dX4_sameSigns_12 rfl (Nat.le_of_ble_eq_true rfl) ?_
    refine ev_icmp_ge (tgt := 37) dX4_sameSigns_15 (by decide) (fun h15 => absurd h15 (nI_ge hks (by omega))) (fun h15 => ?_)
    refine ev_aload_0 dX4_sameSigns_18 ?_
    refine ev_iload_2 dX4_sameSigns_19 ?_
    refine cl_X4_58 (c_signAt hp hL hL2) hp.1 dX4_sameSigns_20 rfl (Nat.le_of_ble_eq_true rfl) ?_
    rw [cellD_nI (by omega) hkt]
    refine ev_aload_1 dX4_sameSigns_23 ?_
    refine ev_iload_2 dX4_sameSigns_24 ?_
    refine ct_X4_77 (c_charAt hi hks) hi dX4_sameSigns_25 rfl (Nat.le_of_ble_eq_true rfl) ?_
    refine ev_icmp_ne (tgt := 37) dX4_sameSigns_28 (by decide) (fun h28 => ?_) (fun h28 => ?_)
    · refine ev_iload_2 dX4_sameSigns_37 ?_
      exact ev_iret dX4_sameSigns_38 (by rw [ss_ne hlt h28]) rfl
    · refine ev_iinc_2 (v := 1) dX4_sameSigns_31 (by decide) rfl rfl ?_
      refine ev_goto (tgt := 2) dX4_sameSigns_34 (by decide) ?_
      exact Ev.to (by rw [nI_1]) rfl rfl (by rw [ss_eq hlt h28]; exact ih (k0 + 1) (by omega) (by omega))
set_option maxRecDepth 100000 in
set_option maxHeartbeats 4000000 in
theorem c_sameSigns {ae ad : Nat → Nat} {sh : mSh} {σ : mSt} {i t tl : Nat} (hi : i < 20) (hp : mLine ad sh t) (hL : σ.1 t 1 = nI tl) (hL2 : tl ≤ 60) : Ct yX4_sameSigns cX4_sameSigns 3 (some .int) 4 0 0 [.ref (ad t), .ref (ae (100 + i))] ae ad sh σ (mEq (some (.int (nI (ssF (σ.1 (t + 1)) (sgn i) 0 (min tl (slen i)))))) ad sh σ) := by
  refine Ct.ofL (own := RX4) (ini := false) (ls := [some (.ref (ad t)), some (.ref (ae (100 + i))), none]) (by decide +kernel) rfl (fun h => by cases h) (Nat.le_of_ble_eq_true rfl) rfl ?_
  refine ev_iconst_0 dX4_sameSigns_0 ?_
  refine ev_istore_2 dX4_sameSigns_1 rfl rfl ?_
  exact c_ss_2 hi hp hL hL2 _ 0 rfl (Nat.zero_le _)
/-- a line that holds the first k signs of the string i -/
def lineS (σ σ' : mSt) (t i k : Nat) : Prop := σ'.1 t 1 = nI k ∧ (∀ j, j < k → σ'.1 (t + 1) j = sgn i j) ∧ (∀ q, q ≠ t → q ≠ t + 1 → σ'.1 q = σ.1 q) ∧ σ'.2 = σ.2
theorem lineS.next {σ σ' : mSt} {t i k : Nat} (h : lineS σ σ' t i k) : lineS σ (mu (mu σ'.1 (t + 1) k (sgn i k)) t 1 (nI (k + 1)), σ'.2) t i (k + 1) := by
  obtain ⟨h1, h2, h3, h4⟩ := h
  refine ⟨by simp [mu, upd], fun j hj => ?_, fun q a b => ?_, h4⟩
  · dsimp only
    rw [mu_ne _ (by omega)]
    simp only [mu, if_pos, upd]
    by_cases e : j = k
    · rw [if_pos e, e]
    · rw [if_neg e]; exact h2 j (by omega)
  · dsimp only
    rw [mu_ne _ a, mu_ne _ b]; exact h3 q a b

set_option maxRecDepth 100000 in
set_option maxHeartbeats 4000000 in
theorem c_rep_7 {ae ad : Nat → Nat} {sh : mSh} {σ : mSt} {i t : Nat} (hi : i < 20) (h60 : slen i < 60) (hp : mLine ad sh t) : ∀ (n k0 : Nat), slen i - k0 = n → k0 ≤ slen i → ∀ σ2 : mSt, lineS σ σ2 t i k0 → Ev RX4 cX4_replace 3 false none (mRm 4 0 0) ae (mPv ad sh (fun σ' => lineS σ σ' t i (slen i))) 7 [some (.ref (ad t)), some (.ref (ae (100 + i))), some (.int (nI k0))] [] 0 0 ad sh σ2 := by
  intro n
  induction n with
  | zero =>
    intro k0 hn hk2 σ2 hS
    have e : k0 = slen i := by omega
    subst e
    refine ev_iload_2 dX4_replace_7 ?_
    refine ev_aload_1 dX4_replace_8 ?_
    refine ct_X4_35 (c_strlen hi) hi dX4_replace_9 rfl (Nat.le_of_ble_eq_true rfl) ?_
    refine ev_icmp_ge (tgt := 31) dX4_replace_12 (by decide) (fun h12 => ?_) (fun h12 => absurd (Int32.le_refl _) h12)
    exact ev_pv dX4_replace_31 hS
  | succ n ih =>
    intro k0 hn hk2 σ2 hS
    have hks : k0 < slen i := by omega
    refine ev_iload_2 dX4_replace_7 ?_
    refine ev_aload_1 dX4_replace_8 ?_
    refine ct_X4_35 (c_strlen hi) hi dX4_replace_9 rfl (Nat.le_of_ble_eq_true rfl) ?_
    refine ev_icmp_ge (tgt := 31) dX4_replace_12 (by decide) (fun h12 => absurd h12 (nI_ge hks (by omega))) (fun h12 => ?_)
    refine ev_aload_0 dX4_replace_15 ?_
    refine ev_aload_1 dX4_replace_16 ?_
    refine ev_iload_2 dX4_replace_17 ?_
    refine ct_X4_77 (c_charAt hi hks) hi dX4_replace_18 rfl (Nat.le_of_ble_eq_true rfl) ?_
    refine cl_X4_81 (c_lineAdd hp hS.1 (by omega)) hp.1 dX4_replace_21 rfl (Nat.le_of_ble_eq_true rfl) ?_
    rw [if_pos (show k0 < 60 by omega)]
    refine ev_pop dX4_replace_24 rfl ?_
    refine ev_iinc_2 (v := 1) dX4_replace_25 (by decide) rfl rfl ?_
    refine ev_goto (tgt := 7) dX4_replace_28 (by decide) ?_
    exact Ev.to (by rw [nI_1]) rfl rfl (ih (k0 + 1) (by omega) (by omega) _ hS.next)
set_option maxRecDepth 100000 in
set_option maxHeartbeats 4000000 in
theorem c_replace {ae ad : Nat → Nat} {sh : mSh} {σ : mSt} {i t : Nat} (hi : i < 20) (h60 : slen i < 60) (hp : mLine ad sh t) : Ct yX4_replace cX4_replace 3 none 4 0 0 [.ref (ad t), .ref (ae (100 + i))] ae ad sh σ (mPv ad sh (fun σ' => lineS σ σ' t i (slen i))) := by
  refine Ct.ofL (own := RX4) (ini := false) (ls := [some (.ref (ad t)), some (.ref (ae (100 + i))), none]) (by decide +kernel) rfl (fun h => by cases h) (Nat.le_of_ble_eq_true rfl) rfl ?_
  refine ev_aload_0 dX4_replace_0 ?_
  refine ev_iconst_0 dX4_replace_1 ?_
  refine pf_X4_29 dX4_replace_2 hp.1 rfl ?_
  refine ev_iconst_0 dX4_replace_5 ?_
  refine ev_istore_2 dX4_replace_6 rfl rfl ?_
  exact c_rep_7 hi h60 hp _ 0 rfl (Nat.zero_le _) _ ⟨by simp [mu, upd]; rfl, fun j hj => absurd hj (Nat.not_lt_zero _), fun q a b => mu_ne _ a, rfl⟩
