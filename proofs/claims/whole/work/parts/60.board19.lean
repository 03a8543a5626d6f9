/-- the line (3, 4) holds the signs L; the board's position is g's; else nothing but 20 to 22 has changed -/
def lnR (σ0 σ : mSt) (g : Nat → Int32) (L : List Int32) : Prop := (∀ k, k ≠ 3 → k ≠ 4 → k ≠ 20 → k ≠ 21 → k ≠ 22 → σ.1 k = σ0.1 k ∧ σ.2 k = σ0.2 k) ∧ (posR σ 20 g ∧ ritR σ 20 g) ∧ σ.1 3 1 = nI L.length ∧ L.length ≤ 60 ∧ ∀ (i : Nat) (x : Int32), L[i]? = some x → σ.1 4 i = x
theorem ln_low {σ σ' : mSt} {g : Nat → Int32} (hP : posR σ 20 g ∧ ritR σ 20 g) (h : ∀ k, 20 ≤ k → k ≤ 22 → σ'.1 k = σ.1 k) (h2 : σ'.2 20 = σ.2 20) : posR σ' 20 g ∧ ritR σ' 20 g := posR_lo hP.1 hP.2 (fun i hi => h _ (by omega) (by omega)) h2
theorem ln_nil {σ : mSt} {g : Nat → Int32} (hP : posR σ 20 g) (hR : ritR σ 20 g) : lnR σ (mu σ.1 3 1 0, σ.2) g [] :=
  ⟨fun k a _ _ _ _ => ⟨mu_ne _ a, rfl⟩, ln_low ⟨hP, hR⟩ (fun k h _ => mu_ne _ (by omega)) rfl, by simp [mu, upd]; rfl, by decide, fun i x h => by simp at h⟩
theorem lnR.add {σ0 σ : mSt} {g : Nat → Int32} {L : List Int32} {x : Int32} (h : lnR σ0 σ g L) (hl : L.length < 60) : lnR σ0 (mu (mu σ.1 4 L.length x) 3 1 (nI (L.length + 1)), σ.2) g (L ++ [x]) := by
  obtain ⟨h1, h2, h3, h4, h5⟩ := h
  refine ⟨fun k a b c d e => ?_, ln_low h2 (fun k a b => ?_) rfl, ?_, ?_, fun i y hy => ?_⟩
  · dsimp only
    rw [mu_ne _ a, mu_ne _ b]; exact h1 k a b c d e
  · dsimp only
    rw [mu_ne _ (by omega), mu_ne _ (by omega)]
  · simp [mu, upd]
  · rw [List.length_append]; simp only [List.length_cons, List.length_nil]; omega
  · dsimp only
    rw [mu_ne _ (by decide)]
    simp only [mu, upd, if_true]
    by_cases e : i = L.length
    · subst e
      rw [List.getElem?_append_right (Nat.le_refl _)] at hy
      simp at hy
      simp [hy]
    · rw [if_neg e]
      refine h5 i y ?_
      rcases Nat.lt_or_ge i L.length with q | q
      · rw [List.getElem?_append_left q] at hy; exact hy
      · rw [List.getElem?_append_right q] at hy
        rw [List.getElem?_eq_none (by simp; omega)] at hy; cases hy
theorem c_lnAdd {ae ad : Nat → Nat} {sh : mSh} {σ0 σ : mSt} {g : Nat → Int32} {L : List Int32} {x : Int32} (hb : mBoard ad sh) (h : lnR σ0 σ g L) (hl : L.length < 60) : Ct yX2_add cX2_add 2 (some .boolean) 0 0 0 [.ref (ad 3), .int x] ae ad sh σ (mPi ad sh (fun _ σ' => lnR σ0 σ' g (L ++ [x]))) :=
  Ct.mono (fun v ad' sh' σ' e => ⟨_, e.1, e.2.1, e.2.2.1, by rw [e.2.2.2, if_pos hl]; exact h.add hl⟩) (c_lineAdd hb.2.2.1 h.2.2.1 h.2.2.2.1)
def emL (e : Nat) : List Int32 := if e = 0 then [] else [nI (48 + e)]
theorem emL_len (e : Nat) : (emL e).length = min e 1 := by unfold emL; split <;> simp <;> omega
def leN (m : Nat) : Nat := if m ≤ 6 then 64 + m else 90 + m
theorem leR_nI {m : Nat} (h1 : 1 ≤ m) (h2 : m ≤ 12) : leR (nI m) = nI (leN m) := by
  have h : ∀ m, m ≤ 12 → 1 ≤ m → leR (nI m) = nI (leN m) := by decide
  exact h m h2 h1
def sqL (g : Nat → Int32) (q : Nat) : List Int32 := [nI (97 + q % cN g), nI (49 + q / cN g)]
/-- a row of the position, of n squares: its signs, and how many empty squares stand behind them -/
def rowF (g : Nat → Int32) (y : Nat) : Nat → List Int32 × Nat
  | 0 => ([], 0)
  | n + 1 => if mN g (y * cN g + n) = 0 then ((rowF g y n).1, (rowF g y n).2 + 1) else ((rowF g y n).1 ++ emL (rowF g y n).2 ++ [nI (leN (mN g (y * cN g + n)))], 0)
def rowL (g : Nat → Int32) (y : Nat) : List Int32 := (rowF g y (cN g)).1 ++ emL (rowF g y (cN g)).2
theorem rowF_len (g : Nat → Int32) (y : Nat) : ∀ n, (rowF g y n).1.length + min (rowF g y n).2 1 ≤ n ∧ (rowF g y n).2 ≤ n
  | 0 => by simp [rowF]
  | n + 1 => by
    obtain ⟨h1, h2⟩ := rowF_len g y n
    rw [rowF]
    split
    · dsimp only; omega
    · simp only [List.length_append, emL_len, List.length_cons, List.length_nil]; omega
theorem rowL_len (g : Nat → Int32) (y : Nat) : (rowL g y).length ≤ cN g := by
  have := (rowF_len g y (cN g)).1
  unfold rowL
  rw [List.length_append, emL_len]; exact this

set_option maxRecDepth 100000 in
set_option maxHeartbeats 4000000 in
theorem c_wrEmpty {ae ad : Nat → Nat} {sh : mSh} {σ : mSt} {σ0 : mSt} {g : Nat → Int32} {L : List Int32} (hb : mBoard ad sh) (hn : lnR σ0 σ g L) {e : Nat} (he : e ≤ 6) (hl : L.length + min e 1 ≤ 60) : Ct yX9_writeEmpty cX9_writeEmpty 2 none 1 0 0 [.ref (ad 0), .int (nI e)] ae ad sh σ (mPv ad sh (fun σ' => lnR σ0 σ' g (L ++ emL e))) := by
  refine Ct.ofL (own := RX9) (ini := false) (ls := [some (.ref (ad 0)), some (.int (nI e))]) (by decide +kernel) rfl (fun h => by cases h) (Nat.le_of_ble_eq_true rfl) rfl ?_
  refine ev_iload_1 dX9_writeEmpty_0 ?_
  refine ev_if_le (tgt := 16) dX9_writeEmpty_1 (by decide) (fun h1 => ?_) (fun h1 => ?_)
  · first
    | exact ev_pv dX9_writeEmpty_16 (by
        have e0 : e = 0 := by
          rcases Nat.eq_zero_or_pos e with z | z
          · exact z
          · exact absurd h1 (nI_nle z (by omega))
        rw [e0]; simpa [emL] using hn)
    | exact ev_pv dX9_writeEmpty_16 (by
        have e0 : ¬ e = 0 := fun z => h1 (by rw [z]; decide)
        have e1 : emL e = [48 + nI e] := by rw [emL, if_neg e0, show (48 : Int32) = nI 48 from rfl, nI_add]
        rw [e1]; exact hn)
  · refine ev_aload_0 dX9_writeEmpty_4 ?_
    refine gf_X9_18 dX9_writeEmpty_5 hb.1 rfl ?_
    refine ev_bipush_48 dX9_writeEmpty_8 ?_
    refine ev_iload_1 dX9_writeEmpty_10 ?_
    refine ev_iadd dX9_writeEmpty_11 ?_
    refine cg_X9_87 (c_lnAdd hb hn (by have : ¬ e = 0 := fun z => h1 (by rw [z]; decide); omega)) hb.2.2.1.1 dX9_writeEmpty_12 rfl (Nat.le_of_ble_eq_true rfl) (fun rz σz hn => ?_)
    refine ev_pop dX9_writeEmpty_15 rfl ?_
    first
    | exact ev_pv dX9_writeEmpty_16 (by
        have e0 : e = 0 := by
          rcases Nat.eq_zero_or_pos e with z | z
          · exact z
          · exact absurd h1 (nI_nle z (by omega))
        rw [e0]; simpa [emL] using hn)
    | exact ev_pv dX9_writeEmpty_16 (by
        have e0 : ¬ e = 0 := fun z => h1 (by rw [z]; decide)
        have e1 : emL e = [48 + nI e] := by rw [emL, if_neg e0, show (48 : Int32) = nI 48 from rfl, nI_add]
        rw [e1]; exact hn)
set_option maxRecDepth 100000 in
set_option maxHeartbeats 4000000 in
theorem c_wrSquare {ae ad : Nat → Nat} {sh : mSh} {σ : mSt} {σ0 : mSt} {g : Nat → Int32} {L : List Int32} (hb : mBoard ad sh) (hn : lnR σ0 σ g L) (hG : wfP g) {q : Nat} (hq : q < 36) (hl : L.length < 59) : Ct yX9_writeSquare cX9_writeSquare 2 none 1 0 0 [.ref (ad 0), .int (nI q)] ae ad sh σ (mPv ad sh (fun σ' => lnR σ0 σ' g (L ++ sqL g q))) := by
  refine Ct.ofL (own := RX9) (ini := false) (ls := [some (.ref (ad 0)), some (.int (nI q))]) (by decide +kernel) rfl (fun h => by cases h) (Nat.le_of_ble_eq_true rfl) rfl ?_
  have hc := hG.1.2
  refine ev_aload_0 dX9_writeSquare_0 ?_
  refine gf_X9_18 dX9_writeSquare_1 hb.1 rfl ?_
  refine ev_bipush_97 dX9_writeSquare_4 ?_
  refine ev_aload_0 dX9_writeSquare_6 ?_
  refine gf_X9_47 dX9_writeSquare_7 hb.1 rfl ?_
  refine ev_iload_1 dX9_writeSquare_10 ?_
  refine cl_X9_395 (c_columnOf hb.2.2.2.2.2.2.1) hb.2.2.2.2.2.2.1.1 dX9_writeSquare_11 rfl (Nat.le_of_ble_eq_true rfl) ?_
  rw [hn.2.1.1.2.2.1, hG.1.1, colI (by omega) (by omega) (by omega), iI_nat, show (97 : Int32) = nI 97 from rfl]
  refine ev_iadd dX9_writeSquare_14 ?_
  rw [nI_add]
  refine cg_X9_87 (c_lnAdd hb hn (by omega)) hb.2.2.1.1 dX9_writeSquare_15 rfl (Nat.le_of_ble_eq_true rfl) (fun rz σz hn => ?_)
  refine ev_pop dX9_writeSquare_18 rfl ?_
  refine ev_aload_0 dX9_writeSquare_19 ?_
  refine gf_X9_18 dX9_writeSquare_20 hb.1 rfl ?_
  refine ev_bipush_49 dX9_writeSquare_23 ?_
  refine ev_aload_0 dX9_writeSquare_25 ?_
  refine gf_X9_47 dX9_writeSquare_26 hb.1 rfl ?_
  refine ev_iload_1 dX9_writeSquare_29 ?_
  refine cl_X9_185 (c_rowOf hb.2.2.2.2.2.2.1) hb.2.2.2.2.2.2.1.1 dX9_writeSquare_30 rfl (Nat.le_of_ble_eq_true rfl) ?_
  rw [hn.2.1.1.2.2.1, hG.1.1, rowI (by omega) (by omega) (by omega), iI_nat, show (49 : Int32) = nI 49 from rfl]
  refine ev_iadd dX9_writeSquare_33 ?_
  rw [nI_add]
  refine cg_X9_87 (c_lnAdd hb hn (by simp; omega)) hb.2.2.1.1 dX9_writeSquare_34 rfl (Nat.le_of_ble_eq_true rfl) (fun rz σz hn => ?_)
  refine ev_pop dX9_writeSquare_37 rfl ?_
  exact ev_pv dX9_writeSquare_38 (by simpa [sqL] using hn)
