/-- only the reference's row has changed -/
def nowR (σ σ' : mSt) (g' : Nat → Int32) : Prop := σ'.1 62 = g' ∧ (∀ j, j ≠ 62 → σ'.1 j = σ.1 j) ∧ σ'.2 = σ.2
theorem bg_cl {g : Nat → Int32} {i : Nat} (h : i ≠ 57) (h2 : i ≠ 2328) : clN (begG g) i = clN g i := by rw [clN, clN, bg_ne h h2]
theorem bg_sq {g : Nat → Int32} : cN (begG g) = cN g ∧ rN (begG g) = rN g := ⟨bg_cl (by decide) (by decide), bg_cl (by decide) (by decide)⟩
theorem bg_wfP {g : Nat → Int32} (hG : wfP g) : wfP (begG g) := wfP_lw (fun i hi => bg_ne (by omega) (by omega)) hG
theorem bg_wfL {g : Nat → Int32} (hW : wfL g) : wfL (begG g) := wfL_of (fun i h1 h2 h3 => bg_ne h3 (by omega)) (fun k hk z => by rw [← z]; exact (bg_cl (by omega) (by omega)).symm) hW
theorem siz_fun {g : Nat → Int32} {c r : Nat} : upd (upd (upd (upd (upd (upd (fa_fill (fun _ => 0) g 53) (184 + 6 * 0) 0) (184 + 6 * 1) 0) (184 + 6 * 2) 0) (184 + 6 * 3) 0) 53 (nI c)) 54 (nI r) = sizG g c r := by
  funext i
  by_cases a : i < 53
  · rw [upd_ne (by omega), upd_ne (by omega), upd_ne (by omega), upd_ne (by omega), upd_ne (by omega), upd_ne (by omega), fa_fill_in a, siz_z a]
  by_cases b : i = 53
  · subst b; rw [upd_ne (by omega), upd_at, siz_53]
  by_cases c : i = 54
  · subst c; rw [upd_at, siz_54]
  rw [upd_ne c, upd_ne b]
  by_cases d : 184 ≤ i ∧ i < 208 ∧ (i - 184) % 6 = 0
  · obtain ⟨k, hk, e⟩ : ∃ k, k < 4 ∧ i = 184 + 6 * k := ⟨(i - 184) / 6, by omega, by omega⟩
    subst e
    rw [siz_x hk]
    rcases (show k = 0 ∨ k = 1 ∨ k = 2 ∨ k = 3 by omega) with z | z | z | z <;> subst z
    · rw [upd_ne (by omega), upd_ne (by omega), upd_ne (by omega), upd_at]
    · rw [upd_ne (by omega), upd_ne (by omega), upd_at]
    · rw [upd_ne (by omega), upd_at]
    · rw [upd_at]
  · rw [upd_ne (by omega), upd_ne (by omega), upd_ne (by omega), upd_ne (by omega), fa_fill_out (by omega), siz_e (by omega) (by omega)]
theorem cas_fun {g : Nat → Int32} {k sd r s p q : Nat} (hk : k < 4) : upd (upd (upd (upd (upd (upd (upd g (184 + 6 * k) 1) (184 + 6 * k + 1) (nI sd)) (184 + 6 * k + 2) (nI r)) (184 + 6 * k + 3) (nI s)) (184 + 6 * k + 4) (nI p)) (184 + 6 * k + 5) (nI q)) (49 + k) 1 = casS g k sd r s p q := by
  funext i
  by_cases a : i = 49 + k
  · rw [a, upd_at, cs_ri]
  rw [upd_ne a]
  by_cases b : i < 184 + 6 * k ∨ 190 + 6 * k ≤ i
  · rw [upd_ne (by omega), upd_ne (by omega), upd_ne (by omega), upd_ne (by omega), upd_ne (by omega), upd_ne (by omega), cs_ne a b]
  rcases (show i = 184 + 6 * k ∨ i = 184 + 6 * k + 1 ∨ i = 184 + 6 * k + 2 ∨ i = 184 + 6 * k + 3 ∨ i = 184 + 6 * k + 4 ∨ i = 184 + 6 * k + 5 by omega) with z | z | z | z | z | z <;> rw [z]
  · rw [upd_ne (by omega), upd_ne (by omega), upd_ne (by omega), upd_ne (by omega), upd_ne (by omega), upd_at, cs_0 hk]
  · rw [upd_ne (by omega), upd_ne (by omega), upd_ne (by omega), upd_ne (by omega), upd_at, show 184 + 6 * k + 1 = 185 + 6 * k by omega, cs_1 hk]
  · rw [upd_ne (by omega), upd_ne (by omega), upd_ne (by omega), upd_at, show 184 + 6 * k + 2 = 186 + 6 * k by omega, cs_2 hk]
  · rw [upd_ne (by omega), upd_ne (by omega), upd_at, show 184 + 6 * k + 3 = 187 + 6 * k by omega, cs_3 hk]
  · rw [upd_ne (by omega), upd_at, show 184 + 6 * k + 4 = 188 + 6 * k by omega, cs_4 hk]
  · rw [upd_at, show 184 + 6 * k + 5 = 189 + 6 * k by omega, cs_5 hk]

set_option maxRecDepth 100000 in
set_option maxHeartbeats 4000000 in
theorem c_mSizeNo {ae ad : Nat → Nat} {sh : mSh} {σ : mSt} (hm : mModel ad sh) {x y : Int32} (h : ¬ (isLen x = true ∧ isLen y = true)) : Ct yX10_size cX10_size 4 (some .int) 3 0 0 [.ref (ad 61), .int x, .int y] ae ad sh σ (mEq (some (.int (-2))) ad sh σ) := by
  refine Ct.ofL (own := RX10) (ini := false) (ls := [some (.ref (ad 61)), some (.int x), some (.int y), none]) (by decide +kernel) rfl (fun h => by cases h) (Nat.le_of_ble_eq_true rfl) rfl ?_
  refine ev_iload_1 dX10_size_0 ?_
  refine ev_iconst_2 dX10_size_1 ?_
  refine ev_bipush_6 dX10_size_2 ?_
  refine cl_X10_61 c_mIn dX10_size_4 rfl (Nat.le_of_ble_eq_true rfl) ?_
  refine ev_if_eq (tgt := 20) dX10_size_7 (by decide) (fun h7 => ?_) (fun h7 => ?_)
  · refine ev_bipush_m2 dX10_size_20 ?_
    exact ev_ireturn dX10_size_22
  · refine ev_iload_2 dX10_size_10 ?_
    refine ev_iconst_2 dX10_size_11 ?_
    refine ev_bipush_6 dX10_size_12 ?_
    refine cl_X10_61 c_mIn dX10_size_14 rfl (Nat.le_of_ble_eq_true rfl) ?_
    refine ev_if_ne (tgt := 23) dX10_size_17 (by decide) (fun h17 => ?_) (fun h17 => ?_)
    · exact absurd ⟨b2i_t h7, b2i_t h17⟩ h
    · refine ev_bipush_m2 dX10_size_20 ?_
      exact ev_ireturn dX10_size_22
set_option maxRecDepth 100000 in
set_option maxHeartbeats 4000000 in
theorem c_mSize_25 {ae ad : Nat → Nat} {sh : mSh} {σ : mSt} (hm : mModel ad sh) {g : Nat → Int32} {c r : Nat} {Post : mPost} (K : ∀ σ' : mSt, (σ'.1 62 = fa_fill (fun _ => 0) (g) 53 ∧ (∀ j, j ≠ 62 → σ'.1 j = σ.1 j) ∧ σ'.2 = σ.2) → Ev RX10 cX10_size 4 false (some .int) (mRm 3 0 0) ae Post 44 [some (.ref (ad 61)), some (.int (nI c)), some (.int (nI r)), some (.int (nI 53))] [] 0 0 ad sh σ') : ∀ (n i : Nat), 53 - i = n → i ≤ 53 → ∀ σ2 : mSt, (σ2.1 62 = fa_fill (fun _ => 0) (g) i ∧ (∀ j, j ≠ 62 → σ2.1 j = σ.1 j) ∧ σ2.2 = σ.2) → Ev RX10 cX10_size 4 false (some .int) (mRm 3 0 0) ae Post 25 [some (.ref (ad 61)), some (.int (nI c)), some (.int (nI r)), some (.int (nI i))] [] 0 0 ad sh σ2 := by
  intro n
  induction n with
  | zero =>
    intro i hn0 hi σ2 hn
    have e : i = 53 := by omega
    subst e
    refine ev_iload_3 dX10_size_25 ?_
    refine ev_bipush_53 dX10_size_26 ?_
    refine ev_icmp_ge (tgt := 44) dX10_size_28 (by decide) (fun h28 => ?_) (fun h28 => absurd (by decide) h28)
    exact K _ hn
  | succ n ih =>
    intro i hn0 hi σ2 hn
    have hlt : i < 53 := by omega
    refine ev_iload_3 dX10_size_25 ?_
    refine ev_bipush_53 dX10_size_26 ?_
    refine ev_icmp_ge (tgt := 44) dX10_size_28 (by decide) (fun h28 => absurd h28 (nI_ge (b := 53) hlt (by decide))) (fun h28 => ?_)
    refine ev_aload_0 dX10_size_31 ?_
    refine gf_X10_11 dX10_size_32 hm.1 rfl ?_
    refine ev_iload_3 dX10_size_35 ?_
    refine ev_iconst_0 dX10_size_36 ?_
    refine ev_stk (k := i) hm.2.1 hn.1 rfl (by omega) (by decide) dX10_size_37 (fun σ37 hw37 hf37 hl37 => ?_)
    refine ev_iinc_3 (v := 1) dX10_size_38 (by decide) rfl rfl ?_
    rw [show nI i + 1 = nI (i + 1) from nI_add (i) 1]
    refine ev_goto (tgt := 25) dX10_size_41 (by decide) ?_
    exact ih (i + 1) (by omega) (by omega) _ ⟨hw37.trans (fa_fill_succ _ _ _), fun j xx => (hf37 j xx).trans (hn.2.1 j xx), hl37.trans hn.2.2⟩
set_option maxRecDepth 100000 in
set_option maxHeartbeats 4000000 in
theorem c_mSize_44 {ae ad : Nat → Nat} {sh : mSh} {σ σ2 : mSt} (hm : mModel ad sh) {g : Nat → Int32} (hW : wfL g) {c r : Nat} (hc : 2 ≤ c ∧ c ≤ 6) (hr : 2 ≤ r ∧ r ≤ 6) (hn : σ2.1 62 = fa_fill (fun _ => 0) g 53 ∧ (∀ j, j ≠ 62 → σ2.1 j = σ.1 j) ∧ σ2.2 = σ.2) : Ev RX10 cX10_size 4 false (some .int) (mRm 3 0 0) ae (mPi ad sh (fun x σ' => x = nI (c * r) ∧ begR σ σ' (begG (sizG g c r)))) 44 [some (.ref (ad 61)), some (.int (nI c)), some (.int (nI r)), some (.int (nI 53))] [] 0 0 ad sh σ2 := by
  have hG1 := siz_wfP (g := g) hc hr
  have hW1 := siz_wfL (c := c) (r := r) hW
  obtain ⟨hnow, hfr, hll⟩ := hn
  refine ev_iconst_0 dX10_size_44 ?_
  refine ev_istore_3 dX10_size_45 rfl rfl ?_
  refine ev_iload_3 dX10_size_46 ?_
  refine ev_iconst_4 dX10_size_47 ?_
  refine ev_icmp_ge (tgt := 67) dX10_size_48 (by decide) (fun h48 => absurd h48 (by decide)) (fun h48 => ?_)
  refine ev_aload_0 dX10_size_51 ?_
  refine gf_X10_11 dX10_size_52 hm.1 rfl ?_
  refine ev_iload_3 dX10_size_55 ?_
  refine cl_X10_72 (c_castleAt (t := (0))) dX10_size_56 rfl (Nat.le_of_ble_eq_true rfl) ?_
  refine ev_iconst_0 dX10_size_59 ?_
  refine ev_stk (k := 184 + 6 * 0) hm.2.1 hnow rfl (by omega) (by decide) dX10_size_60 (fun σ60 hw60 hf60 hl60 => ?_)
  refine ev_iinc_3 (v := 1) dX10_size_61 (by decide) rfl rfl ?_
  rw [show (0 : Int32) + (1) = 1 from rfl]
  refine ev_goto (tgt := 46) dX10_size_64 (by decide) ?_
  refine ev_iload_3 dX10_size_46 ?_
  refine ev_iconst_4 dX10_size_47 ?_
  refine ev_icmp_ge (tgt := 67) dX10_size_48 (by decide) (fun h48 => absurd h48 (by decide)) (fun h48 => ?_)
  refine ev_aload_0 dX10_size_51 ?_
  refine gf_X10_11 dX10_size_52 hm.1 rfl ?_
  refine ev_iload_3 dX10_size_55 ?_
  refine cl_X10_72 (c_castleAt (t := (1))) dX10_size_56 rfl (Nat.le_of_ble_eq_true rfl) ?_
  refine ev_iconst_0 dX10_size_59 ?_
  refine ev_stk (k := 184 + 6 * 1) hm.2.1 hw60 rfl (by omega) (by decide) dX10_size_60 (fun σ60r1 hw60r1 hf60r1 hl60r1 => ?_)
  refine ev_iinc_3 (v := 1) dX10_size_61 (by decide) rfl rfl ?_
  rw [show (1 : Int32) + (1) = 2 from rfl]
  refine ev_goto (tgt := 46) dX10_size_64 (by decide) ?_
  refine ev_iload_3 dX10_size_46 ?_
  refine ev_iconst_4 dX10_size_47 ?_
  refine ev_icmp_ge (tgt := 67) dX10_size_48 (by decide) (fun h48 => absurd h48 (by decide)) (fun h48 => ?_)
  refine ev_aload_0 dX10_size_51 ?_
  refine gf_X10_11 dX10_size_52 hm.1 rfl ?_
  refine ev_iload_3 dX10_size_55 ?_
  refine cl_X10_72 (c_castleAt (t := (2))) dX10_size_56 rfl (Nat.le_of_ble_eq_true rfl) ?_
  refine ev_iconst_0 dX10_size_59 ?_
  refine ev_stk (k := 184 + 6 * 2) hm.2.1 hw60r1 rfl (by omega) (by decide) dX10_size_60 (fun σ60r2 hw60r2 hf60r2 hl60r2 => ?_)
  refine ev_iinc_3 (v := 1) dX10_size_61 (by decide) rfl rfl ?_
  rw [show (2 : Int32) + (1) = 3 from rfl]
  refine ev_goto (tgt := 46) dX10_size_64 (by decide) ?_
  refine ev_iload_3 dX10_size_46 ?_
  refine ev_iconst_4 dX10_size_47 ?_
  refine ev_icmp_ge (tgt := 67) dX10_size_48 (by decide) (fun h48 => absurd h48 (by decide)) (fun h48 => ?_)
  refine ev_aload_0 dX10_size_51 ?_
  refine gf_X10_11 dX10_size_52 hm.1 rfl ?_
  refine ev_iload_3 dX10_size_55 ?_
  refine cl_X10_72 (c_castleAt (t := (3))) dX10_size_56 rfl (Nat.le_of_ble_eq_true rfl) ?_
  refine ev_iconst_0 dX10_size_59 ?_
  refine ev_stk (k := 184 + 6 * 3) hm.2.1 hw60r2 rfl (by omega) (by decide) dX10_size_60 (fun σ60r3 hw60r3 hf60r3 hl60r3 => ?_)
  refine ev_iinc_3 (v := 1) dX10_size_61 (by decide) rfl rfl ?_
  rw [show (3 : Int32) + (1) = 4 from rfl]
  refine ev_goto (tgt := 46) dX10_size_64 (by decide) ?_
  refine ev_iload_3 dX10_size_46 ?_
  refine ev_iconst_4 dX10_size_47 ?_
  refine ev_icmp_ge (tgt := 67) dX10_size_48 (by decide) (fun h48 => ?_) (fun h48 => (by exfalso; revert h48; decide))
  refine ev_aload_0 dX10_size_67 ?_
  refine gf_X10_11 dX10_size_68 hm.1 rfl ?_
  refine ev_bipush_53 dX10_size_71 ?_
  refine ev_iload_1 dX10_size_73 ?_
  refine ev_stk (k := 53) hm.2.1 hw60r3 rfl (by omega) (by decide) dX10_size_74 (fun σ74 hw74 hf74 hl74 => ?_)
  refine ev_aload_0 dX10_size_75 ?_
  refine gf_X10_11 dX10_size_76 hm.1 rfl ?_
  refine ev_bipush_54 dX10_size_79 ?_
  refine ev_iload_2 dX10_size_81 ?_
  refine ev_stk (k := 54) hm.2.1 hw74 rfl (by omega) (by decide) dX10_size_82 (fun σ82 hw82 hf82 hl82 => ?_)
  have hz := hw82.trans (siz_fun (g := g) (c := c) (r := r))
  refine ev_aload_0 dX10_size_83 ?_
  refine cg_X10_58 (c_mBegins hm hz hG1 hW1) hm.1 dX10_size_84 rfl (Nat.le_of_ble_eq_true rfl) (fun σb84 hb84 => ?_)
  obtain ⟨b1_84, b2_84, b3_84, b4_84, b5_84⟩ := hb84
  refine ev_aload_0 dX10_size_87 ?_
  refine cl_X10_65 (c_mSquares hm b1_84 (bg_wfP hG1)) hm.1 dX10_size_88 rfl (Nat.le_of_ble_eq_true rfl) ?_
  refine ev_pi dX10_size_91 ⟨by rw [bg_sq.1, bg_sq.2, show cN (sizG g c r) = c from clN_nI siz_53 (by omega), show rN (sizG g c r) = r from clN_nI siz_54 (by omega)], b1_84, ?_, b3_84, fun j x61 x62 x72 => ?_, ?_⟩
  · rw [b2_84]
    exact congrArg (fun f => upd f 13 0) (by rw [hf82 61 (by decide), hf74 61 (by decide), hf60r3 61 (by decide), hf60r2 61 (by decide), hf60r1 61 (by decide), hf60 61 (by decide)]; exact hfr 61 (by decide))
  · rw [b4_84 j x61 x62 x72, hf82 j x62, hf74 j x62, hf60r3 j x62, hf60r2 j x62, hf60r1 j x62, hf60 j x62]
    exact hfr j x62
  · rw [b5_84, hl82, hl74, hl60r3, hl60r2, hl60r1, hl60]
    exact hll
set_option maxRecDepth 100000 in
set_option maxHeartbeats 4000000 in
theorem c_mSize {ae ad : Nat → Nat} {sh : mSh} {σ : mSt} (hm : mModel ad sh) {g : Nat → Int32} (hg : σ.1 62 = g) (hW : wfL g) {c r : Nat} (hc : 2 ≤ c ∧ c ≤ 6) (hr : 2 ≤ r ∧ r ≤ 6) : Ct yX10_size cX10_size 4 (some .int) 3 0 0 [.ref (ad 61), .int (nI c), .int (nI r)] ae ad sh σ (mPi ad sh (fun x σ' => x = nI (c * r) ∧ begR σ σ' (begG (sizG g c r)))) := by
  refine Ct.ofL (own := RX10) (ini := false) (ls := [some (.ref (ad 61)), some (.int (nI c)), some (.int (nI r)), none]) (by decide +kernel) rfl (fun h => by cases h) (Nat.le_of_ble_eq_true rfl) rfl ?_
  refine ev_iload_1 dX10_size_0 ?_
  refine ev_iconst_2 dX10_size_1 ?_
  refine ev_bipush_6 dX10_size_2 ?_
  refine cl_X10_61 c_mIn dX10_size_4 rfl (Nat.le_of_ble_eq_true rfl) ?_
  refine ev_if_eq (tgt := 20) dX10_size_7 (by decide) (fun h7 => ?_) (fun h7 => ?_)
  · first
    | exact absurd ((b2i_0 _).mp h17) (by rw [show inB (nI r) 2 6 = true from isLen_of hr]; decide)
    | exact absurd ((b2i_0 _).mp h7) (by rw [show inB (nI c) 2 6 = true from isLen_of hc]; decide)
  · refine ev_iload_2 dX10_size_10 ?_
    refine ev_iconst_2 dX10_size_11 ?_
    refine ev_bipush_6 dX10_size_12 ?_
    refine cl_X10_61 c_mIn dX10_size_14 rfl (Nat.le_of_ble_eq_true rfl) ?_
    refine ev_if_ne (tgt := 23) dX10_size_17 (by decide) (fun h17 => ?_) (fun h17 => ?_)
    · refine ev_iconst_0 dX10_size_23 ?_
      refine ev_istore_3 dX10_size_24 rfl rfl ?_
      exact c_mSize_25 hm (fun _ hk => c_mSize_44 hm hW hc hr hk) _ 0 rfl (Nat.zero_le _) _ ⟨by rw [fa_fill_0, hg], fun _ _ => rfl, rfl⟩
    · first
      | exact absurd ((b2i_0 _).mp h17) (by rw [show inB (nI r) 2 6 = true from isLen_of hr]; decide)
      | exact absurd ((b2i_0 _).mp h7) (by rw [show inB (nI c) 2 6 = true from isLen_of hc]; decide)
