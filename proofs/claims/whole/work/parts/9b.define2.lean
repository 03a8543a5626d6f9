theorem def_fun {g R : Nat → Int32} {t : Nat} {u : RS} (hX : rdX R u) (h6 : u.n ≤ 6) : filA (58 + 21 * t + 3) (fun i => if i < 3 * u.n then R (1 + i) else 0) (upd g (58 + 21 * t + 2) (nI u.n)) 18 = defS g t u := by
  funext i
  by_cases a : i = 60 + 21 * t
  · subst a
    rw [filA_out (by omega), ds_n, show 60 + 21 * t = 58 + 21 * t + 2 by omega, upd_at]
  by_cases b : 61 + 21 * t ≤ i ∧ i < 79 + 21 * t
  · obtain ⟨k, hk, e⟩ : ∃ k, k < 18 ∧ i = 58 + 21 * t + 3 + k := ⟨i - (61 + 21 * t), by omega, by omega⟩
    subst e
    rw [filA_in hk]
    show (if k < 3 * u.n then R (1 + k) else 0) = _
    unfold defS
    rw [if_neg a, if_pos b, show 58 + 21 * t + 3 + k - (61 + 21 * t) = k by omega]
    by_cases c : k < 3 * u.n
    · rw [if_pos c, if_pos c]
      obtain ⟨h1, h2, h3⟩ := hX.2 (k / 3) (by omega)
      by_cases m0 : k % 3 = 0
      · rw [if_pos m0, ← h1]; congr 1; omega
      · rw [if_neg m0]
        by_cases m1 : k % 3 = 1
        · rw [if_pos m1, ← h2]; congr 1; omega
        · rw [if_neg m1, ← h3]; congr 1; omega
    · rw [if_neg c, if_neg c]
  · rw [filA_out (by omega), ds_ne (by omega), upd_ne (by omega)]

set_option maxRecDepth 100000 in
set_option maxHeartbeats 4000000 in
theorem c_def_166 {ae ad : Nat → Nat} {sh : mSh} {σ : mSt} {z2 z3 z4 : Int32} {base R : Nat → Int32} {t mc ms : Nat} {u : RS} {Post : mPost} (hm : mModel ad sh) (ht : t < 6) (hX : rdX (σ.1 65) u) (h6 : u.n ≤ 6) (hR0 : σ.1 65 = R) (K : ∀ σ' : mSt, (σ'.1 62 = filA (58 + 21 * t + 3) (fun i => if i < 3 * u.n then R (1 + i) else 0) base 18 ∧ (∀ j, j ≠ 62 → σ'.1 j = σ.1 j) ∧ σ'.2 = σ.2) → Ev RX10 cX10_define 8 false (some .int) (mRm 6 mc ms) ae Post 219 [some (.ref (ad 61)), some (.int (nI t)), some (.int z2), some (.int z3), some (.int z4), some (.int (nI 18)), none, none] [] mc ms ad sh σ') : ∀ (n i : Nat), 18 - i = n → i ≤ 18 → ∀ σ2 : mSt, (σ2.1 62 = filA (58 + 21 * t + 3) (fun i => if i < 3 * u.n then R (1 + i) else 0) base i ∧ (∀ j, j ≠ 62 → σ2.1 j = σ.1 j) ∧ σ2.2 = σ.2) → Ev RX10 cX10_define 8 false (some .int) (mRm 6 mc ms) ae Post 166 [some (.ref (ad 61)), some (.int (nI t)), some (.int z2), some (.int z3), some (.int z4), some (.int (nI i)), none, none] [] mc ms ad sh σ2 := by
  intro n
  induction n with
  | zero =>
    intro i hn hi σ2 hR
    have e0 : i = 18 := by omega
    subst e0
    refine ev_iload_5 dX10_define_166 ?_
    refine ev_bipush_18 dX10_define_168 ?_
    refine ev_icmp_ge (tgt := 219) dX10_define_170 (by decide) (fun h170 => ?_) (fun h170 => absurd (by decide) h170)
    exact K σ2 hR
  | succ n ih =>
    intro i hn hi σ2 hR
    have hlt : i < 18 := by omega
    obtain ⟨hg, hF, hll⟩ := hR
    have hr : σ2.1 65 = R := (hF 65 (by decide)).trans hR0
    rw [hR0] at hX
    have h3n : (3 : Int32) = nI 3 := rfl
    refine ev_iload_5 dX10_define_166 ?_
    refine ev_bipush_18 dX10_define_168 ?_
    refine ev_icmp_ge (tgt := 219) dX10_define_170 (by decide) (fun h170 => absurd h170 (show ¬ nI 18 ≤ nI i from nI_ge hlt (by decide))) (fun h170 => ?_)
    refine ev_aload_0 dX10_define_173 ?_
    refine gf_X10_11 dX10_define_174 hm.1 rfl ?_
    refine ev_iload_1 dX10_define_177 ?_
    refine kl_X10_54 (c_typeAt (t := (t))) dX10_define_178 rfl (Nat.le_of_ble_eq_true rfl) (Nat.le_refl _) (Nat.le_refl _) ?_
    refine ev_iconst_3 dX10_define_181 ?_
    refine ev_iadd dX10_define_182 ?_
    rw [show nI (58 + 21 * t) + (3 : Int32) = nI (58 + 21 * t + 3) from nI_add (58 + 21 * t) (3)]
    refine ev_iload_5 dX10_define_183 ?_
    refine ev_iadd dX10_define_185 ?_
    rw [show nI (58 + 21 * t + 3) + nI i = nI (58 + 21 * t + 3 + i) from nI_add (58 + 21 * t + 3) (i)]
    refine ev_iload_5 dX10_define_186 ?_
    refine ev_iconst_3 dX10_define_188 ?_
    refine ev_aload_0 dX10_define_189 ?_
    refine gf_X10_21 dX10_define_190 hm.1 rfl ?_
    refine ev_iconst_0 dX10_define_193 ?_
    refine ev_ldk (k := 0) hm.2.2.2.2.1 hr rfl (by omega) (by decide) dX10_define_194 ?_
    rw [hX.1]
    refine ev_imul dX10_define_195 ?_
    rw [show (3 : Int32) * nI (u.n) = nI (3 * u.n) from nI_mul (3) (u.n)]
    refine ev_icmp_ge (tgt := 211) dX10_define_196 (by decide) (fun h196 => ?_) (fun h196 => ?_)
    · refine ev_iconst_0 dX10_define_211 ?_
      refine ev_stk (k := 58 + 21 * t + 3 + i) hm.2.1 hg rfl (by omega) (by decide) dX10_define_212 (fun σ212 hw212 hf212 hl212 => ?_)
      have zread_212 := (hf212 65 (by omega)).trans hr
      refine ev_iinc_5 (v := 1) dX10_define_213 (by decide) rfl rfl ?_
      rw [show nI i + 1 = nI (i + 1) from nI_add (i) 1]
      refine ev_goto (tgt := 166) dX10_define_216 (by decide) ?_
      have hlt3 : ¬ i < 3 * u.n := fun z => absurd h196 (nI_ge z (by omega))
      refine ih (i + 1) (by omega) (by omega) _ ⟨?_, fun j hj => (hf212 j hj).trans (hF j hj), hl212.trans hll⟩
      rw [hw212, ← filA_s]
      congr 1
      exact (if_neg hlt3).symm
    · have hb18 : i < 3 * u.n := Nat.lt_of_not_le fun z => h196 (nI_le z (by omega))
      refine ev_aload_0 dX10_define_199 ?_
      refine gf_X10_21 dX10_define_200 hm.1 rfl ?_
      refine ev_iconst_1 dX10_define_203 ?_
      refine ev_iload_5 dX10_define_204 ?_
      refine ev_iadd dX10_define_206 ?_
      rw [show (1 : Int32) + nI i = nI (1 + i) from nI_add (1) (i)]
      refine ev_ldk (k := 1 + i) hm.2.2.2.2.1 hr rfl (by omega) (by decide) dX10_define_207 ?_
      refine ev_goto (tgt := 212) dX10_define_208 (by decide) ?_
      refine ev_stk (k := 58 + 21 * t + 3 + i) hm.2.1 hg rfl (by omega) (by decide) dX10_define_212 (fun σ212 hw212 hf212 hl212 => ?_)
      have zread_212 := (hf212 65 (by omega)).trans hr
      refine ev_iinc_5 (v := 1) dX10_define_213 (by decide) rfl rfl ?_
      rw [show nI i + 1 = nI (i + 1) from nI_add (i) 1]
      refine ev_goto (tgt := 166) dX10_define_216 (by decide) ?_
      have hlt3 : i < 3 * u.n := Nat.lt_of_not_le fun z => h196 (nI_le z (by omega))
      refine ih (i + 1) (by omega) (by omega) _ ⟨?_, fun j hj => (hf212 j hj).trans (hF j hj), hl212.trans hll⟩
      rw [hw212, ← filA_s]
      congr 1
      exact (if_pos hlt3).symm
/-- what define leaves when the tape is read badly, seen from σ -/
def dfBad (σ σ' : mSt) (x r : Int32) (m : Nat) : Prop := x = -100 - maxR r (nI m) ∧ σ'.1 61 = upd (σ.1 61) 4 0 ∧ (∀ j, j ≠ 61 → σ'.1 j = σ.1 j) ∧ σ'.2 = σ.2
def dfOk (σ σ' : mSt) (x : Int32) (g : Nat → Int32) (t : Nat) (u : RS) : Prop := x = nI u.n ∧ σ'.1 62 = begG (defS g t u) ∧ σ'.1 61 = upd (upd (σ.1 61) 4 0) 13 0 ∧ (∀ k, k < 3 → σ'.1 72 k = -1) ∧ (∀ j, j ≠ 61 → j ≠ 62 → j ≠ 72 → σ'.1 j = σ.1 j) ∧ σ'.2 = σ.2
set_option maxRecDepth 100000 in
set_option maxHeartbeats 4000000 in
theorem c_def_126 {ae ad : Nat → Nat} {sh : mSh} {σ : mSt} {z2 r : Int32} {g : Nat → Int32} {t m mc ms : Nat} {u : RS} {Post : mPost} (hm : mModel ad sh) (ht : t < 6) (hX : rdX (σ.1 65) u) (hu : okX u) (hg : σ.1 62 = g) (hG : wfP g) (hW : wfL g) (h1 : r < 0 → 1 ≤ u.n) (hP : ∀ x σ', ((¬ r < 0 → dfBad σ σ' x r m) ∧ (r < 0 → dfOk σ σ' x g t u)) → Post (some (.int x)) ad sh σ') : Ev RX10 cX10_define 8 false (some .int) (mRm 6 mc ms) ae Post 126 [some (.ref (ad 61)), some (.int (nI t)), some (.int z2), some (.int (nI m)), some (.int r), none, none, none] [] mc ms ad sh σ := by
  have h6 : u.n ≤ 6 := hu.1.1
  refine ev_aload_0 dX10_define_126 ?_
  refine ev_iconst_0 dX10_define_127 ?_
  refine pf_X10_85 dX10_define_128 hm.1 rfl ?_
  refine ev_abs (fun σ128 hw128 hf128 hl128 => ?_)
  have znow_128 := (hf128 62 (by omega)).trans hg
  have zread_128 := (hf128 65 (by omega)).trans (Eq.refl _)
  have hnow128 : σ128.1 62 = g := (hf128 62 (by decide)).trans hg
  refine ev_iload_4 dX10_define_131 ?_
  refine ev_if_lt (tgt := 146) dX10_define_133 (by decide) (fun h133 => ?_) (fun h133 => ?_)
  · refine ev_aload_0 dX10_define_146 ?_
    refine gf_X10_11 dX10_define_147 hm.1 rfl ?_
    refine ev_iload_1 dX10_define_150 ?_
    refine kl_X10_54 (c_typeAt (t := (t))) dX10_define_151 rfl (Nat.le_of_ble_eq_true rfl) (Nat.le_refl _) (Nat.le_refl _) ?_
    refine ev_iconst_2 dX10_define_154 ?_
    refine ev_iadd dX10_define_155 ?_
    rw [show nI (58 + 21 * t) + (2 : Int32) = nI (58 + 21 * t + 2) from nI_add (58 + 21 * t) (2)]
    refine ev_aload_0 dX10_define_156 ?_
    refine gf_X10_21 dX10_define_157 hm.1 rfl ?_
    refine ev_iconst_0 dX10_define_160 ?_
    refine ev_ldk (k := 0) hm.2.2.2.2.1 zread_128 rfl (by omega) (by decide) dX10_define_161 ?_
    rw [show σ.1 65 0 = nI u.n from hX.1]
    refine ev_stk (k := 58 + 21 * t + 2) hm.2.1 znow_128 rfl (by omega) (by decide) dX10_define_162 (fun σ162 hw162 hf162 hl162 => ?_)
    have zread_162 := (hf162 65 (by omega)).trans zread_128
    refine ev_iconst_0 dX10_define_163 ?_
    refine ev_istore_5 dX10_define_164 rfl rfl ?_
    have hXb : rdX (σ162.1 65) u := by rw [hf162 65 (by decide), hf128 65 (by decide)]; exact hX
    have hneg : r < 0 := h133
    refine c_def_166 (σ := σ162) hm ht hXb h6 rfl (fun σ4 h4 => ?_) 18 0 rfl (Nat.zero_le _) σ162 ⟨by rw [filA_0], fun _ _ => rfl, rfl⟩
    obtain ⟨n4, F4, L4⟩ := h4
    rw [hw162, def_fun hXb h6] at n4
    refine ev_aload_0 dX10_define_219 ?_
    refine kg_X10_58 (c_mBegins hm n4 (ds_wfP hG) (ds_wfL hW ht hu (h1 hneg))) hm.1 dX10_define_220 rfl (Nat.le_of_ble_eq_true rfl) (Nat.le_refl _) (Nat.le_refl _) (fun σ5 h5 => ?_)
    obtain ⟨b1, b2, b3, b4, b5⟩ := h5
    refine ev_aload_0 dX10_define_223 ?_
    refine gf_X10_21 dX10_define_224 hm.1 rfl ?_
    refine ev_iconst_0 dX10_define_227 ?_
    refine ev_ldk (k := 0) hm.2.2.2.2.1 rfl rfl (by decide) (by decide) dX10_define_228 ?_
    have e65 : σ5.1 65 0 = nI u.n := by rw [b4 65 (by decide) (by decide) (by decide), F4 65 (by decide)]; exact hXb.1
    rw [e65]
    refine ev_ret (v := some (.int _)) dX10_define_229 (Nat.le_refl _) (Nat.le_refl _) (Or.inr (Or.inl ⟨.int, _, rfl, rfl, rfl, mNar_int _⟩)) (hP _ _ ⟨fun h => absurd hneg h, fun _ => ⟨rfl, b1, ?_, b3, fun j x1 x2 x3 => ?_, ?_⟩⟩)
    · rw [b2, F4 61 (by decide), hf162 61 (by decide), hw128]
    · rw [b4 j x1 x2 x3, F4 j x2, hf162 j x2, hf128 j x1]
    · rw [b5, L4, hl162, hl128]
  · refine ev_bipush_m100 dX10_define_136 ?_
    refine ev_iload_4 dX10_define_138 ?_
    refine ev_iload_3 dX10_define_140 ?_
    refine ev_max lk_X10_105 (Nat.le_of_ble_eq_true rfl) (Nat.le_of_ble_eq_true rfl) (Nat.le_of_ble_eq_true rfl) (Nat.le_refl _) (Nat.le_refl _) dX10_define_141 ?_
    refine ev_isub dX10_define_144 ?_
    exact ev_ret (v := some (.int _)) dX10_define_145 (Nat.le_refl _) (Nat.le_refl _) (Or.inr (Or.inl ⟨.int, _, rfl, rfl, rfl, mNar_int _⟩)) (hP _ _ ⟨fun _ => ⟨rfl, hw128, hf128, hl128⟩, fun h => absurd h h133⟩)
