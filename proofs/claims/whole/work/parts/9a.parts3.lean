theorem ind_18 {c : Int32} {f : Nat} : indF 18 c f = indF 14 c f := rfl
theorem ind_19 {c : Int32} {f : Nat} : indF 19 c f = indF 15 c f := rfl
theorem chI_k : ∀ k, k < 128 → chI (nI k) = nI k := by decide +kernel
/-- the row read holds u -/
def rdX (R : Nat → Int32) (u : RS) : Prop := R 0 = nI u.n ∧ ∀ j, j < u.n → R (1 + 3 * j) = u.m j ∧ R (1 + 3 * j + 1) = u.a j ∧ R (1 + 3 * j + 2) = u.r j
theorem rdX_part {R : Nat → Int32} {u : RS} {b : Int32} (h : rdX R u) : rdX (upd (upd (upd (upd R 0 (nI (u.n + 1))) (1 + 3 * u.n) u.mk) (1 + 3 * u.n + 1) b) (1 + 3 * u.n + 2) (-1)) (u.partX b) := by
  refine ⟨?_, fun j hj => ?_⟩
  · rw [upd_ne (by omega), upd_ne (by omega), upd_ne (by omega), upd_at]; rfl
  · have hj2 : j < u.n + 1 := hj
    show _ = upd u.m u.n u.mk j ∧ _ = upd u.a u.n b j ∧ _ = upd u.r u.n (-1) j
    by_cases z : j = u.n
    · subst z
      rw [upd_at, upd_at, upd_at, upd_ne (by omega), upd_ne (by omega), upd_at, upd_ne (by omega), upd_at, upd_at]
      exact ⟨rfl, rfl, rfl⟩
    · rw [upd_ne z, upd_ne z, upd_ne z]
      obtain ⟨h1, h2, h3⟩ := h.2 j (by omega)
      refine ⟨?_, ?_, ?_⟩
      · rw [upd_ne (by omega), upd_ne (by omega), upd_ne (by omega), upd_ne (by omega)]; exact h1
      · rw [upd_ne (by omega), upd_ne (by omega), upd_ne (by omega), upd_ne (by omega)]; exact h2
      · rw [upd_ne (by omega), upd_ne (by omega), upd_ne (by omega), upd_ne (by omega)]; exact h3
theorem rdX_dig {R : Nat → Int32} {u : RS} {c : Int32} {n : Nat} (h : rdX R u) (hn : u.n = n + 1) : rdX (upd R (1 + 3 * n + 2) (c - 48)) (u.digX c) := by
  refine ⟨?_, fun j hj => ?_⟩
  · rw [upd_ne (by omega)]; exact h.1
  · have hj2 : j < u.n := hj
    show _ = u.m j ∧ _ = u.a j ∧ _ = upd u.r (u.n - 1) (c - 48) j
    rw [hn, Nat.add_sub_cancel]
    obtain ⟨h1, h2, h3⟩ := h.2 j hj2
    refine ⟨by rw [upd_ne (by omega)]; exact h1, by rw [upd_ne (by omega)]; exact h2, ?_⟩
    by_cases z : j = n
    · rw [z, upd_at, upd_at]
    · rw [upd_ne (by omega), upd_ne z]; exact h3
theorem xF_mod {T : Nat → Int32} {tl i : Nat} {u : RS} (hi : i < tl) (h : ¬ u.isDig (T i)) (hf : u.n < 6) (hc : chI (T i) = T i) (h2 : ¬ indF 14 (T i) 0 < 0) : xF T tl i (tl - i) u = xF T tl (i + 1) (tl - (i + 1)) (u.mod (indF 14 (T i) 0)) := by
  rw [show tl - i = (tl - (i + 1)) + 1 by omega, xF]
  have e : u.stepX (T i) = some (u.mod (indF 14 (T i) 0)) := by
    unfold RS.stepX
    rw [if_neg h, if_neg (fun z => z.2 hf), hc, if_neg h2]
  rw [e]
theorem xF_part {T : Nat → Int32} {tl i : Nat} {u : RS} (hi : i < tl) (h : ¬ u.isDig (T i)) (hf : u.n < 6) (hc : chI (T i) = T i) (h2 : indF 14 (T i) 0 < 0) (h3 : ¬ indF 15 (T i) 0 < 0) : xF T tl i (tl - i) u = xF T tl (i + 1) (tl - (i + 1)) (u.partX (indF 15 (T i) 0)) := by
  rw [show tl - i = (tl - (i + 1)) + 1 by omega, xF]
  have e : u.stepX (T i) = some (u.partX (indF 15 (T i) 0)) := by
    unfold RS.stepX
    rw [if_neg h, if_neg (fun z => z.2 hf), hc, if_pos h2, if_neg h3]
  rw [e]
theorem xF_no {T : Nat → Int32} {tl i : Nat} {u : RS} (hi : i < tl) (h : ¬ u.isDig (T i)) (hc : chI (T i) = T i) (h2 : u.full ∨ (indF 14 (T i) 0 < 0 ∧ indF 15 (T i) 0 < 0)) : xF T tl i (tl - i) u = (nI i, u) := by
  rw [show tl - i = (tl - (i + 1)) + 1 by omega, xF]
  have e : u.stepX (T i) = none := by
    unfold RS.stepX
    rw [if_neg h]
    by_cases f : u.full
    · rw [if_pos f]
    · rw [if_neg f, hc]
      obtain ⟨a, b⟩ := h2.resolve_left f
      rw [if_pos a, if_pos b]
  rw [e]
theorem xF_dig {T : Nat → Int32} {tl i : Nat} {u : RS} (hi : i < tl) (h : u.isDig (T i)) : xF T tl i (tl - i) u = xF T tl (i + 1) (tl - (i + 1)) (u.digX (T i)) := by
  rw [show tl - i = (tl - (i + 1)) + 1 by omega, xF]
  have e : u.stepX (T i) = some (u.digX (T i)) := by
    unfold RS.stepX
    rw [if_pos h]
  rw [e]
/-- only the row read has changed -/
def parR (σ σ' : mSt) (u : RS) : Prop := rdX (σ'.1 65) u ∧ (∀ j, j ≠ 65 → σ'.1 j = σ.1 j) ∧ σ'.2 = σ.2

set_option maxRecDepth 100000 in
set_option maxHeartbeats 4000000 in
theorem c_par_39 {ae ad : Nat → Nat} {sh : mSh} {σ : mSt} (hm : mModel ad sh) {S : Nat → Int32} {qb tl : Nat} (hq : sh[qb]? = some (.inl 60)) (hqb : qb ≠ 65) (htl : tl ≤ 60) (hS0 : σ.1 qb = S) (hS : ∀ i, i < tl → ∃ k, k < 128 ∧ S i = nI k) {Q : Int32 × RS} {i0 : Nat} (K : ∀ i, i0 < i → i ≤ tl → ∀ (u : RS) (σ2 : mSt), u.ip = false → u.mk = 0 → u.n ≤ 6 → (i < tl → ¬ u.isDig (S i)) → parR σ σ2 u → xF S tl i (tl - i) u = Q →  Ev RX10 cX10_parts 6 false (some .int) (mRm 4 0 0) ae (mPi ad sh (fun x σ' => x = Q.1 ∧ parR σ σ' Q.2))  9 [some (.ref (ad 61)), some (.ref (ad qb)), some (.int (nI tl)), some (.int (nI i)), none, none] [] 0 0 ad sh σ2) : ∀ (n i : Nat), tl - i = n → i0 ≤ i → i ≤ tl → ∀ (u : RS) (σ2 : mSt), u.n < 6 → (i < tl → ¬ u.isDig (S i)) → (i < tl ∨ u.ip = true ∨ u.n = 0) → parR σ σ2 u → xF S tl i (tl - i) u = Q → Ev RX10 cX10_parts 6 false (some .int) (mRm 4 0 0) ae (mPi ad sh (fun x σ' => x = Q.1 ∧ parR σ σ' Q.2))  39 [some (.ref (ad 61)), some (.ref (ad qb)), some (.int (nI tl)), some (.int (nI i)), some (.int (u.mk)), none] [] 0 0 ad sh σ2 := by
  intro n
  induction n with
  | zero =>
    intro i hn h0 hi u σ2 hu hd he hR e
    have e0 : i = tl := by omega
    subst e0
    refine ev_iload_3 dX10_parts_39 ?_
    refine ev_iload_2 dX10_parts_40 ?_
    refine ev_icmp_ge (tgt := 76) dX10_parts_41 (by decide) (fun h41 => ?_) (fun h41 => absurd (Int32.le_refl _) h41)
    refine ev_iload_3 dX10_parts_76 ?_
    refine ev_iload_2 dX10_parts_77 ?_
    refine ev_icmp_eq (tgt := 92) dX10_parts_78 (by decide) (fun h78 => ?_) (fun h78 => absurd rfl h78)
    refine ev_iload_3 dX10_parts_92 ?_
    have hx : xF S i i (i - i) u = (nI i, u) := by
      rw [Nat.sub_self, xF, if_pos (he.resolve_left (Nat.lt_irrefl _))]
    exact ev_pi dX10_parts_93 ⟨by rw [← e, hx], by rw [← e, hx]; exact hR⟩
  | succ n ih =>
    intro i hn h0 hi u σ2 hu hd he hR e
    have hlt : i < tl := by omega
    obtain ⟨k, hk, ek⟩ := hS i hlt
    have hc : chI (S i) = S i := by rw [ek]; exact chI_k k hk
    have hnd := hd hlt
    have hR0 := hR
    obtain ⟨hX, hF, hll⟩ := hR
    have hb : σ2.1 qb = S := (hF qb hqb).trans hS0
    obtain ⟨R, hr⟩ : ∃ R, R = σ2.1 65 := ⟨_, rfl⟩
    have hr2 : σ2.1 65 = R := hr.symm
    rw [← hr] at hX
    refine ev_iload_3 dX10_parts_39 ?_
    refine ev_iload_2 dX10_parts_40 ?_
    refine ev_icmp_ge (tgt := 76) dX10_parts_41 (by decide) (fun h41 => absurd h41 (nI_ge hlt (by omega))) (fun h41 => ?_)
    refine ev_ldcs (q := 18) rfl dX10_parts_44 ?_
    refine ev_aload_1 dX10_parts_46 ?_
    refine ev_iload_3 dX10_parts_47 ?_
    refine ev_ldk (k := i) hq hb rfl (by omega) (by decide) dX10_parts_48 ?_
    refine ct_X10_116 (c_ind (i := 18) (by decide)) (by decide) dX10_parts_49 rfl (Nat.le_of_ble_eq_true rfl) ?_
    rw [ind_18]
    refine ev_if_lt (tgt := 76) dX10_parts_52 (by decide) (fun h52 => ?_) (fun h52 => ?_)
    · refine ev_iload_3 dX10_parts_76 ?_
      refine ev_iload_2 dX10_parts_77 ?_
      refine ev_icmp_eq (tgt := 92) dX10_parts_78 (by decide) (fun h78 => absurd h78 (fun z => by have := (nI_eq (by omega) (by omega)).mp z; omega)) (fun h78 => ?_)
      refine ev_ldcs (q := 19) rfl dX10_parts_81 ?_
      refine ev_aload_1 dX10_parts_83 ?_
      refine ev_iload_3 dX10_parts_84 ?_
      refine ev_ldk (k := i) hq hb rfl (by omega) (by decide) dX10_parts_85 ?_
      refine ct_X10_116 (c_ind (i := 19) (by decide)) (by decide) dX10_parts_86 rfl (Nat.le_of_ble_eq_true rfl) ?_
      rw [ind_19]
      refine ev_if_ge (tgt := 94) dX10_parts_89 (by decide) (fun h89 => ?_) (fun h89 => ?_)
      · refine ev_iconst_1 dX10_parts_94 ?_
        refine ev_iconst_3 dX10_parts_95 ?_
        refine ev_aload_0 dX10_parts_96 ?_
        refine gf_X10_21 dX10_parts_97 hm.1 rfl ?_
        refine ev_iconst_0 dX10_parts_100 ?_
        refine ev_dup2 dX10_parts_101 rfl rfl ?_
        refine ev_ldk (k := 0) hm.2.2.2.2.1 hr2 rfl (by omega) (by decide) dX10_parts_102 ?_
        rw [hX.1]
        refine ev_dup_x2 dX10_parts_103 rfl rfl rfl ?_
        refine ev_iconst_1 dX10_parts_104 ?_
        refine ev_iadd dX10_parts_105 ?_
        rw [show nI (u.n) + (1 : Int32) = nI (u.n + 1) from nI_add (u.n) (1)]
        refine ev_stk (k := 0) hm.2.2.2.2.1 hr2 rfl (by omega) (by decide) dX10_parts_106 (fun σ106 hw106 hf106 hl106 => ?_)
        have zinto_106 := (hf106 qb (by omega)).trans hb
        refine ev_imul dX10_parts_107 ?_
        rw [show (3 : Int32) * nI (u.n) = nI (3 * u.n) from nI_mul (3) (u.n)]
        refine ev_iadd dX10_parts_108 ?_
        rw [show (1 : Int32) + nI (3 * u.n) = nI (1 + (3 * u.n)) from nI_add (1) (3 * u.n)]
        refine ev_istore_5 dX10_parts_109 rfl rfl ?_
        refine ev_aload_0 dX10_parts_111 ?_
        refine gf_X10_21 dX10_parts_112 hm.1 rfl ?_
        refine ev_iload_5 dX10_parts_115 ?_
        refine ev_iload_4 dX10_parts_117 ?_
        refine ev_stk (k := 1 + (3 * u.n)) hm.2.2.2.2.1 hw106 rfl (by omega) (by decide) dX10_parts_119 (fun σ119 hw119 hf119 hl119 => ?_)
        have zinto_119 := (hf119 qb (by omega)).trans zinto_106
        refine ev_aload_0 dX10_parts_120 ?_
        refine gf_X10_21 dX10_parts_121 hm.1 rfl ?_
        refine ev_iload_5 dX10_parts_124 ?_
        refine ev_iconst_1 dX10_parts_126 ?_
        refine ev_iadd dX10_parts_127 ?_
        rw [show nI (1 + (3 * u.n)) + (1 : Int32) = nI (1 + (3 * u.n) + 1) from nI_add (1 + (3 * u.n)) (1)]
        refine ev_ldcs (q := 19) rfl dX10_parts_128 ?_
        refine ev_aload_1 dX10_parts_130 ?_
        refine ev_iload_3 dX10_parts_131 ?_
        refine ev_iinc_3 (v := 1) dX10_parts_132 (by decide) rfl rfl ?_
        rw [show nI i + 1 = nI (i + 1) from nI_add (i) 1]
        refine ev_ldk (k := i) hq zinto_119 rfl (by omega) (by decide) dX10_parts_135 ?_
        refine ct_X10_116 (c_ind (i := 19) (by decide)) (by decide) dX10_parts_136 rfl (Nat.le_of_ble_eq_true rfl) ?_
        rw [ind_19]
        refine ev_stk (k := 1 + (3 * u.n) + 1) hm.2.2.2.2.1 hw119 rfl (by omega) (by decide) dX10_parts_139 (fun σ139 hw139 hf139 hl139 => ?_)
        have zinto_139 := (hf139 qb (by omega)).trans zinto_119
        refine ev_aload_0 dX10_parts_140 ?_
        refine gf_X10_21 dX10_parts_141 hm.1 rfl ?_
        refine ev_iload_5 dX10_parts_144 ?_
        refine ev_iconst_2 dX10_parts_146 ?_
        refine ev_iadd dX10_parts_147 ?_
        rw [show nI (1 + (3 * u.n)) + (2 : Int32) = nI (1 + (3 * u.n) + 2) from nI_add (1 + (3 * u.n)) (2)]
        refine ev_iconst_m1 dX10_parts_148 ?_
        refine ev_stk (k := 1 + (3 * u.n) + 2) hm.2.2.2.2.1 hw139 rfl (by omega) (by decide) dX10_parts_149 (fun σ149 hw149 hf149 hl149 => ?_)
        have zinto_149 := (hf149 qb (by omega)).trans zinto_139
        have h14 : indF 14 (S i) 0 < 0 := h52
        have h15 : ¬ indF 15 (S i) 0 < 0 := fun z => absurd h89 (Int32.not_le.mpr z)
        have e1 := (xF_part hlt hnd hu hc h14 h15).symm.trans e
        have hXq := rdX_part (b := indF 15 (S i) 0) hX
        have hXp : rdX (σ149.1 65) (u.partX (indF 15 (S i) 0)) := by
          rw [hw149]
          exact rdX_part hX
        have hFp : ∀ j, j ≠ 65 → σ149.1 j = σ.1 j := fun j hj => (hf149 j hj).trans ((hf139 j hj).trans ((hf119 j hj).trans ((hf106 j hj).trans (hF j hj))))
        have hlp : σ149.2 = σ.2 := hl149.trans (hl139.trans (hl119.trans (hl106.trans hll)))
        refine ev_iload_3 dX10_parts_150 ?_
        refine ev_iload_2 dX10_parts_151 ?_
        refine ev_icmp_ge (tgt := 194) dX10_parts_152 (by decide) (fun h152 => ?_) (fun h152 => ?_)
        · skip
          refine ev_goto (tgt := 9) dX10_parts_194 (by decide) ?_
          refine ev_drop_5 ?_
          refine ev_drop_4 ?_
          exact K (i + 1) (by omega) (by omega) (u.partX (indF 15 (S i) 0)) σ149 rfl rfl (by show u.n + 1 ≤ 6; omega) (fun z => absurd h152 (nI_ge z (by omega))) ⟨hXp, hFp, hlp⟩ e1
        · have hlt2 : i + 1 < tl := Nat.lt_of_not_le fun z => h152 (nI_le z (by omega))
          refine ev_aload_1 dX10_parts_155 ?_
          refine ev_iload_3 dX10_parts_156 ?_
          refine ev_ldk (k := i + 1) hq zinto_149 rfl (by omega) (by decide) dX10_parts_157 ?_
          refine ev_bipush_48 dX10_parts_158 ?_
          refine ev_icmp_eq (tgt := 176) dX10_parts_160 (by decide) (fun h160 => ?_) (fun h160 => ?_)
          · have hlt2 : i + 1 < tl := Nat.lt_of_not_le fun z => h152 (nI_le z (by omega))
            refine ev_aload_0 dX10_parts_176 ?_
            refine gf_X10_21 dX10_parts_177 hm.1 rfl ?_
            refine ev_iload_5 dX10_parts_180 ?_
            refine ev_iconst_2 dX10_parts_182 ?_
            refine ev_iadd dX10_parts_183 ?_
            rw [show nI (1 + (3 * u.n)) + (2 : Int32) = nI (1 + (3 * u.n) + 2) from nI_add (1 + (3 * u.n)) (2)]
            refine ev_aload_1 dX10_parts_184 ?_
            refine ev_iload_3 dX10_parts_185 ?_
            refine ev_iinc_3 (v := 1) dX10_parts_186 (by decide) rfl rfl ?_
            rw [show nI (i + 1) + 1 = nI (i + 1 + 1) from nI_add (i + 1) 1]
            refine ev_ldk (k := i + 1) hq zinto_149 rfl (by omega) (by decide) dX10_parts_189 ?_
            refine ev_bipush_48 dX10_parts_190 ?_
            refine ev_isub dX10_parts_192 ?_
            refine ev_stk (k := 1 + (3 * u.n) + 2) hm.2.2.2.2.1 hw149 rfl (by omega) (by decide) dX10_parts_193 (fun σ193 hw193 hf193 hl193 => ?_)
            have zinto_193 := (hf193 qb (by omega)).trans zinto_149
            skip
            refine ev_goto (tgt := 9) dX10_parts_194 (by decide) ?_
            refine ev_drop_5 ?_
            refine ev_drop_4 ?_
            have hdg : (u.partX (indF 15 (S i) 0)).isDig (S (i + 1)) := ⟨rfl, Or.inl h160⟩
            refine K (i + 1 + 1) (by omega) (by omega) ((u.partX (indF 15 (S i) 0)).digX (S (i + 1))) σ193 rfl rfl (by show u.n + 1 ≤ 6; omega) (fun _ z => by cases z.1) ⟨?_, fun j hj => (hf193 j hj).trans (hFp j hj), hl193.trans hlp⟩ ((xF_dig (by omega) hdg).symm.trans e1)
            rw [hw193]
            exact rdX_dig hXq rfl
          · skip
            refine ev_aload_1 dX10_parts_163 ?_
            refine ev_iload_3 dX10_parts_164 ?_
            refine ev_ldk (k := i + 1) hq zinto_149 rfl (by omega) (by decide) dX10_parts_165 ?_
            refine ev_bipush_50 dX10_parts_166 ?_
            refine ev_bipush_53 dX10_parts_168 ?_
            refine cl_X10_61 c_mIn dX10_parts_170 rfl (Nat.le_of_ble_eq_true rfl) ?_
            refine ev_if_eq (tgt := 194) dX10_parts_173 (by decide) (fun h173 => ?_) (fun h173 => ?_)
            · skip
              refine ev_goto (tgt := 9) dX10_parts_194 (by decide) ?_
              refine ev_drop_5 ?_
              refine ev_drop_4 ?_
              refine K (i + 1) (by omega) (by omega) (u.partX (indF 15 (S i) 0)) σ149 rfl rfl (by show u.n + 1 ≤ 6; omega) (fun _ z => ?_) ⟨hXp, hFp, hlp⟩ e1
              rcases z.2 with z2 | z2
              · exact h160 z2
              · exact absurd (b2i_0 _ |>.mp h173) (by rw [show inB (S (i + 1)) 50 53 = true from decide_eq_true z2]; decide)
            · have hlt2 : i + 1 < tl := Nat.lt_of_not_le fun z => h152 (nI_le z (by omega))
              refine ev_aload_0 dX10_parts_176 ?_
              refine gf_X10_21 dX10_parts_177 hm.1 rfl ?_
              refine ev_iload_5 dX10_parts_180 ?_
              refine ev_iconst_2 dX10_parts_182 ?_
              refine ev_iadd dX10_parts_183 ?_
              rw [show nI (1 + (3 * u.n)) + (2 : Int32) = nI (1 + (3 * u.n) + 2) from nI_add (1 + (3 * u.n)) (2)]
              refine ev_aload_1 dX10_parts_184 ?_
              refine ev_iload_3 dX10_parts_185 ?_
              refine ev_iinc_3 (v := 1) dX10_parts_186 (by decide) rfl rfl ?_
              rw [show nI (i + 1) + 1 = nI (i + 1 + 1) from nI_add (i + 1) 1]
              refine ev_ldk (k := i + 1) hq zinto_149 rfl (by omega) (by decide) dX10_parts_189 ?_
              refine ev_bipush_48 dX10_parts_190 ?_
              refine ev_isub dX10_parts_192 ?_
              refine ev_stk (k := 1 + (3 * u.n) + 2) hm.2.2.2.2.1 hw149 rfl (by omega) (by decide) dX10_parts_193 (fun σ193 hw193 hf193 hl193 => ?_)
              have zinto_193 := (hf193 qb (by omega)).trans zinto_149
              skip
              refine ev_goto (tgt := 9) dX10_parts_194 (by decide) ?_
              refine ev_drop_5 ?_
              refine ev_drop_4 ?_
              have hdg : (u.partX (indF 15 (S i) 0)).isDig (S (i + 1)) := ⟨rfl, Or.inr (of_decide_eq_true (b2i_t h173))⟩
              refine K (i + 1 + 1) (by omega) (by omega) ((u.partX (indF 15 (S i) 0)).digX (S (i + 1))) σ193 rfl rfl (by show u.n + 1 ≤ 6; omega) (fun _ z => by cases z.1) ⟨?_, fun j hj => (hf193 j hj).trans (hFp j hj), hl193.trans hlp⟩ ((xF_dig (by omega) hdg).symm.trans e1)
              rw [hw193]
              exact rdX_dig hXq rfl
      · refine ev_iload_3 dX10_parts_92 ?_
        have h14 : indF 14 (S i) 0 < 0 := h52
        have h15 : indF 15 (S i) 0 < 0 := Int32.not_le.mp h89
        have hx : xF S tl i (tl - i) u = (nI i, u) := xF_no hlt hnd hc (Or.inr ⟨h14, h15⟩)
        exact ev_pi dX10_parts_93 ⟨by rw [← e, hx], by rw [← e, hx]; exact hR0⟩
    · refine ev_iload_4 dX10_parts_55 ?_
      refine ev_iconst_1 dX10_parts_57 ?_
      refine ev_ldcs (q := 18) rfl dX10_parts_58 ?_
      refine ev_aload_1 dX10_parts_60 ?_
      refine ev_iload_3 dX10_parts_61 ?_
      refine ev_iinc_3 (v := 1) dX10_parts_62 (by decide) rfl rfl ?_
      rw [show nI i + 1 = nI (i + 1) from nI_add (i) 1]
      refine ev_ldk (k := i) hq hb rfl (by omega) (by decide) dX10_parts_65 ?_
      refine ct_X10_116 (c_ind (i := 18) (by decide)) (by decide) dX10_parts_66 rfl (Nat.le_of_ble_eq_true rfl) ?_
      rw [ind_18]
      refine ev_ishl dX10_parts_69 ?_
      refine ev_ior dX10_parts_70 ?_
      refine ev_istore_4 dX10_parts_71 rfl rfl ?_
      refine ev_goto (tgt := 39) dX10_parts_73 (by decide) ?_
      exact ih (i + 1) (by omega) (by omega) (by omega) (u.mod (indF 14 (S i) 0)) σ2 hu (fun _ z => by cases z.1) (Or.inr (Or.inl rfl)) hR0 ((xF_mod hlt hnd hu hc h52).symm.trans e)
set_option maxRecDepth 100000 in
set_option maxHeartbeats 4000000 in
theorem c_par_9 {ae ad : Nat → Nat} {sh : mSh} {σ : mSt} (hm : mModel ad sh) {S : Nat → Int32} {qb tl : Nat} (hq : sh[qb]? = some (.inl 60)) (hqb : qb ≠ 65) (htl : tl ≤ 60) (hS0 : σ.1 qb = S) (hS : ∀ i, i < tl → ∃ k, k < 128 ∧ S i = nI k) {Q : Int32 × RS} : ∀ (n i : Nat), tl - i < n → i ≤ tl → ∀ (u : RS) (σ2 : mSt), u.ip = false → u.mk = 0 → u.n ≤ 6 → (i < tl → ¬ u.isDig (S i)) → parR σ σ2 u → xF S tl i (tl - i) u = Q →  Ev RX10 cX10_parts 6 false (some .int) (mRm 4 0 0) ae (mPi ad sh (fun x σ' => x = Q.1 ∧ parR σ σ' Q.2))  9 [some (.ref (ad 61)), some (.ref (ad qb)), some (.int (nI tl)), some (.int (nI i)), none, none] [] 0 0 ad sh σ2 := by
  intro n
  induction n with
  | zero => intro i hn; omega
  | succ n ih =>
    intro i hn hi u σ2 hip hmk hn6 hd hR e
    have hR0 := hR
    obtain ⟨hX, hF, hll⟩ := hR
    obtain ⟨R, hr⟩ : ∃ R, R = σ2.1 65 := ⟨_, rfl⟩
    have hr2 : σ2.1 65 = R := hr.symm
    rw [← hr] at hX
    have KK := c_par_39 (ae := ae) hm hq hqb htl hS0 hS (i0 := i) (Q := Q) (fun j hj hjt u' σ' => ih j (by omega) hjt u' σ')
    refine ev_iload_3 dX10_parts_9 ?_
    refine ev_iload_2 dX10_parts_10 ?_
    refine ev_icmp_lt (tgt := 23) dX10_parts_11 (by decide) (fun h11 => ?_) (fun h11 => ?_)
    · refine ev_aload_0 dX10_parts_23 ?_
      refine gf_X10_21 dX10_parts_24 hm.1 rfl ?_
      refine ev_iconst_0 dX10_parts_27 ?_
      refine ev_ldk (k := 0) hm.2.2.2.2.1 hr2 rfl (by omega) (by decide) dX10_parts_28 ?_
      rw [hX.1]
      refine ev_bipush_6 dX10_parts_29 ?_
      refine ev_icmp_ne (tgt := 36) dX10_parts_31 (by decide) (fun h31 => ?_) (fun h31 => ?_)
      · refine ev_iconst_0 dX10_parts_36 ?_
        refine ev_istore_4 dX10_parts_37 rfl rfl ?_
        have hu : u.n < 6 := by
          have : u.n ≠ 6 := fun z => h31 (by rw [z]; rfl)
          omega
        exact Ev.to (by rw [hmk]) rfl rfl (KK (tl - i) i rfl (Nat.le_refl _) hi u σ2 hu hd (Or.inl ((nI_ltI (by omega) (by omega)).mp h11)) hR0 e)
      · refine ev_iload_3 dX10_parts_34 ?_
        have e6 : u.n = 6 := (nI_eq (b := 6) (by omega) (by decide)).mp (by first | exact h31 | exact Classical.not_not.mp h31)
        have hlt : i < tl := (nI_ltI (by omega) (by omega)).mp h11
        obtain ⟨k, hk, ek⟩ := hS i hlt
        have hx : xF S tl i (tl - i) u = (nI i, u) := xF_no hlt (hd hlt) (by rw [ek]; exact chI_k k hk) (Or.inl ⟨hip, by omega⟩)
        exact ev_pi dX10_parts_35 ⟨by rw [← e, hx], by rw [← e, hx]; exact hR0⟩
    · skip
      refine ev_aload_0 dX10_parts_14 ?_
      refine gf_X10_21 dX10_parts_15 hm.1 rfl ?_
      refine ev_iconst_0 dX10_parts_18 ?_
      refine ev_ldk (k := 0) hm.2.2.2.2.1 hr2 rfl (by omega) (by decide) dX10_parts_19 ?_
      rw [hX.1]
      refine ev_if_ne (tgt := 197) dX10_parts_20 (by decide) (fun h20 => ?_) (fun h20 => ?_)
      · refine ev_iconst_m1 dX10_parts_197 ?_
        have hn0 : ¬ u.n = 0 := fun z => h20 (by rw [z]; rfl)
        have ei : i = tl := Nat.le_antisymm hi (Nat.le_of_not_lt fun z => h11 (nI_lt z (by omega)))
        have hx : xF S tl i (tl - i) u = (-1, u) := by
          rw [ei, Nat.sub_self, xF, if_neg (fun z => z.elim (fun q => by rw [hip] at q; cases q) hn0)]
        exact ev_pi dX10_parts_198 ⟨by rw [← e, hx], by rw [← e, hx]; exact hR0⟩
      · refine ev_aload_0 dX10_parts_23 ?_
        refine gf_X10_21 dX10_parts_24 hm.1 rfl ?_
        refine ev_iconst_0 dX10_parts_27 ?_
        refine ev_ldk (k := 0) hm.2.2.2.2.1 hr2 rfl (by omega) (by decide) dX10_parts_28 ?_
        rw [hX.1]
        refine ev_bipush_6 dX10_parts_29 ?_
        refine ev_icmp_ne (tgt := 36) dX10_parts_31 (by decide) (fun h31 => ?_) (fun h31 => ?_)
        · refine ev_iconst_0 dX10_parts_36 ?_
          refine ev_istore_4 dX10_parts_37 rfl rfl ?_
          have hu : u.n < 6 := by
            have : u.n ≠ 6 := fun z => h31 (by rw [z]; rfl)
            omega
          exact Ev.to (by rw [hmk]) rfl rfl (KK (tl - i) i rfl (Nat.le_refl _) hi u σ2 hu hd (Or.inr (Or.inr ((nI_eq (b := 0) (by omega) (by decide)).mp (by first | exact h20 | exact Classical.not_not.mp h20)))) hR0 e)
        · refine ev_iload_3 dX10_parts_34 ?_
          have e6 : u.n = 6 := (nI_eq (b := 6) (by omega) (by decide)).mp (by first | exact h31 | exact Classical.not_not.mp h31)
          have hlt : i < tl := by
            have e0 := (nI_eq (a := u.n) (b := 0) (by omega) (by decide)).mp (by first | exact h20 | exact Classical.not_not.mp h20)
            omega
          obtain ⟨k, hk, ek⟩ := hS i hlt
          have hx : xF S tl i (tl - i) u = (nI i, u) := xF_no hlt (hd hlt) (by rw [ek]; exact chI_k k hk) (Or.inl ⟨hip, by omega⟩)
          exact ev_pi dX10_parts_35 ⟨by rw [← e, hx], by rw [← e, hx]; exact hR0⟩
set_option maxRecDepth 100000 in
set_option maxHeartbeats 4000000 in
theorem c_mParts {ae ad : Nat → Nat} {sh : mSh} {σ : mSt} (hm : mModel ad sh) {S : Nat → Int32} {qb tl : Nat} (hq : sh[qb]? = some (.inl 60)) (hqb : qb ≠ 65) (htl : tl ≤ 60) (hS0 : σ.1 qb = S) (hS : ∀ i, i < tl → ∃ k, k < 128 ∧ S i = nI k) : Ct yX10_parts cX10_parts 6 (some .int) 4 0 0 [.ref (ad 61), .ref (ad qb), .int (nI tl)] ae ad sh σ (mPi ad sh (fun x σ' => x = (xF S tl 0 tl u0).1 ∧ parR σ σ' (xF S tl 0 tl u0).2)) := by
  refine Ct.ofL (own := RX10) (ini := false) (ls := [some (.ref (ad 61)), some (.ref (ad qb)), some (.int (nI tl)), none, none, none]) (by decide +kernel) rfl (fun h => by cases h) (Nat.le_of_ble_eq_true rfl) rfl ?_
  refine ev_aload_0 dX10_parts_0 ?_
  refine gf_X10_21 dX10_parts_1 hm.1 rfl ?_
  refine ev_iconst_0 dX10_parts_4 ?_
  refine ev_iconst_0 dX10_parts_5 ?_
  refine ev_stk (k := 0) hm.2.2.2.2.1 rfl rfl (by omega) (by decide) dX10_parts_6 (fun σ6 hw6 hf6 hl6 => ?_)
  refine ev_iconst_0 dX10_parts_7 ?_
  refine ev_istore_3 dX10_parts_8 rfl rfl ?_
  exact Ev.to (by rfl) rfl rfl (c_par_9 hm hq hqb htl hS0 hS (tl + 1) 0 (by omega) (Nat.zero_le _) u0 σ6 rfl rfl (by decide) (fun _ z => by cases z.1) ⟨⟨by rw [hw6, upd_at]; rfl, fun j hj => absurd hj (Nat.not_lt_zero _)⟩, hf6, hl6⟩ rfl)
