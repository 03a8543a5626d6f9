/-- a new reference has been made behind S -/
def mN10 (ad : Nat → Nat) (S : mSh) (σ : mSt) : mPost := fun v ad' sh' σ' => v = none ∧ (∀ j, j < 62 → ad' j = ad j) ∧ sh' = S ++ mdS ad' ∧ σ'.1 62 = begG g0 ∧ σ'.1 61 = upd (σ.1 61) 13 0 ∧ (∀ k, k < 3 → σ'.1 72 k = -1) ∧ (∀ j, j ≠ 61 → j ≠ 62 → j ≠ 72 → σ'.1 j = σ.1 j) ∧ σ'.2 = σ.2
set_option maxRecDepth 100000 in
set_option maxHeartbeats 4000000 in
theorem c_X10_init {ae ad : Nat → Nat} {σ : mSt} {S : mSh} (hS : S.length = 61) (hz : mZ σ 61) : Ct yX10_init cX10_init 2 none 3 14 17820 [.ref (ad 61)] ae ad (S ++ [.inr (10, [.null, .null, .int 0, .null, .int 0, .int 0, .null, .null, .null, .null, .null, .null, .null, .int 0, .null, .null, .null, .int 0, .null])]) σ (mN10 ad S σ) := by
  refine Ct.ofL (own := RX10) (ini := true) (ls := [some (.ref (ad 61)), none]) (by decide +kernel) rfl (fun _ => rfl) (Nat.le_of_ble_eq_true rfl) rfl ?_
  refine ev_aload_0 dX10_init_0 ?_
  refine ev_objInit ow_X10_5 oi_in oi_co (Nat.le_of_ble_eq_true rfl) (Nat.le_of_ble_eq_true rfl) (Nat.le_of_ble_eq_true rfl) dX10_init_1 ?_
  refine md_at0 hS hz (fun ad1 h1 => ?_)
  refine md_at1 hS hz (fun ad2 h2 => ?_)
  refine md_at2 hS hz (fun ad3 h3 => ?_)
  refine md_at3 hS hz (fun ad4 h4 => ?_)
  refine Ev.sh (sh' := S ++ mdS ad4) rfl ?_
  have ha : ∀ j, j < 62 → ad4 j = ad j := fun j hj => by rw [h4 j (by omega), h3 j (by omega), h2 j (by omega), h1 j (by omega)]
  have hm : mModel ad4 (S ++ mdS ad4) := mdS_ok hS
  obtain ⟨sh1, es⟩ : ∃ sh1, sh1 = S ++ mdS ad4 := ⟨_, rfl⟩
  rw [← es] at hm ⊢
  have hg : σ.1 62 = fun _ => 0 := (hz 62 (by decide)).1
  refine ev_aload_0 dX10_init_120 ?_
  refine gf_X10_11 dX10_init_121 hm.1 rfl ?_
  refine ev_bipush_53 dX10_init_124 ?_
  refine ev_iconst_5 dX10_init_126 ?_
  refine ev_stk (k := 53) hm.2.1 hg rfl (by omega) (by decide) dX10_init_127 (fun σ127 hw127 hf127 hl127 => ?_)
  refine ev_aload_0 dX10_init_128 ?_
  refine gf_X10_11 dX10_init_129 hm.1 rfl ?_
  refine ev_bipush_54 dX10_init_132 ?_
  refine ev_iconst_5 dX10_init_134 ?_
  refine ev_stk (k := 54) hm.2.1 hw127 rfl (by omega) (by decide) dX10_init_135 (fun σ135 hw135 hf135 hl135 => ?_)
  refine ev_iconst_0 dX10_init_136 ?_
  refine ev_istore_1 dX10_init_137 rfl rfl ?_
  refine ev_iload_1 dX10_init_138 ?_
  refine ev_bipush_6 dX10_init_139 ?_
  refine ev_icmp_ge (tgt := 162) dX10_init_141 (by decide) (fun h141 => absurd h141 (by decide)) (fun h141 => ?_)
  refine ev_aload_0 dX10_init_144 ?_
  refine gf_X10_11 dX10_init_145 hm.1 rfl ?_
  refine ev_iload_1 dX10_init_148 ?_
  refine kl_X10_54 (c_typeAt (t := (0))) dX10_init_149 rfl (Nat.le_of_ble_eq_true rfl) (Nat.le_of_ble_eq_true rfl) (Nat.le_of_ble_eq_true rfl) ?_
  refine ev_iconst_2 dX10_init_152 ?_
  refine ev_iadd dX10_init_153 ?_
  rw [show nI (58 + 21 * 0) + (2 : Int32) = nI (58 + 21 * 0 + 2) from nI_add (58 + 21 * 0) (2)]
  refine ev_iconst_m1 dX10_init_154 ?_
  refine ev_stk (k := 58 + 21 * 0 + 2) hm.2.1 hw135 rfl (by omega) (by decide) dX10_init_155 (fun σ155 hw155 hf155 hl155 => ?_)
  refine ev_iinc_1 (v := 1) dX10_init_156 (by decide) rfl rfl ?_
  rw [show (0 : Int32) + (1) = 1 from rfl]
  refine ev_goto (tgt := 138) dX10_init_159 (by decide) ?_
  refine ev_iload_1 dX10_init_138 ?_
  refine ev_bipush_6 dX10_init_139 ?_
  refine ev_icmp_ge (tgt := 162) dX10_init_141 (by decide) (fun h141 => absurd h141 (by decide)) (fun h141 => ?_)
  refine ev_aload_0 dX10_init_144 ?_
  refine gf_X10_11 dX10_init_145 hm.1 rfl ?_
  refine ev_iload_1 dX10_init_148 ?_
  refine kl_X10_54 (c_typeAt (t := (1))) dX10_init_149 rfl (Nat.le_of_ble_eq_true rfl) (Nat.le_of_ble_eq_true rfl) (Nat.le_of_ble_eq_true rfl) ?_
  refine ev_iconst_2 dX10_init_152 ?_
  refine ev_iadd dX10_init_153 ?_
  rw [show nI (58 + 21 * 1) + (2 : Int32) = nI (58 + 21 * 1 + 2) from nI_add (58 + 21 * 1) (2)]
  refine ev_iconst_m1 dX10_init_154 ?_
  refine ev_stk (k := 58 + 21 * 1 + 2) hm.2.1 hw155 rfl (by omega) (by decide) dX10_init_155 (fun σ155r1 hw155r1 hf155r1 hl155r1 => ?_)
  refine ev_iinc_1 (v := 1) dX10_init_156 (by decide) rfl rfl ?_
  rw [show (1 : Int32) + (1) = 2 from rfl]
  refine ev_goto (tgt := 138) dX10_init_159 (by decide) ?_
  refine ev_iload_1 dX10_init_138 ?_
  refine ev_bipush_6 dX10_init_139 ?_
  refine ev_icmp_ge (tgt := 162) dX10_init_141 (by decide) (fun h141 => absurd h141 (by decide)) (fun h141 => ?_)
  refine ev_aload_0 dX10_init_144 ?_
  refine gf_X10_11 dX10_init_145 hm.1 rfl ?_
  refine ev_iload_1 dX10_init_148 ?_
  refine kl_X10_54 (c_typeAt (t := (2))) dX10_init_149 rfl (Nat.le_of_ble_eq_true rfl) (Nat.le_of_ble_eq_true rfl) (Nat.le_of_ble_eq_true rfl) ?_
  refine ev_iconst_2 dX10_init_152 ?_
  refine ev_iadd dX10_init_153 ?_
  rw [show nI (58 + 21 * 2) + (2 : Int32) = nI (58 + 21 * 2 + 2) from nI_add (58 + 21 * 2) (2)]
  refine ev_iconst_m1 dX10_init_154 ?_
  refine ev_stk (k := 58 + 21 * 2 + 2) hm.2.1 hw155r1 rfl (by omega) (by decide) dX10_init_155 (fun σ155r2 hw155r2 hf155r2 hl155r2 => ?_)
  refine ev_iinc_1 (v := 1) dX10_init_156 (by decide) rfl rfl ?_
  rw [show (2 : Int32) + (1) = 3 from rfl]
  refine ev_goto (tgt := 138) dX10_init_159 (by decide) ?_
  refine ev_iload_1 dX10_init_138 ?_
  refine ev_bipush_6 dX10_init_139 ?_
  refine ev_icmp_ge (tgt := 162) dX10_init_141 (by decide) (fun h141 => absurd h141 (by decide)) (fun h141 => ?_)
  refine ev_aload_0 dX10_init_144 ?_
  refine gf_X10_11 dX10_init_145 hm.1 rfl ?_
  refine ev_iload_1 dX10_init_148 ?_
  refine kl_X10_54 (c_typeAt (t := (3))) dX10_init_149 rfl (Nat.le_of_ble_eq_true rfl) (Nat.le_of_ble_eq_true rfl) (Nat.le_of_ble_eq_true rfl) ?_
  refine ev_iconst_2 dX10_init_152 ?_
  refine ev_iadd dX10_init_153 ?_
  rw [show nI (58 + 21 * 3) + (2 : Int32) = nI (58 + 21 * 3 + 2) from nI_add (58 + 21 * 3) (2)]
  refine ev_iconst_m1 dX10_init_154 ?_
  refine ev_stk (k := 58 + 21 * 3 + 2) hm.2.1 hw155r2 rfl (by omega) (by decide) dX10_init_155 (fun σ155r3 hw155r3 hf155r3 hl155r3 => ?_)
  refine ev_iinc_1 (v := 1) dX10_init_156 (by decide) rfl rfl ?_
  rw [show (3 : Int32) + (1) = 4 from rfl]
  refine ev_goto (tgt := 138) dX10_init_159 (by decide) ?_
  refine ev_iload_1 dX10_init_138 ?_
  refine ev_bipush_6 dX10_init_139 ?_
  refine ev_icmp_ge (tgt := 162) dX10_init_141 (by decide) (fun h141 => absurd h141 (by decide)) (fun h141 => ?_)
  refine ev_aload_0 dX10_init_144 ?_
  refine gf_X10_11 dX10_init_145 hm.1 rfl ?_
  refine ev_iload_1 dX10_init_148 ?_
  refine kl_X10_54 (c_typeAt (t := (4))) dX10_init_149 rfl (Nat.le_of_ble_eq_true rfl) (Nat.le_of_ble_eq_true rfl) (Nat.le_of_ble_eq_true rfl) ?_
  refine ev_iconst_2 dX10_init_152 ?_
  refine ev_iadd dX10_init_153 ?_
  rw [show nI (58 + 21 * 4) + (2 : Int32) = nI (58 + 21 * 4 + 2) from nI_add (58 + 21 * 4) (2)]
  refine ev_iconst_m1 dX10_init_154 ?_
  refine ev_stk (k := 58 + 21 * 4 + 2) hm.2.1 hw155r3 rfl (by omega) (by decide) dX10_init_155 (fun σ155r4 hw155r4 hf155r4 hl155r4 => ?_)
  refine ev_iinc_1 (v := 1) dX10_init_156 (by decide) rfl rfl ?_
  rw [show (4 : Int32) + (1) = 5 from rfl]
  refine ev_goto (tgt := 138) dX10_init_159 (by decide) ?_
  refine ev_iload_1 dX10_init_138 ?_
  refine ev_bipush_6 dX10_init_139 ?_
  refine ev_icmp_ge (tgt := 162) dX10_init_141 (by decide) (fun h141 => absurd h141 (by decide)) (fun h141 => ?_)
  refine ev_aload_0 dX10_init_144 ?_
  refine gf_X10_11 dX10_init_145 hm.1 rfl ?_
  refine ev_iload_1 dX10_init_148 ?_
  refine kl_X10_54 (c_typeAt (t := (5))) dX10_init_149 rfl (Nat.le_of_ble_eq_true rfl) (Nat.le_of_ble_eq_true rfl) (Nat.le_of_ble_eq_true rfl) ?_
  refine ev_iconst_2 dX10_init_152 ?_
  refine ev_iadd dX10_init_153 ?_
  rw [show nI (58 + 21 * 5) + (2 : Int32) = nI (58 + 21 * 5 + 2) from nI_add (58 + 21 * 5) (2)]
  refine ev_iconst_m1 dX10_init_154 ?_
  refine ev_stk (k := 58 + 21 * 5 + 2) hm.2.1 hw155r4 rfl (by omega) (by decide) dX10_init_155 (fun σ155r5 hw155r5 hf155r5 hl155r5 => ?_)
  refine ev_iinc_1 (v := 1) dX10_init_156 (by decide) rfl rfl ?_
  rw [show (5 : Int32) + (1) = 6 from rfl]
  refine ev_goto (tgt := 138) dX10_init_159 (by decide) ?_
  refine ev_iload_1 dX10_init_138 ?_
  refine ev_bipush_6 dX10_init_139 ?_
  refine ev_icmp_ge (tgt := 162) dX10_init_141 (by decide) (fun h141 => ?_) (fun h141 => (by exfalso; revert h141; decide))
  have hg1 : σ155r5.1 62 = g0 := hw155r5
  refine ev_aload_0 dX10_init_162 ?_
  refine kg_X10_58 (c_mBegins hm hg1 g0_P g0_L) hm.1 dX10_init_163 rfl (Nat.le_of_ble_eq_true rfl) (Nat.le_of_ble_eq_true rfl) (Nat.le_of_ble_eq_true rfl) (fun σ8 h8 => ?_)
  obtain ⟨b1, b2, b3, b4, b5⟩ := h8
  have fr : ∀ j, j ≠ 62 → σ155r5.1 j = σ.1 j := fun j x62 => by rw [hf155r5 j x62, hf155r4 j x62, hf155r3 j x62, hf155r2 j x62, hf155r1 j x62, hf155 j x62, hf135 j x62, hf127 j x62]
  exact ev_ret (v := none) dX10_init_166 (Nat.le_of_ble_eq_true rfl) (Nat.le_of_ble_eq_true rfl) (Or.inl ⟨rfl, rfl, rfl⟩) ⟨rfl, ha, es, b1, by rw [b2, fr 61 (by decide)], b3, fun j x y z => (b4 j x y z).trans (fr j y), b5.trans (by rw [hl155r5, hl155r4, hl155r3, hl155r2, hl155r1, hl155, hl135, hl127])⟩
