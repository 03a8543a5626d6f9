theorem step_dig {s : RS} {c : Int32} (h : s.isDig c) : s.step c = some (s.dig c) := if_pos h
theorem step_full {s : RS} {c : Int32} (h : ¬ s.isDig c) (h2 : s.full) : s.step c = none := by rw [RS.step, if_neg h, if_pos h2]
theorem step_mod {s : RS} {c : Int32} (h : ¬ s.isDig c) (h2 : ¬ s.full) (h3 : ¬ indF 14 (chI c) 0 < 0) : s.step c = some (s.mod (indF 14 (chI c) 0)) := by rw [RS.step, if_neg h, if_neg h2, if_neg h3]
theorem step_part {s : RS} {c : Int32} (h : ¬ s.isDig c) (h2 : ¬ s.full) (h3 : indF 14 (chI c) 0 < 0) (h4 : ¬ indF 15 (chI c) 0 < 0) : s.step c = some (s.part (indF 15 (chI c) 0)) := by rw [RS.step, if_neg h, if_neg h2, if_pos h3, if_neg h4]
theorem step_no {s : RS} {c : Int32} (h : ¬ s.isDig c) (h2 : ¬ s.full) (h3 : indF 14 (chI c) 0 < 0) (h4 : indF 15 (chI c) 0 < 0) : s.step c = none := by rw [RS.step, if_neg h, if_neg h2, if_pos h3, if_pos h4]
theorem rd_none {T : Nat → Int32} {tl i : Nat} {s : RS} (h : i < tl) (e : s.step (T i) = none) : rdF T tl i (tl - i) s = (nI i, s) := by
  rw [show tl - i = (tl - (i + 1)) + 1 by omega, rdF, e]
theorem rd_some {T : Nat → Int32} {tl i : Nat} {s s' : RS} (h : i < tl) (e : s.step (T i) = some s') : rdF T tl i (tl - i) s = rdF T tl (i + 1) (tl - (i + 1)) s' := by
  rw [show tl - i = (tl - (i + 1)) + 1 by omega, rdF, e]
theorem rd_end {T : Nat → Int32} {tl : Nat} {s : RS} : rdF T tl tl (tl - tl) s = (if s.ip = true ∨ s.n = 0 then nI tl else -1, s) := by
  rw [Nat.sub_self]; rfl
theorem dig_R {σ : mSt} {r : Nat} {s : RS} {c x : Int32} (hS : rsR σ r s) (hx : x = if c = 48 then 5 else c - 48) : rsR (mr σ.1 (r + 3) (upd (σ.1 (r + 3)) (s.n - 1) x), σ.2) r (s.dig c) ∧ frT σ (mr σ.1 (r + 3) (upd (σ.1 (r + 3)) (s.n - 1) x), σ.2) r := by
  obtain ⟨h1, h2, h3, h4⟩ := hS
  refine ⟨⟨?_, ?_, ?_, ?_⟩, fun k hk => ?_, rfl⟩
  · dsimp only
    rw [mr_ne _ _ (by omega)]; exact h1
  · dsimp only
    rw [mr_ne _ _ (by omega)]; exact h2
  · dsimp only
    rw [mr_ne _ _ (by omega)]; exact h3
  · dsimp only
    rw [mr_at, h4, hx]; rfl
  · dsimp only
    rw [mr_ne _ _ (by omega)]

set_option maxRecDepth 100000 in
set_option maxHeartbeats 4000000 in
theorem c_rp_109 {ae ad : Nat → Nat} {sh : mSh} {σ : mSt} {σ0 : mSt} {r t i : Nat} {s : RS} {c : Int32} {Z : Int32 × RS} (hr : mReader ad sh r) (hp : mLine ad sh t) (hS : rsR σ r s) (hO : s.ok) (hF : frT σ0 σ r) (hnd : ¬ s.isDig c)  (hnf : ¬ s.full) (hn6 : s.n < 6) (K : ∀ (s' : RS) (σ' : mSt), s.step c = some s' → s'.ok → rsR σ' r s' → frT σ0 σ' r → Ev RX4 cX4_readParts 9 false (some .int) (mRm 4 0 0) ae (mPi ad sh (fun x σ' => x = Z.1 ∧ rsR σ' r Z.2 ∧ frT σ0 σ' r)) 15 [some (.ref (ad r)), some (.ref (ad t)), some (.int s'.mk), some (.int (b2i s'.ip)), some (.int (b2i s'.dg)), some (.int (nI (i + 1))), none, none, none] [] 0 0 ad sh σ') (N : s.step c = none → Z = (nI i, s)) : Ev RX4 cX4_readParts 9 false (some .int) (mRm 4 0 0) ae (mPi ad sh (fun x σ' => x = Z.1 ∧ rsR σ' r Z.2 ∧ frT σ0 σ' r)) 109 [some (.ref (ad r)), some (.ref (ad t)), some (.int s.mk), some (.int (b2i s.ip)), some (.int (b2i s.dg)), some (.int (nI i)), some (.int c), none, none] [] 0 0 ad sh σ := by
  by_cases hmo : indF 14 (chI c) 0 < 0
  · by_cases hat : indF 15 (chI c) 0 < 0
    · refine ev_ldcs (q := 14) rfl dX4_readParts_109 ?_
      refine ev_iload_6 dX4_readParts_111 ?_
      refine ev_i2c dX4_readParts_113 ?_
      refine ct_X4_68 (c_ind (i := 14) (by decide) (c := chI c)) (by decide) dX4_readParts_114 rfl (Nat.le_of_ble_eq_true rfl) ?_
      refine ev_istore_7 dX4_readParts_117 rfl rfl ?_
      refine ev_ldcs (q := 15) rfl dX4_readParts_119 ?_
      refine ev_iload_6 dX4_readParts_121 ?_
      refine ev_i2c dX4_readParts_123 ?_
      refine ct_X4_68 (c_ind (i := 15) (by decide) (c := chI c)) (by decide) dX4_readParts_124 rfl (Nat.le_of_ble_eq_true rfl) ?_
      refine ev_istore_8 dX4_readParts_127 rfl rfl ?_
      refine ev_iload_7 dX4_readParts_129 ?_
      refine ev_if_ge (tgt := 142) dX4_readParts_131 (by decide) (fun h131 => absurd h131 (Int32.not_le.mpr hmo)) (fun h131 => ?_)
      refine ev_iload_8 dX4_readParts_134 ?_
      refine ev_if_ge (tgt := 142) dX4_readParts_136 (by decide) (fun h136 => absurd h136 (Int32.not_le.mpr hat)) (fun h136 => ?_)
      refine ev_iload_5 dX4_readParts_139 ?_
      exact ev_pi dX4_readParts_141 ⟨by rw [N (step_no hnd hnf hmo hat)], by rw [N (step_no hnd hnf hmo hat)]; exact hS, hF⟩
    · refine ev_ldcs (q := 14) rfl dX4_readParts_109 ?_
      refine ev_iload_6 dX4_readParts_111 ?_
      refine ev_i2c dX4_readParts_113 ?_
      refine ct_X4_68 (c_ind (i := 14) (by decide) (c := chI c)) (by decide) dX4_readParts_114 rfl (Nat.le_of_ble_eq_true rfl) ?_
      refine ev_istore_7 dX4_readParts_117 rfl rfl ?_
      refine ev_ldcs (q := 15) rfl dX4_readParts_119 ?_
      refine ev_iload_6 dX4_readParts_121 ?_
      refine ev_i2c dX4_readParts_123 ?_
      refine ct_X4_68 (c_ind (i := 15) (by decide) (c := chI c)) (by decide) dX4_readParts_124 rfl (Nat.le_of_ble_eq_true rfl) ?_
      refine ev_istore_8 dX4_readParts_127 rfl rfl ?_
      refine ev_iload_7 dX4_readParts_129 ?_
      refine ev_if_ge (tgt := 142) dX4_readParts_131 (by decide) (fun h131 => absurd h131 (Int32.not_le.mpr hmo)) (fun h131 => ?_)
      refine ev_iload_8 dX4_readParts_134 ?_
      refine ev_if_ge (tgt := 142) dX4_readParts_136 (by decide) (fun h136 => ?_) (fun h136 => absurd (Int32.not_lt.mp hat) h136)
      refine ev_iload_7 dX4_readParts_142 ?_
      refine ev_if_lt (tgt := 157) dX4_readParts_144 (by decide) (fun h144 => ?_) (fun h144 => absurd hmo h144)
      refine ev_aload_0 dX4_readParts_157 ?_
      refine ev_iload_8 dX4_readParts_158 ?_
      refine ev_iload_2 dX4_readParts_160 ?_
      refine cg_X4_73 (c_addPart (t := indF 15 (chI c) 0) hr hS hn6) hr.1 dX4_readParts_161 rfl (Nat.le_of_ble_eq_true rfl) (fun σ9 h9 => ?_)
      obtain ⟨h9, f9⟩ := h9
      refine ev_iconst_0 dX4_readParts_164 ?_
      refine ev_istore_2 dX4_readParts_165 rfl rfl ?_
      refine ev_iload_7 dX4_readParts_166 ?_
      refine ev_if_lt (tgt := 175) dX4_readParts_168 (by decide) (fun h168 => ?_) (fun h168 => absurd hmo h168)
      refine ev_iconst_0 dX4_readParts_175 ?_
      refine ev_istore_3 dX4_readParts_176 rfl rfl ?_
      refine ev_iload_3 dX4_readParts_177 ?_
      refine ev_if_ne (tgt := 185) dX4_readParts_178 (by decide) (fun h178 => absurd h178 (by decide)) (fun h178 => ?_)
      refine ev_iconst_1 dX4_readParts_181 ?_
      refine ev_goto (tgt := 186) dX4_readParts_182 (by decide) ?_
      refine ev_istore_4 dX4_readParts_186 rfl rfl ?_
      refine ev_iinc_5 (v := 1) dX4_readParts_188 (by decide) rfl rfl ?_
      refine ev_goto (tgt := 15) dX4_readParts_191 (by decide) ?_
      refine ev_drop_6 ?_
      refine ev_drop_7 ?_
      refine ev_drop_8 ?_
      exact Ev.to (by rw [nI_1]; rfl) rfl rfl (K (s.part (indF 15 (chI c) 0)) σ9 (step_part hnd hnf hmo hat) (RS.part_ok hn6) h9 (hF.tr f9))
  · refine ev_ldcs (q := 14) rfl dX4_readParts_109 ?_
    refine ev_iload_6 dX4_readParts_111 ?_
    refine ev_i2c dX4_readParts_113 ?_
    refine ct_X4_68 (c_ind (i := 14) (by decide) (c := chI c)) (by decide) dX4_readParts_114 rfl (Nat.le_of_ble_eq_true rfl) ?_
    refine ev_istore_7 dX4_readParts_117 rfl rfl ?_
    refine ev_ldcs (q := 15) rfl dX4_readParts_119 ?_
    refine ev_iload_6 dX4_readParts_121 ?_
    refine ev_i2c dX4_readParts_123 ?_
    refine ct_X4_68 (c_ind (i := 15) (by decide) (c := chI c)) (by decide) dX4_readParts_124 rfl (Nat.le_of_ble_eq_true rfl) ?_
    refine ev_istore_8 dX4_readParts_127 rfl rfl ?_
    refine ev_iload_7 dX4_readParts_129 ?_
    refine ev_if_ge (tgt := 142) dX4_readParts_131 (by decide) (fun h131 => ?_) (fun h131 => absurd (Int32.not_lt.mp hmo) h131)
    refine ev_iload_7 dX4_readParts_142 ?_
    refine ev_if_lt (tgt := 157) dX4_readParts_144 (by decide) (fun h144 => absurd h144 hmo) (fun h144 => ?_)
    refine ev_iload_2 dX4_readParts_147 ?_
    refine ev_iconst_1 dX4_readParts_148 ?_
    refine ev_iload_7 dX4_readParts_149 ?_
    refine ev_ishl dX4_readParts_151 ?_
    refine ev_ior dX4_readParts_152 ?_
    refine ev_istore_2 dX4_readParts_153 rfl rfl ?_
    refine ev_goto (tgt := 166) dX4_readParts_154 (by decide) ?_
    refine ev_iload_7 dX4_readParts_166 ?_
    refine ev_if_lt (tgt := 175) dX4_readParts_168 (by decide) (fun h168 => absurd h168 hmo) (fun h168 => ?_)
    refine ev_iconst_1 dX4_readParts_171 ?_
    refine ev_goto (tgt := 176) dX4_readParts_172 (by decide) ?_
    refine ev_istore_3 dX4_readParts_176 rfl rfl ?_
    refine ev_iload_3 dX4_readParts_177 ?_
    refine ev_if_ne (tgt := 185) dX4_readParts_178 (by decide) (fun h178 => ?_) (fun h178 => ?_)
    · refine ev_iconst_0 dX4_readParts_185 ?_
      refine ev_istore_4 dX4_readParts_186 rfl rfl ?_
      refine ev_iinc_5 (v := 1) dX4_readParts_188 (by decide) rfl rfl ?_
      refine ev_goto (tgt := 15) dX4_readParts_191 (by decide) ?_
      refine ev_drop_6 ?_
      refine ev_drop_7 ?_
      refine ev_drop_8 ?_
      exact Ev.to (by rw [nI_1]; rfl) rfl rfl (K (s.mod (indF 14 (chI c) 0)) σ (step_mod hnd hnf hmo) (RS.mod_ok hn6) hS hF)
    · exact absurd h178 (by decide)
set_option maxRecDepth 100000 in
set_option maxHeartbeats 4000000 in
theorem c_rp_93 {ae ad : Nat → Nat} {sh : mSh} {σ : mSt} {σ0 : mSt} {r t i : Nat} {s : RS} {c : Int32} {Z : Int32 × RS} (hr : mReader ad sh r) (hp : mLine ad sh t) (hS : rsR σ r s) (hO : s.ok) (hF : frT σ0 σ r) (hnd : ¬ s.isDig c)  (K : ∀ (s' : RS) (σ' : mSt), s.step c = some s' → s'.ok → rsR σ' r s' → frT σ0 σ' r → Ev RX4 cX4_readParts 9 false (some .int) (mRm 4 0 0) ae (mPi ad sh (fun x σ' => x = Z.1 ∧ rsR σ' r Z.2 ∧ frT σ0 σ' r)) 15 [some (.ref (ad r)), some (.ref (ad t)), some (.int s'.mk), some (.int (b2i s'.ip)), some (.int (b2i s'.dg)), some (.int (nI (i + 1))), none, none, none] [] 0 0 ad sh σ') (N : s.step c = none → Z = (nI i, s)) : Ev RX4 cX4_readParts 9 false (some .int) (mRm 4 0 0) ae (mPi ad sh (fun x σ' => x = Z.1 ∧ rsR σ' r Z.2 ∧ frT σ0 σ' r)) 93 [some (.ref (ad r)), some (.ref (ad t)), some (.int s.mk), some (.int (b2i s.ip)), some (.int (b2i s.dg)), some (.int (nI i)), some (.int c), none, none] [] 0 0 ad sh σ := by
  refine ev_iload_3 dX4_readParts_93 ?_
  refine ev_if_ne (tgt := 109) dX4_readParts_94 (by decide) (fun h94 => ?_) (fun h94 => ?_)
  · first
    | exact c_rp_109 hr hp hS hO hF hnd (fun z => absurd (z.1.symm.trans (b2i_t h94)) (by decide)) (hO.2.1 (b2i_t h94)) K N
    | exact c_rp_109 hr hp hS hO hF hnd (fun z => z.2 ((nI_ltI (b := 6) (by have := hO.1; omega) (by decide)).mp h103)) ((nI_ltI (b := 6) (by have := hO.1; omega) (by decide)).mp h103) K N
  · refine ev_aload_0 dX4_readParts_97 ?_
    refine gf_X4_57 dX4_readParts_98 hr.1 rfl ?_
    rw [hS.1]
    refine ev_bipush_6 dX4_readParts_101 ?_
    refine ev_icmp_lt (tgt := 109) dX4_readParts_103 (by decide) (fun h103 => ?_) (fun h103 => ?_)
    · first
      | exact c_rp_109 hr hp hS hO hF hnd (fun z => absurd (z.1.symm.trans (b2i_t h94)) (by decide)) (hO.2.1 (b2i_t h94)) K N
      | exact c_rp_109 hr hp hS hO hF hnd (fun z => z.2 ((nI_ltI (b := 6) (by have := hO.1; omega) (by decide)).mp h103)) ((nI_ltI (b := 6) (by have := hO.1; omega) (by decide)).mp h103) K N
    · refine ev_iload_5 dX4_readParts_106 ?_
      have hfu : s.full := ⟨(b2i_0 _).mp h94, fun z => h103 (nI_lt z (by decide))⟩
      exact ev_pi dX4_readParts_108 ⟨by rw [N (step_full hnd hfu)], by rw [N (step_full hnd hfu)]; exact hS, hF⟩
