def pmL (g : Nat → Int32) (m : Nat) : List Int32 := (if proB g m then [61, nI (leN (arrN g m))] else []) ++ (if chkB g m then [43] else [])
/-- the text of a move -/
def movL (g : Nat → Int32) (m : Nat) : List Int32 := (if mK m = 1 then [79, nI (48 + mA m)] else if mK m = 0 then [nI (leN (goerN g m))] ++ sqL g (mA m) ++ [if capN g m = 0 then 45 else 120] ++ sqL g (mB m) else [nI (leN (goerN g m)), 64] ++ sqL g (mB m)) ++ pmL g m
theorem lnL {σ0 σ : mSt} {g : Nat → Int32} {L : List Int32} (hn : lnR σ0 σ g L) (hL : lawR σ0 5 g) : lawR σ 5 g := lawR_lo hL (fun i hi => (hn.1 (5 + i) (by omega) (by omega) (by omega) (by omega) (by omega)).1)
theorem lnR.P {σ0 σ σ' : mSt} {g : Nat → Int32} {L : List Int32} (hn : lnR σ0 σ g L) (h : posR σ' 20 g ∧ ritR σ' 20 g) (f : frP σ σ' 20) : lnR σ0 σ' g L := by
  obtain ⟨h1, h2, h3, h4, h5⟩ := hn
  refine ⟨fun k a b c d e => ⟨(f k c d e).1.trans (h1 k a b c d e).1, (f k c d e).2.trans (h1 k a b c d e).2⟩, h, ?_, h4, ?_⟩
  · rw [(f 3 (by decide) (by decide) (by decide)).1]; exact h3
  · rw [(f 4 (by decide) (by decide) (by decide)).1]; exact h5

set_option maxRecDepth 100000 in
set_option maxHeartbeats 4000000 in
theorem c_wrMove_133 {ae ad : Nat → Nat} {sh : mSh} {σ : mSt} {σ0 : mSt} {g : Nat → Int32} {m : Nat} (hb : mBoard ad sh) (hG : wfP g) (hW : wfL g) (hL : lawR σ0 5 g) (hm : mvOk g m) {L M : List Int32} (hn : lnR σ0 σ g L) (hl : L.length ≤ 50) (hM : L ++ pmL g m = M) : Ev RX9 cX9_writeMove 2 false none (mRm 6 0 0) ae (mPv ad sh (fun σ' => lnR σ0 σ' g M)) 133 [some (.ref (ad 0)), some (.int (nI m))] [] 0 0 ad sh σ := by
  have hm2 := mvOk_lt hm
  have har := arr_ge hG hW hm
  have har2 := arr_le hG hW hm
  refine ev_aload_0 dX9_writeMove_133 ?_
  refine gf_X9_33 dX9_writeMove_134 hb.1 rfl ?_
  refine ev_aload_0 dX9_writeMove_137 ?_
  refine gf_X9_47 dX9_writeMove_138 hb.1 rfl ?_
  refine ev_iload_1 dX9_writeMove_141 ?_
  refine cl_X9_354 (c_promotes hb.2.2.2.2.1 hb.2.2.2.2.2.2.1 hG hW hn.2.1.1 (lnL hn hL) hm) hb.2.2.2.2.1.1 dX9_writeMove_142 rfl (Nat.le_of_ble_eq_true rfl) ?_
  refine ev_if_eq (tgt := 181) dX9_writeMove_145 (by decide) (fun h145 => ?_) (fun h145 => ?_)
  · have hp1 : proB g m = false := (b2i_0 _).mp h145
    refine ev_aload_0 dX9_writeMove_181 ?_
    refine ev_iload_1 dX9_writeMove_182 ?_
    refine cg_X9_235 (c_gvCheck hb hG hW hn.2.1.1 hn.2.1.2 (lnL hn hL) hm) hb.1 dX9_writeMove_183 rfl (Nat.le_of_ble_eq_true rfl) (fun rc σz h4 => ?_)
    obtain ⟨e4, h4, f4⟩ := h4
    subst e4
    have hn := hn.P h4 f4
    refine ev_if_eq (tgt := 199) dX9_writeMove_186 (by decide) (fun h186 => ?_) (fun h186 => ?_)
    · first
      | exact ev_pv dX9_writeMove_199 (by rw [← hM, pmL, hp1, (b2i_0 _).mp h186]; simpa using hn)
      | exact ev_pv dX9_writeMove_199 (by rw [← hM, pmL, hp1, show chkB g m = true from b2i_t h186]; simpa using hn)
    · refine ev_aload_0 dX9_writeMove_189 ?_
      refine gf_X9_18 dX9_writeMove_190 hb.1 rfl ?_
      refine ev_bipush_43 dX9_writeMove_193 ?_
      refine cg_X9_87 (c_lnAdd hb hn (by first | omega | (simp; omega))) hb.2.2.1.1 dX9_writeMove_195 rfl (Nat.le_of_ble_eq_true rfl) (fun rz σz hn => ?_)
      refine ev_pop dX9_writeMove_198 rfl ?_
      first
      | exact ev_pv dX9_writeMove_199 (by rw [← hM, pmL, hp1, (b2i_0 _).mp h186]; simpa using hn)
      | exact ev_pv dX9_writeMove_199 (by rw [← hM, pmL, hp1, show chkB g m = true from b2i_t h186]; simpa using hn)
  · have hp1 : proB g m = true := b2i_t h145
    refine ev_aload_0 dX9_writeMove_148 ?_
    refine gf_X9_18 dX9_writeMove_149 hb.1 rfl ?_
    refine ev_bipush_61 dX9_writeMove_152 ?_
    refine cg_X9_87 (c_lnAdd hb hn (by first | omega | (simp; omega))) hb.2.2.1.1 dX9_writeMove_154 rfl (Nat.le_of_ble_eq_true rfl) (fun rz σz hn => ?_)
    refine ev_pop dX9_writeMove_157 rfl ?_
    refine ev_aload_0 dX9_writeMove_158 ?_
    refine gf_X9_18 dX9_writeMove_159 hb.1 rfl ?_
    refine ev_aload_0 dX9_writeMove_162 ?_
    refine gf_X9_33 dX9_writeMove_163 hb.1 rfl ?_
    refine ev_aload_0 dX9_writeMove_166 ?_
    refine gf_X9_47 dX9_writeMove_167 hb.1 rfl ?_
    refine ev_iload_1 dX9_writeMove_170 ?_
    refine cl_X9_232 (c_arrival hb.2.2.2.2.1 hb.2.2.2.2.2.2.1 hG hW hn.2.1.1 (lnL hn hL) hm) hb.2.2.2.2.1.1 dX9_writeMove_171 rfl (Nat.le_of_ble_eq_true rfl) ?_
    refine cl_X9_389 c_letterOf dX9_writeMove_174 rfl (Nat.le_of_ble_eq_true rfl) ?_
    rw [leR_nI har har2]
    refine cg_X9_87 (c_lnAdd hb hn (by first | omega | (simp; omega))) hb.2.2.1.1 dX9_writeMove_177 rfl (Nat.le_of_ble_eq_true rfl) (fun rz σz hn => ?_)
    refine ev_pop dX9_writeMove_180 rfl ?_
    skip
    refine ev_aload_0 dX9_writeMove_181 ?_
    refine ev_iload_1 dX9_writeMove_182 ?_
    refine cg_X9_235 (c_gvCheck hb hG hW hn.2.1.1 hn.2.1.2 (lnL hn hL) hm) hb.1 dX9_writeMove_183 rfl (Nat.le_of_ble_eq_true rfl) (fun rc σz h4 => ?_)
    obtain ⟨e4, h4, f4⟩ := h4
    subst e4
    have hn := hn.P h4 f4
    refine ev_if_eq (tgt := 199) dX9_writeMove_186 (by decide) (fun h186 => ?_) (fun h186 => ?_)
    · first
      | exact ev_pv dX9_writeMove_199 (by rw [← hM, pmL, hp1, (b2i_0 _).mp h186]; simpa using hn)
      | exact ev_pv dX9_writeMove_199 (by rw [← hM, pmL, hp1, show chkB g m = true from b2i_t h186]; simpa using hn)
    · refine ev_aload_0 dX9_writeMove_189 ?_
      refine gf_X9_18 dX9_writeMove_190 hb.1 rfl ?_
      refine ev_bipush_43 dX9_writeMove_193 ?_
      refine cg_X9_87 (c_lnAdd hb hn (by first | omega | (simp; omega))) hb.2.2.1.1 dX9_writeMove_195 rfl (Nat.le_of_ble_eq_true rfl) (fun rz σz hn => ?_)
      refine ev_pop dX9_writeMove_198 rfl ?_
      first
      | exact ev_pv dX9_writeMove_199 (by rw [← hM, pmL, hp1, (b2i_0 _).mp h186]; simpa using hn)
      | exact ev_pv dX9_writeMove_199 (by rw [← hM, pmL, hp1, show chkB g m = true from b2i_t h186]; simpa using hn)
set_option maxRecDepth 100000 in
set_option maxHeartbeats 4000000 in
theorem c_wrMove0 {ae ad : Nat → Nat} {sh : mSh} {σ : mSt} {g : Nat → Int32} {m : Nat} (hb : mBoard ad sh) (hG : wfP g) (hW : wfL g) (hL : lawR σ 5 g) (hm : mvOk g m) (hP : posR σ 20 g) (hR : ritR σ 20 g) (hk : mK m = 0) : Ct yX9_writeMove cX9_writeMove 2 none 6 0 0 [.ref (ad 0), .int (nI m)] ae ad sh σ (mPv ad sh (fun σ' => lnR σ σ' g (movL g m))) := by
  refine Ct.ofL (own := RX9) (ini := false) (ls := [some (.ref (ad 0)), some (.int (nI m))]) (by decide +kernel) rfl (fun h => by cases h) (Nat.le_of_ble_eq_true rfl) rfl ?_
  have hm2 := mvOk_lt hm
  have hgo := goer_le hG hW hm
  have hcap := cap_le hG hm
  refine ev_aload_0 dX9_writeMove_0 ?_
  refine gf_X9_18 dX9_writeMove_1 hb.1 rfl ?_
  refine ev_iconst_0 dX9_writeMove_4 ?_
  refine pf_X9_91 dX9_writeMove_5 hb.2.2.1.1 rfl ?_
  have hn := ln_nil hP hR
  refine ev_iload_1 dX9_writeMove_8 ?_
  refine cl_X9_213 c_kindOf dX9_writeMove_9 rfl (Nat.le_of_ble_eq_true rfl) ?_
  rw [kiR_nI (by omega), hk]
  refine ev_iconst_1 dX9_writeMove_12 ?_
  refine ev_icmp_ne (tgt := 44) dX9_writeMove_13 (by decide) (fun h13 => ?_) (fun h13 => ?_)
  · refine ev_aload_0 dX9_writeMove_44 ?_
    refine gf_X9_18 dX9_writeMove_45 hb.1 rfl ?_
    refine ev_aload_0 dX9_writeMove_48 ?_
    refine gf_X9_33 dX9_writeMove_49 hb.1 rfl ?_
    refine ev_aload_0 dX9_writeMove_52 ?_
    refine gf_X9_47 dX9_writeMove_53 hb.1 rfl ?_
    refine ev_iload_1 dX9_writeMove_56 ?_
    refine cl_X9_222 (c_goer hb.2.2.2.2.1 hb.2.2.2.2.2.2.1 hG hW hn.2.1.1 (lnL hn hL) hm) hb.2.2.2.2.1.1 dX9_writeMove_57 rfl (Nat.le_of_ble_eq_true rfl) ?_
    refine cl_X9_389 c_letterOf dX9_writeMove_60 rfl (Nat.le_of_ble_eq_true rfl) ?_
    rw [leR_nI hgo.1 hgo.2]
    refine cg_X9_87 (c_lnAdd hb hn (by simp [sqL])) hb.2.2.1.1 dX9_writeMove_63 rfl (Nat.le_of_ble_eq_true rfl) (fun rz σz hn => ?_)
    refine ev_pop dX9_writeMove_66 rfl ?_
    refine ev_iload_1 dX9_writeMove_67 ?_
    refine cl_X9_213 c_kindOf dX9_writeMove_68 rfl (Nat.le_of_ble_eq_true rfl) ?_
    rw [kiR_nI (by omega), hk]
    refine ev_if_ne (tgt := 115) dX9_writeMove_71 (by decide) (fun h71 => ?_) (fun h71 => ?_)
    · exact absurd (show nI 0 = 0 from rfl) h71
    · refine ev_aload_0 dX9_writeMove_74 ?_
      refine ev_iload_1 dX9_writeMove_75 ?_
      refine cl_X9_357 c_firstOf dX9_writeMove_76 rfl (Nat.le_of_ble_eq_true rfl) ?_
      rw [fiR_nI (by omega)]
      refine cg_X9_392 (c_wrSquare hb hn hG (sa_lt hG hm hk) (by simp)) hb.1 dX9_writeMove_79 rfl (Nat.le_of_ble_eq_true rfl) (fun σz hn => ?_)
      refine ev_aload_0 dX9_writeMove_82 ?_
      refine gf_X9_18 dX9_writeMove_83 hb.1 rfl ?_
      refine ev_aload_0 dX9_writeMove_86 ?_
      refine gf_X9_33 dX9_writeMove_87 hb.1 rfl ?_
      refine ev_aload_0 dX9_writeMove_90 ?_
      refine gf_X9_47 dX9_writeMove_91 hb.1 rfl ?_
      refine ev_iload_1 dX9_writeMove_94 ?_
      refine cl_X9_351 (c_captured hb.2.2.2.2.1 hb.2.2.2.2.2.2.1 hG hW hn.2.1.1 (lnL hn hL) hm) hb.2.2.2.2.1.1 dX9_writeMove_95 rfl (Nat.le_of_ble_eq_true rfl) ?_
      refine ev_if_eq (tgt := 106) dX9_writeMove_98 (by decide) (fun h98 => ?_) (fun h98 => ?_)
      · refine ev_bipush_45 dX9_writeMove_106 ?_
        refine cg_X9_87 (c_lnAdd hb hn (by simp [sqL])) hb.2.2.1.1 dX9_writeMove_108 rfl (Nat.le_of_ble_eq_true rfl) (fun rz σz hn => ?_)
        refine ev_pop dX9_writeMove_111 rfl ?_
        refine ev_goto (tgt := 125) dX9_writeMove_112 (by decide) ?_
        refine ev_aload_0 dX9_writeMove_125 ?_
        refine ev_iload_1 dX9_writeMove_126 ?_
        refine cl_X9_363 c_secondOf dX9_writeMove_127 rfl (Nat.le_of_ble_eq_true rfl) ?_
        rw [seR_nI]
        refine cg_X9_392 (c_wrSquare hb hn hG (sq_lt hG hm (by omega)) (by simp [sqL])) hb.1 dX9_writeMove_130 rfl (Nat.le_of_ble_eq_true rfl) (fun σz hn => ?_)
        first
        | exact c_wrMove_133 hb hG hW hL hm hn (by simp [sqL]) (by
            have e : ¬ capN g m = 0 := fun z => h98 (by rw [z]; rfl)
            simp [movL, hk, e])
        | exact c_wrMove_133 hb hG hW hL hm hn (by simp [sqL]) (by
            have e : capN g m = 0 := (nI_eq (b := 0) (by omega) (by decide)).mp h98
            simp [movL, hk, e])
      · refine ev_bipush_120 dX9_writeMove_101 ?_
        refine ev_goto (tgt := 108) dX9_writeMove_103 (by decide) ?_
        refine cg_X9_87 (c_lnAdd hb hn (by simp [sqL])) hb.2.2.1.1 dX9_writeMove_108 rfl (Nat.le_of_ble_eq_true rfl) (fun rz σz hn => ?_)
        refine ev_pop dX9_writeMove_111 rfl ?_
        refine ev_goto (tgt := 125) dX9_writeMove_112 (by decide) ?_
        refine ev_aload_0 dX9_writeMove_125 ?_
        refine ev_iload_1 dX9_writeMove_126 ?_
        refine cl_X9_363 c_secondOf dX9_writeMove_127 rfl (Nat.le_of_ble_eq_true rfl) ?_
        rw [seR_nI]
        refine cg_X9_392 (c_wrSquare hb hn hG (sq_lt hG hm (by omega)) (by simp [sqL])) hb.1 dX9_writeMove_130 rfl (Nat.le_of_ble_eq_true rfl) (fun σz hn => ?_)
        first
        | exact c_wrMove_133 hb hG hW hL hm hn (by simp [sqL]) (by
            have e : ¬ capN g m = 0 := fun z => h98 (by rw [z]; rfl)
            simp [movL, hk, e])
        | exact c_wrMove_133 hb hG hW hL hm hn (by simp [sqL]) (by
            have e : capN g m = 0 := (nI_eq (b := 0) (by omega) (by decide)).mp h98
            simp [movL, hk, e])
  · exact absurd h13 (by decide)
set_option maxRecDepth 100000 in
set_option maxHeartbeats 4000000 in
theorem c_wrMove1 {ae ad : Nat → Nat} {sh : mSh} {σ : mSt} {g : Nat → Int32} {m : Nat} (hb : mBoard ad sh) (hG : wfP g) (hW : wfL g) (hL : lawR σ 5 g) (hm : mvOk g m) (hP : posR σ 20 g) (hR : ritR σ 20 g) (hk : mK m = 1) : Ct yX9_writeMove cX9_writeMove 2 none 6 0 0 [.ref (ad 0), .int (nI m)] ae ad sh σ (mPv ad sh (fun σ' => lnR σ σ' g (movL g m))) := by
  refine Ct.ofL (own := RX9) (ini := false) (ls := [some (.ref (ad 0)), some (.int (nI m))]) (by decide +kernel) rfl (fun h => by cases h) (Nat.le_of_ble_eq_true rfl) rfl ?_
  have hm2 := mvOk_lt hm
  have hgo := goer_le hG hW hm
  have hcap := cap_le hG hm
  refine ev_aload_0 dX9_writeMove_0 ?_
  refine gf_X9_18 dX9_writeMove_1 hb.1 rfl ?_
  refine ev_iconst_0 dX9_writeMove_4 ?_
  refine pf_X9_91 dX9_writeMove_5 hb.2.2.1.1 rfl ?_
  have hn := ln_nil hP hR
  refine ev_iload_1 dX9_writeMove_8 ?_
  refine cl_X9_213 c_kindOf dX9_writeMove_9 rfl (Nat.le_of_ble_eq_true rfl) ?_
  rw [kiR_nI (by omega), hk]
  refine ev_iconst_1 dX9_writeMove_12 ?_
  refine ev_icmp_ne (tgt := 44) dX9_writeMove_13 (by decide) (fun h13 => ?_) (fun h13 => ?_)
  · exact absurd (show nI 1 = 1 from rfl) h13
  · refine ev_aload_0 dX9_writeMove_16 ?_
    refine gf_X9_18 dX9_writeMove_17 hb.1 rfl ?_
    refine ev_bipush_79 dX9_writeMove_20 ?_
    refine cg_X9_87 (c_lnAdd hb hn (by simp [sqL])) hb.2.2.1.1 dX9_writeMove_22 rfl (Nat.le_of_ble_eq_true rfl) (fun rz σz hn => ?_)
    refine ev_pop dX9_writeMove_25 rfl ?_
    refine ev_aload_0 dX9_writeMove_26 ?_
    refine gf_X9_18 dX9_writeMove_27 hb.1 rfl ?_
    refine ev_bipush_48 dX9_writeMove_30 ?_
    refine ev_iload_1 dX9_writeMove_32 ?_
    refine cl_X9_357 c_firstOf dX9_writeMove_33 rfl (Nat.le_of_ble_eq_true rfl) ?_
    rw [fiR_nI (by omega)]
    refine ev_iadd dX9_writeMove_36 ?_
    rw [show (48 : Int32) = nI 48 from rfl, nI_add]
    refine cg_X9_87 (c_lnAdd hb hn (by simp [sqL])) hb.2.2.1.1 dX9_writeMove_37 rfl (Nat.le_of_ble_eq_true rfl) (fun rz σz hn => ?_)
    refine ev_pop dX9_writeMove_40 rfl ?_
    refine ev_goto (tgt := 133) dX9_writeMove_41 (by decide) ?_
    exact c_wrMove_133 hb hG hW hL hm hn (by simp [sqL]) (by simp [movL, hk])
set_option maxRecDepth 100000 in
set_option maxHeartbeats 4000000 in
theorem c_wrMove2 {ae ad : Nat → Nat} {sh : mSh} {σ : mSt} {g : Nat → Int32} {m : Nat} (hb : mBoard ad sh) (hG : wfP g) (hW : wfL g) (hL : lawR σ 5 g) (hm : mvOk g m) (hP : posR σ 20 g) (hR : ritR σ 20 g) (hk : mK m = 2) : Ct yX9_writeMove cX9_writeMove 2 none 6 0 0 [.ref (ad 0), .int (nI m)] ae ad sh σ (mPv ad sh (fun σ' => lnR σ σ' g (movL g m))) := by
  refine Ct.ofL (own := RX9) (ini := false) (ls := [some (.ref (ad 0)), some (.int (nI m))]) (by decide +kernel) rfl (fun h => by cases h) (Nat.le_of_ble_eq_true rfl) rfl ?_
  have hm2 := mvOk_lt hm
  have hgo := goer_le hG hW hm
  have hcap := cap_le hG hm
  refine ev_aload_0 dX9_writeMove_0 ?_
  refine gf_X9_18 dX9_writeMove_1 hb.1 rfl ?_
  refine ev_iconst_0 dX9_writeMove_4 ?_
  refine pf_X9_91 dX9_writeMove_5 hb.2.2.1.1 rfl ?_
  have hn := ln_nil hP hR
  refine ev_iload_1 dX9_writeMove_8 ?_
  refine cl_X9_213 c_kindOf dX9_writeMove_9 rfl (Nat.le_of_ble_eq_true rfl) ?_
  rw [kiR_nI (by omega), hk]
  refine ev_iconst_1 dX9_writeMove_12 ?_
  refine ev_icmp_ne (tgt := 44) dX9_writeMove_13 (by decide) (fun h13 => ?_) (fun h13 => ?_)
  · refine ev_aload_0 dX9_writeMove_44 ?_
    refine gf_X9_18 dX9_writeMove_45 hb.1 rfl ?_
    refine ev_aload_0 dX9_writeMove_48 ?_
    refine gf_X9_33 dX9_writeMove_49 hb.1 rfl ?_
    refine ev_aload_0 dX9_writeMove_52 ?_
    refine gf_X9_47 dX9_writeMove_53 hb.1 rfl ?_
    refine ev_iload_1 dX9_writeMove_56 ?_
    refine cl_X9_222 (c_goer hb.2.2.2.2.1 hb.2.2.2.2.2.2.1 hG hW hn.2.1.1 (lnL hn hL) hm) hb.2.2.2.2.1.1 dX9_writeMove_57 rfl (Nat.le_of_ble_eq_true rfl) ?_
    refine cl_X9_389 c_letterOf dX9_writeMove_60 rfl (Nat.le_of_ble_eq_true rfl) ?_
    rw [leR_nI hgo.1 hgo.2]
    refine cg_X9_87 (c_lnAdd hb hn (by simp [sqL])) hb.2.2.1.1 dX9_writeMove_63 rfl (Nat.le_of_ble_eq_true rfl) (fun rz σz hn => ?_)
    refine ev_pop dX9_writeMove_66 rfl ?_
    refine ev_iload_1 dX9_writeMove_67 ?_
    refine cl_X9_213 c_kindOf dX9_writeMove_68 rfl (Nat.le_of_ble_eq_true rfl) ?_
    rw [kiR_nI (by omega), hk]
    refine ev_if_ne (tgt := 115) dX9_writeMove_71 (by decide) (fun h71 => ?_) (fun h71 => ?_)
    · refine ev_aload_0 dX9_writeMove_115 ?_
      refine gf_X9_18 dX9_writeMove_116 hb.1 rfl ?_
      refine ev_bipush_64 dX9_writeMove_119 ?_
      refine cg_X9_87 (c_lnAdd hb hn (by simp [sqL])) hb.2.2.1.1 dX9_writeMove_121 rfl (Nat.le_of_ble_eq_true rfl) (fun rz σz hn => ?_)
      refine ev_pop dX9_writeMove_124 rfl ?_
      refine ev_aload_0 dX9_writeMove_125 ?_
      refine ev_iload_1 dX9_writeMove_126 ?_
      refine cl_X9_363 c_secondOf dX9_writeMove_127 rfl (Nat.le_of_ble_eq_true rfl) ?_
      rw [seR_nI]
      refine cg_X9_392 (c_wrSquare hb hn hG (sq_lt hG hm (by omega)) (by simp [sqL])) hb.1 dX9_writeMove_130 rfl (Nat.le_of_ble_eq_true rfl) (fun σz hn => ?_)
      exact c_wrMove_133 hb hG hW hL hm hn (by simp [sqL]) (by simp [movL, hk])
    · exact absurd h71 (by decide)
  · exact absurd h13 (by decide)
theorem c_wrMove {ae ad : Nat → Nat} {sh : mSh} {σ : mSt} {g : Nat → Int32} {m : Nat} (hb : mBoard ad sh) (hG : wfP g) (hW : wfL g) (hL : lawR σ 5 g) (hm : mvOk g m) (hP : posR σ 20 g) (hR : ritR σ 20 g) : Ct yX9_writeMove cX9_writeMove 2 none 6 0 0 [.ref (ad 0), .int (nI m)] ae ad sh σ (mPv ad sh (fun σ' => lnR σ σ' g (movL g m))) := by
  rcases mK_le hm with h | h | h
  · exact c_wrMove0 hb hG hW hL hm hP hR h
  · exact c_wrMove1 hb hG hW hL hm hP hR h
  · exact c_wrMove2 hb hG hW hL hm hP hR h
def tolG (g : Nat → Int32) (i c : Int32) : Int32 := match pickG g i with | none => -1 | some m => ansL (movL g m) c
/-- only the board's flag, the line, the position and the list have changed -/
def frV (σ σ' : mSt) : Prop := ∀ k, k ≠ 0 → k ≠ 3 → k ≠ 4 → k ≠ 20 → k ≠ 21 → k ≠ 22 → k ≠ 30 → k ≠ 31 → σ'.1 k = σ.1 k ∧ σ'.2 k = σ.2 k
theorem frV.B {σ σ' : mSt} (h : frB σ σ') : frV σ σ' := fun k a _ _ b c d e f => h k a b c d e f
theorem lgR.W {σ σ' : mSt} {g : Nat → Int32} (h : lgR σ g) (f : frW σ σ') : lgR σ' g := by
  unfold lgR listR at *
  rw [(f 0 (by decide) (by decide) (by decide) (by decide) (by decide)).1, (f 30 (by decide) (by decide) (by decide) (by decide) (by decide)).1, (f 31 (by decide) (by decide) (by decide) (by decide) (by decide)).1]
  exact h
set_option maxRecDepth 100000 in
set_option maxHeartbeats 4000000 in
theorem c_toldNo {ae ad : Nat → Nat} {sh : mSh} {σ : mSt} {g : Nat → Int32} (hb : mBoard ad sh) (hG : wfP g) (hW : wfL g) (hP : posR σ 20 g) (hR : ritR σ 20 g) (hL : lawR σ 5 g) (hl : (σ.1 0 11 = 0) ∨ lgR σ g) {i c : Int32} (hi : pickG g i = none) : Ct yX9_told cX9_told 4 (some .int) 8 0 0 [.ref (ad 0), .int i, .int c] ae ad sh σ (mPi ad sh (fun x σ' => x = tolG g i c ∧ lgR σ' g ∧ (posR σ' 20 g ∧ ritR σ' 20 g) ∧ lawR σ' 5 g ∧ frV σ σ')) := by
  refine Ct.ofL (own := RX9) (ini := false) (ls := [some (.ref (ad 0)), some (.int i), some (.int c), none]) (by decide +kernel) rfl (fun h => by cases h) (Nat.le_of_ble_eq_true rfl) rfl ?_
  refine ev_aload_0 dX9_told_0 ?_
  refine cg_X9_202 (c_listed hb hG hW hP hR hL hl) hb.1 dX9_told_1 rfl (Nat.le_of_ble_eq_true rfl) (fun σ1 h1 => ?_)
  obtain ⟨h1, h2, f1⟩ := h1
  have hL1 := hL.B f1
  have h445 := legal_len hG
  refine ev_aload_0 dX9_told_4 ?_
  refine gf_X9_64 dX9_told_5 hb.1 rfl ?_
  refine ev_iload_1 dX9_told_8 ?_
  refine cl_X9_206 (c_moveAt hb.2.2.2.2.2.2.2.2.2.1 h1.2.1 h445) hb.2.2.2.2.2.2.2.2.2.1.1 dX9_told_9 rfl (Nat.le_of_ble_eq_true rfl) ?_
  rw [pick_none h1 hi]
  refine ev_istore_3 dX9_told_12 rfl rfl ?_
  refine ev_iload_3 dX9_told_13 ?_
  refine ev_if_ge (tgt := 19) dX9_told_14 (by decide) (fun h14 => absurd h14 (by decide)) (fun h14 => ?_)
  refine ev_iconst_m1 dX9_told_17 ?_
  exact ev_pi dX9_told_18 ⟨by rw [tolG, hi], h1, h2, hL1, frV.B f1⟩
set_option maxRecDepth 100000 in
set_option maxHeartbeats 4000000 in
theorem c_toldS {ae ad : Nat → Nat} {sh : mSh} {σ : mSt} {g : Nat → Int32} (hb : mBoard ad sh) (hG : wfP g) (hW : wfL g) (hP : posR σ 20 g) (hR : ritR σ 20 g) (hL : lawR σ 5 g) (hl : (σ.1 0 11 = 0) ∨ lgR σ g) {i c : Int32} {m : Nat} (hi : pickG g i = some m) : Ct yX9_told cX9_told 4 (some .int) 8 0 0 [.ref (ad 0), .int i, .int c] ae ad sh σ (mPi ad sh (fun x σ' => x = tolG g i c ∧ lgR σ' g ∧ (posR σ' 20 g ∧ ritR σ' 20 g) ∧ lawR σ' 5 g ∧ frV σ σ')) := by
  refine Ct.ofL (own := RX9) (ini := false) (ls := [some (.ref (ad 0)), some (.int i), some (.int c), none]) (by decide +kernel) rfl (fun h => by cases h) (Nat.le_of_ble_eq_true rfl) rfl ?_
  have hm := pick_ok hG hW hi
  refine ev_aload_0 dX9_told_0 ?_
  refine cg_X9_202 (c_listed hb hG hW hP hR hL hl) hb.1 dX9_told_1 rfl (Nat.le_of_ble_eq_true rfl) (fun σ1 h1 => ?_)
  obtain ⟨h1, h2, f1⟩ := h1
  have hL1 := hL.B f1
  have h445 := legal_len hG
  refine ev_aload_0 dX9_told_4 ?_
  refine gf_X9_64 dX9_told_5 hb.1 rfl ?_
  refine ev_iload_1 dX9_told_8 ?_
  refine cl_X9_206 (c_moveAt hb.2.2.2.2.2.2.2.2.2.1 h1.2.1 h445) hb.2.2.2.2.2.2.2.2.2.1.1 dX9_told_9 rfl (Nat.le_of_ble_eq_true rfl) ?_
  rw [pick_some h1 hi]
  refine ev_istore_3 dX9_told_12 rfl rfl ?_
  refine ev_iload_3 dX9_told_13 ?_
  refine ev_if_ge (tgt := 19) dX9_told_14 (by decide) (fun h14 => ?_) (fun h14 => absurd (nI_pos' (by have := mvOk_lt hm; omega)) h14)
  refine ev_aload_0 dX9_told_19 ?_
  refine ev_iload_3 dX9_told_20 ?_
  refine cg_X9_320 (c_wrMove hb hG hW hL1 hm h2.1 h2.2) hb.1 dX9_told_21 rfl (Nat.le_of_ble_eq_true rfl) (fun σ2 hn => ?_)
  refine ev_aload_0 dX9_told_24 ?_
  refine gf_X9_18 dX9_told_25 hb.1 rfl ?_
  refine ev_iload_2 dX9_told_28 ?_
  refine cl_X9_317 (c_answer hb.2.2.1 hn.2.2.1 hn.2.2.2.1) hb.2.2.1.1 dX9_told_29 rfl (Nat.le_of_ble_eq_true rfl) ?_
  exact ev_pi dX9_told_32 ⟨by rw [tolG, hi]; exact ans_eq hn, h1.W hn.1, hn.2.1, lnL hn hL1, fun k a a3 a4 b c d e f => ⟨(hn.1 k a3 a4 b c d).1.trans (f1 k a b c d e f).1, (hn.1 k a3 a4 b c d).2.trans (f1 k a b c d e f).2⟩⟩
theorem c_told {ae ad : Nat → Nat} {sh : mSh} {σ : mSt} {g : Nat → Int32} (hb : mBoard ad sh) (hG : wfP g) (hW : wfL g) (hP : posR σ 20 g) (hR : ritR σ 20 g) (hL : lawR σ 5 g) (hl : (σ.1 0 11 = 0) ∨ lgR σ g) {i c : Int32} : Ct yX9_told cX9_told 4 (some .int) 8 0 0 [.ref (ad 0), .int i, .int c] ae ad sh σ (mPi ad sh (fun x σ' => x = tolG g i c ∧ lgR σ' g ∧ (posR σ' 20 g ∧ ritR σ' 20 g) ∧ lawR σ' 5 g ∧ frV σ σ')) := by
  rcases hi : pickG g i with _ | m
  · exact c_toldNo hb hG hW hP hR hL hl hi
  · exact c_toldS hb hG hW hP hR hL hl hi
