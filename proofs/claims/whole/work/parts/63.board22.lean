theorem sqB_of {g : Nat → Int32} (hG : wfP g) {q : Nat} (hq : q < cN g * rN g) : sqB g (nI q) = true := by
  have := sq36 hG
  exact decide_eq_true ⟨nI_pos (by omega), nI_lt hq (by omega)⟩
/-- the proof that a move of the men is no legal one -/
def prfG (g : Nat → Int32) (f t : Nat) : Int32 := if isOfG g f (tuN g) then (if tgtG g f t then (if safeG (playsG g (f * 64 + t)) (tuN g) then -5 else fstF (manAtk (playsG g (f * 64 + t)) (1 - tuN g) (royB (playsG g (f * 64 + t)) (tuN g))) 0 (cN g * rN g)) else -7) else -6
theorem tgt_mv {g : Nat → Int32} (hG : wfP g) {f t : Nat} (hf : f < cN g * rN g) (ht : t < cN g * rN g) (h1 : isOfG g f (tuN g) = true) (h2 : tgtG g f t = true) : mvOk g (f * 64 + t) := by
  have h36 := sq36 hG
  obtain ⟨a1, a2, a3⟩ := isOf_1 h1
  have e : 0 * 4096 + f * 64 + t = f * 64 + t := by omega
  have := mK_c (k := 0) (a := f) (b := t) (by omega) (by omega)
  rw [e] at this
  obtain ⟨k1, k2, k3⟩ := this
  refine Or.inl ⟨k1, by rw [k2]; exact hf, by rw [k3]; exact ht, by rw [k2]; exact a2, by rw [k2]; exact a3, ?_⟩
  rw [k2, k3]
  intro z
  have := tgt_own h2
  rw [← z, a3, h1] at this
  cases this

set_option maxRecDepth 100000 in
set_option maxHeartbeats 4000000 in
theorem c_proofNo {ae ad : Nat → Nat} {sh : mSh} {σ : mSt} {g : Nat → Int32} (hb : mBoard ad sh) (hG : wfP g) (hW : wfL g) (hP : posR σ 20 g) (hR : ritR σ 20 g) (hL : lawR σ 5 g) {a b : Int32} (h : ¬ (sqB g a = true ∧ sqB g b = true)) : Ct yX9_proof cX9_proof 7 (some .int) 5 0 0 [.ref (ad 0), .int a, .int b] ae ad sh σ (mPi ad sh (fun z σ' => z = -1 ∧ (posR σ' 20 g ∧ ritR σ' 20 g) ∧ frP σ σ' 20)) := by
  refine Ct.ofL (own := RX9) (ini := false) (ls := [some (.ref (ad 0)), some (.int a), some (.int b), none, none, none, none]) (by decide +kernel) rfl (fun h => by cases h) (Nat.le_of_ble_eq_true rfl) rfl ?_
  refine ev_aload_0 dX9_proof_0 ?_
  refine ev_iload_1 dX9_proof_1 ?_
  refine cl_X9_182 (c_isSq hb hG hP) hb.1 dX9_proof_2 rfl (Nat.le_of_ble_eq_true rfl) ?_
  refine ev_if_eq (tgt := 16) dX9_proof_5 (by decide) (fun h5 => ?_) (fun h5 => ?_)
  · refine ev_iconst_m1 dX9_proof_16 ?_
    exact ev_pi dX9_proof_17 ⟨rfl, ⟨hP, hR⟩, frP.rf⟩
  · refine ev_aload_0 dX9_proof_8 ?_
    refine ev_iload_2 dX9_proof_9 ?_
    refine cl_X9_182 (c_isSq hb hG hP) hb.1 dX9_proof_10 rfl (Nat.le_of_ble_eq_true rfl) ?_
    refine ev_if_ne (tgt := 18) dX9_proof_13 (by decide) (fun h13 => ?_) (fun h13 => ?_)
    · exact absurd ⟨b2i_t h5, b2i_t h13⟩ h
    · refine ev_iconst_m1 dX9_proof_16 ?_
      exact ev_pi dX9_proof_17 ⟨rfl, ⟨hP, hR⟩, frP.rf⟩
set_option maxRecDepth 100000 in
set_option maxHeartbeats 4000000 in
theorem c_proofS {ae ad : Nat → Nat} {sh : mSh} {σ : mSt} {g : Nat → Int32} (hb : mBoard ad sh) (hG : wfP g) (hW : wfL g) (hP : posR σ 20 g) (hR : ritR σ 20 g) (hL : lawR σ 5 g) {f t : Nat} (hf : f < cN g * rN g) (ht : t < cN g * rN g) : Ct yX9_proof cX9_proof 7 (some .int) 5 0 0 [.ref (ad 0), .int (nI f), .int (nI t)] ae ad sh σ (mPi ad sh (fun z σ' => z = prfG g f t ∧ (posR σ' 20 g ∧ ritR σ' 20 g) ∧ frP σ σ' 20)) := by
  refine Ct.ofL (own := RX9) (ini := false) (ls := [some (.ref (ad 0)), some (.int (nI f)), some (.int (nI t)), none, none, none, none]) (by decide +kernel) rfl (fun h => by cases h) (Nat.le_of_ble_eq_true rfl) rfl ?_
  have h36 := sq36 hG
  refine ev_aload_0 dX9_proof_0 ?_
  refine ev_iload_1 dX9_proof_1 ?_
  refine cl_X9_182 (c_isSq hb hG hP) hb.1 dX9_proof_2 rfl (Nat.le_of_ble_eq_true rfl) ?_
  refine ev_if_eq (tgt := 16) dX9_proof_5 (by decide) (fun h5 => ?_) (fun h5 => ?_)
  · first
    | exact absurd ((b2i_0 _).mp h13) (by rw [sqB_of hG ht]; decide)
    | exact absurd ((b2i_0 _).mp h5) (by rw [sqB_of hG hf]; decide)
  · refine ev_aload_0 dX9_proof_8 ?_
    refine ev_iload_2 dX9_proof_9 ?_
    refine cl_X9_182 (c_isSq hb hG hP) hb.1 dX9_proof_10 rfl (Nat.le_of_ble_eq_true rfl) ?_
    refine ev_if_ne (tgt := 18) dX9_proof_13 (by decide) (fun h13 => ?_) (fun h13 => ?_)
    · refine ev_aload_0 dX9_proof_18 ?_
      refine gf_X9_47 dX9_proof_19 hb.1 rfl ?_
      refine gf_X9_171 dX9_proof_22 hb.2.2.2.2.2.2.1.1 rfl ?_
      rw [hP.turn hG]
      refine ev_istore_3 dX9_proof_25 rfl rfl ?_
      refine ev_aload_0 dX9_proof_26 ?_
      refine gf_X9_47 dX9_proof_27 hb.1 rfl ?_
      refine ev_iload_3 dX9_proof_30 ?_
      refine cl_X9_241 (c_menOf hb.2.2.2.2.2.2.1) hb.2.2.2.2.2.2.1.1 dX9_proof_31 rfl (Nat.le_of_ble_eq_true rfl) ?_
      refine ev_iload_1 dX9_proof_34 ?_
      refine cl_X9_245 c_has dX9_proof_35 rfl (Nat.le_of_ble_eq_true rfl) ?_
      rw [hasR_nI (by omega), hP.side (tu_le hG) (by omega)]
      refine ev_if_ne (tgt := 44) dX9_proof_38 (by decide) (fun h38 => ?_) (fun h38 => ?_)
      · have hof := b2i_t h38
        have hm1 := (isOf_1 hof).2.1
        refine ev_aload_0 dX9_proof_44 ?_
        refine gf_X9_33 dX9_proof_45 hb.1 rfl ?_
        refine ev_aload_0 dX9_proof_48 ?_
        refine gf_X9_47 dX9_proof_49 hb.1 rfl ?_
        refine ev_iload_1 dX9_proof_52 ?_
        refine cl_X9_249 (c_targets hb.2.2.2.2.1 hb.2.2.2.2.2.2.1 hG hP hL (by omega) hm1) hb.2.2.2.2.1.1 dX9_proof_53 rfl (Nat.le_of_ble_eq_true rfl) ?_
        refine ev_iload_2 dX9_proof_56 ?_
        refine cl_X9_245 c_has dX9_proof_57 rfl (Nat.le_of_ble_eq_true rfl) ?_
        rw [hasR_nI (by omega), lb_setL (by omega)]
        refine ev_if_ne (tgt := 66) dX9_proof_60 (by decide) (fun h60 => ?_) (fun h60 => ?_)
        · have htg := b2i_t h60
          have hm := tgt_mv hG hf ht hof htg
          refine ev_iconst_0 dX9_proof_66 ?_
          refine ev_iload_1 dX9_proof_67 ?_
          refine ev_iload_2 dX9_proof_68 ?_
          refine cl_X9_253 c_coded dX9_proof_69 rfl (Nat.le_of_ble_eq_true rfl) ?_
          rw [show coR 0 (nI f) (nI t) = nI (f * 64 + t) from (coR_nI (k := 0) (by omega) (by omega)).trans (by rw [Nat.zero_mul, Nat.zero_add])]
          refine ev_istore_4 dX9_proof_72 rfl rfl ?_
          refine ev_aload_0 dX9_proof_74 ?_
          refine gf_X9_33 dX9_proof_75 hb.1 rfl ?_
          refine ev_aload_0 dX9_proof_78 ?_
          refine gf_X9_47 dX9_proof_79 hb.1 rfl ?_
          refine ev_iload_4 dX9_proof_82 ?_
          refine cg_X9_257 (c_apply hb.2.2.2.2.1 hb.2.2.2.2.2.2.1 sep520 hG hW hP hR hL hm) hb.2.2.2.2.1.1 dX9_proof_84 rfl (Nat.le_of_ble_eq_true rfl) (fun r3 σ3 h3 => ?_)
          obtain ⟨e3, q3, f3⟩ := h3
          subst e3
          have hA := ap_R hG hW hm q3
          have hL3 := hL.fr f3 sep520
          refine ev_istore_5 dX9_proof_87 rfl rfl ?_
          refine ev_aload_0 dX9_proof_89 ?_
          refine gf_X9_33 dX9_proof_90 hb.1 rfl ?_
          refine ev_aload_0 dX9_proof_93 ?_
          refine gf_X9_47 dX9_proof_94 hb.1 rfl ?_
          refine ev_iload_3 dX9_proof_97 ?_
          refine cl_X9_260 (c_isSafe hb.2.2.2.2.1 hb.2.2.2.2.2.2.1 (pl_wfP hG hW hm) hA.1 (hL3.pl _) (pl_wfL hG hW hm) (tu_le hG)) hb.2.2.2.2.1.1 dX9_proof_98 rfl (Nat.le_of_ble_eq_true rfl) ?_
          refine ev_if_eq (tgt := 109) dX9_proof_101 (by decide) (fun h101 => ?_) (fun h101 => ?_)
          · refine ev_aload_0 dX9_proof_109 ?_
            refine gf_X9_33 dX9_proof_110 hb.1 rfl ?_
            refine ev_aload_0 dX9_proof_113 ?_
            refine gf_X9_47 dX9_proof_114 hb.1 rfl ?_
            refine ev_iload_3 dX9_proof_117 ?_
            refine cl_X9_264 (c_lowestChecker hb.2.2.2.2.1 hb.2.2.2.2.2.2.1 (pl_wfP hG hW hm) hA.1 (hL3.pl _) (tu_le hG)) hb.2.2.2.2.1.1 dX9_proof_118 rfl (Nat.le_of_ble_eq_true rfl) ?_
            rw [pl_sq2 hG hW]
            refine ev_istore_6 dX9_proof_121 rfl rfl ?_
            refine ev_aload_0 dX9_proof_123 ?_
            refine gf_X9_33 dX9_proof_124 hb.1 rfl ?_
            refine ev_aload_0 dX9_proof_127 ?_
            refine gf_X9_47 dX9_proof_128 hb.1 rfl ?_
            refine ev_iload_4 dX9_proof_131 ?_
            refine ev_iload_5 dX9_proof_133 ?_
            refine cg_X9_267 (c_retract hb.2.2.2.2.1 hb.2.2.2.2.2.2.1 sep520 hG hW hm q3 hL3) hb.2.2.2.2.1.1 dX9_proof_135 rfl (Nat.le_of_ble_eq_true rfl) (fun σ5 h5z => ?_)
            obtain ⟨h5z, f5⟩ := h5z
            refine ev_iload_6 dX9_proof_138 ?_
            first
            | exact ev_pi dX9_proof_140 ⟨by rw [prfG, (b2i_0 _).mp h38]; rfl, ⟨hP, hR⟩, frP.rf⟩
            | exact ev_pi dX9_proof_140 ⟨by rw [prfG, hof, (b2i_0 _).mp h60]; rfl, ⟨hP, hR⟩, frP.rf⟩
            | exact ev_pi dX9_proof_140 ⟨by rw [prfG, hof, htg, show safeG (playsG g (f * 64 + t)) (tuN g) = true from b2i_t h101]; rfl, h5z, f3.tr f5⟩
            | exact ev_pi dX9_proof_140 ⟨by rw [prfG, hof, htg, (b2i_0 _).mp h101]; rfl, h5z, f3.tr f5⟩
          · refine ev_bipush_m5 dX9_proof_104 ?_
            refine ev_goto (tgt := 121) dX9_proof_106 (by decide) ?_
            refine ev_istore_6 dX9_proof_121 rfl rfl ?_
            refine ev_aload_0 dX9_proof_123 ?_
            refine gf_X9_33 dX9_proof_124 hb.1 rfl ?_
            refine ev_aload_0 dX9_proof_127 ?_
            refine gf_X9_47 dX9_proof_128 hb.1 rfl ?_
            refine ev_iload_4 dX9_proof_131 ?_
            refine ev_iload_5 dX9_proof_133 ?_
            refine cg_X9_267 (c_retract hb.2.2.2.2.1 hb.2.2.2.2.2.2.1 sep520 hG hW hm q3 hL3) hb.2.2.2.2.1.1 dX9_proof_135 rfl (Nat.le_of_ble_eq_true rfl) (fun σ5 h5z => ?_)
            obtain ⟨h5z, f5⟩ := h5z
            refine ev_iload_6 dX9_proof_138 ?_
            first
            | exact ev_pi dX9_proof_140 ⟨by rw [prfG, (b2i_0 _).mp h38]; rfl, ⟨hP, hR⟩, frP.rf⟩
            | exact ev_pi dX9_proof_140 ⟨by rw [prfG, hof, (b2i_0 _).mp h60]; rfl, ⟨hP, hR⟩, frP.rf⟩
            | exact ev_pi dX9_proof_140 ⟨by rw [prfG, hof, htg, show safeG (playsG g (f * 64 + t)) (tuN g) = true from b2i_t h101]; rfl, h5z, f3.tr f5⟩
            | exact ev_pi dX9_proof_140 ⟨by rw [prfG, hof, htg, (b2i_0 _).mp h101]; rfl, h5z, f3.tr f5⟩
        · refine ev_bipush_m7 dX9_proof_63 ?_
          first
          | exact ev_pi dX9_proof_65 ⟨by rw [prfG, (b2i_0 _).mp h38]; rfl, ⟨hP, hR⟩, frP.rf⟩
          | exact ev_pi dX9_proof_65 ⟨by rw [prfG, hof, (b2i_0 _).mp h60]; rfl, ⟨hP, hR⟩, frP.rf⟩
          | exact ev_pi dX9_proof_65 ⟨by rw [prfG, hof, htg, show safeG (playsG g (f * 64 + t)) (tuN g) = true from b2i_t h101]; rfl, h5z, f3.tr f5⟩
          | exact ev_pi dX9_proof_65 ⟨by rw [prfG, hof, htg, (b2i_0 _).mp h101]; rfl, h5z, f3.tr f5⟩
      · refine ev_bipush_m6 dX9_proof_41 ?_
        first
        | exact ev_pi dX9_proof_43 ⟨by rw [prfG, (b2i_0 _).mp h38]; rfl, ⟨hP, hR⟩, frP.rf⟩
        | exact ev_pi dX9_proof_43 ⟨by rw [prfG, hof, (b2i_0 _).mp h60]; rfl, ⟨hP, hR⟩, frP.rf⟩
        | exact ev_pi dX9_proof_43 ⟨by rw [prfG, hof, htg, show safeG (playsG g (f * 64 + t)) (tuN g) = true from b2i_t h101]; rfl, h5z, f3.tr f5⟩
        | exact ev_pi dX9_proof_43 ⟨by rw [prfG, hof, htg, (b2i_0 _).mp h101]; rfl, h5z, f3.tr f5⟩
    · first
      | exact absurd ((b2i_0 _).mp h13) (by rw [sqB_of hG ht]; decide)
      | exact absurd ((b2i_0 _).mp h5) (by rw [sqB_of hG hf]; decide)
