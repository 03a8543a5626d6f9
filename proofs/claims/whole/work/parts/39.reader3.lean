set_option maxRecDepth 100000 in
set_option maxHeartbeats 4000000 in
theorem c_rp_15 {ae ad : Nat → Nat} {sh : mSh} {σ0 : mSt} {r t tl : Nat} {Z : Int32 × RS} (hr : mReader ad sh r) (hp : mLine ad sh t) (hs : t + 1 < r ∨ r + 3 < t) (hL : σ0.1 t 1 = nI tl) (hL2 : tl ≤ 60) : ∀ (n i : Nat), tl - i = n → i ≤ tl → ∀ (s : RS) (σ2 : mSt), s.ok → rsR σ2 r s → frT σ0 σ2 r → rdF (σ0.1 (t + 1)) tl i (tl - i) s = Z → Ev RX4 cX4_readParts 9 false (some .int) (mRm 4 0 0) ae (mPi ad sh (fun x σ' => x = Z.1 ∧ rsR σ' r Z.2 ∧ frT σ0 σ' r)) 15 [some (.ref (ad r)), some (.ref (ad t)), some (.int s.mk), some (.int (b2i s.ip)), some (.int (b2i s.dg)), some (.int (nI i)), none, none, none] [] 0 0 ad sh σ2 := by
  intro n
  induction n with
  | zero =>
    intro i hn hi s σ2 hO hS hF hZ
    have e : i = tl := by omega
    subst e
    have hl2 : σ2.1 t 1 = nI i := by rw [hF.1 t (by omega)]; exact hL
    have hn6 := hO.1
    refine ev_iload_5 dX4_readParts_15 ?_
    refine ev_aload_1 dX4_readParts_17 ?_
    refine gf_X4_29 dX4_readParts_18 hp.1 rfl ?_
    rw [hl2]
    refine ev_icmp_ge (tgt := 194) dX4_readParts_21 (by decide) (fun h21 => ?_) (fun h21 => absurd (Int32.le_refl _) h21)
    refine ev_iload_3 dX4_readParts_194 ?_
    refine ev_if_ne (tgt := 205) dX4_readParts_195 (by decide) (fun h195 => ?_) (fun h195 => ?_)
    · refine ev_aload_1 dX4_readParts_205 ?_
      refine gf_X4_29 dX4_readParts_206 hp.1 rfl ?_
      rw [hl2]
      refine ev_goto (tgt := 213) dX4_readParts_209 (by decide) ?_
      exact ev_pi dX4_readParts_213 ⟨by
        rw [← hZ, rd_end]
        first
        | exact (if_pos (Or.inl (b2i_t h195))).symm
        | exact (if_pos (Or.inr ((nI_eq (b := 0) (by omega) (by decide)).mp h202))).symm
        | exact (if_neg (fun z => z.elim (fun y => absurd (y.symm.trans ((b2i_0 _).mp h195)) (by decide)) (fun y => h202 (by rw [y]; rfl)))).symm, by rw [← hZ, rd_end]; exact hS, hF⟩
    · refine ev_aload_0 dX4_readParts_198 ?_
      refine gf_X4_57 dX4_readParts_199 hr.1 rfl ?_
      rw [hS.1]
      refine ev_if_ne (tgt := 212) dX4_readParts_202 (by decide) (fun h202 => ?_) (fun h202 => ?_)
      · refine ev_iconst_m1 dX4_readParts_212 ?_
        exact ev_pi dX4_readParts_213 ⟨by
          rw [← hZ, rd_end]
          first
          | exact (if_pos (Or.inl (b2i_t h195))).symm
          | exact (if_pos (Or.inr ((nI_eq (b := 0) (by omega) (by decide)).mp h202))).symm
          | exact (if_neg (fun z => z.elim (fun y => absurd (y.symm.trans ((b2i_0 _).mp h195)) (by decide)) (fun y => h202 (by rw [y]; rfl)))).symm, by rw [← hZ, rd_end]; exact hS, hF⟩
      · refine ev_aload_1 dX4_readParts_205 ?_
        refine gf_X4_29 dX4_readParts_206 hp.1 rfl ?_
        rw [hl2]
        refine ev_goto (tgt := 213) dX4_readParts_209 (by decide) ?_
        exact ev_pi dX4_readParts_213 ⟨by
          rw [← hZ, rd_end]
          first
          | exact (if_pos (Or.inl (b2i_t h195))).symm
          | exact (if_pos (Or.inr ((nI_eq (b := 0) (by omega) (by decide)).mp h202))).symm
          | exact (if_neg (fun z => z.elim (fun y => absurd (y.symm.trans ((b2i_0 _).mp h195)) (by decide)) (fun y => h202 (by rw [y]; rfl)))).symm, by rw [← hZ, rd_end]; exact hS, hF⟩
  | succ n ih =>
    intro i hn hi s σ2 hO hS hF hZ
    have hlt : i < tl := by omega
    have hl2 : σ2.1 t 1 = nI tl := by rw [hF.1 t (by omega)]; exact hL
    have hn6 := hO.1
    refine ev_iload_5 dX4_readParts_15 ?_
    refine ev_aload_1 dX4_readParts_17 ?_
    refine gf_X4_29 dX4_readParts_18 hp.1 rfl ?_
    rw [hl2]
    refine ev_icmp_ge (tgt := 194) dX4_readParts_21 (by decide) (fun h21 => absurd h21 (nI_ge hlt (by omega))) (fun h21 => ?_)
    refine ev_aload_1 dX4_readParts_24 ?_
    refine ev_iload_5 dX4_readParts_25 ?_
    refine cl_X4_58 (c_signAt hp hl2 hL2) hp.1 dX4_readParts_27 rfl (Nat.le_of_ble_eq_true rfl) ?_
    rw [cellD_nI (by omega) hlt, hF.1 (t + 1) (by omega)]
    refine ev_istore_6 dX4_readParts_30 rfl rfl ?_
    refine ev_iload_4 dX4_readParts_32 ?_
    refine ev_if_eq (tgt := 93) dX4_readParts_34 (by decide) (fun h34 => ?_) (fun h34 => ?_)
    · first
      | exact c_rp_93 hr hp hS hO hF (fun z => absurd (z.1.symm.trans ((b2i_0 _).mp h34)) (by decide)) (fun s' σ' e ok' R' F' => ih (i + 1) (by omega) (by omega) s' σ' ok' R' F' ((rd_some hlt e).symm.trans hZ)) (fun e => hZ.symm.trans (rd_none hlt e))
      | exact c_rp_93 hr hp hS hO hF (fun z => z.2.elim h41 (fun y => y.1 h48)) (fun s' σ' e ok' R' F' => ih (i + 1) (by omega) (by omega) s' σ' ok' R' F' ((rd_some hlt e).symm.trans hZ)) (fun e => hZ.symm.trans (rd_none hlt e))
      | exact c_rp_93 hr hp hS hO hF (fun z => z.2.elim h41 (fun y => y.2 h55)) (fun s' σ' e ok' R' F' => ih (i + 1) (by omega) (by omega) s' σ' ok' R' F' ((rd_some hlt e).symm.trans hZ)) (fun e => hZ.symm.trans (rd_none hlt e))
    · refine ev_iload_6 dX4_readParts_37 ?_
      refine ev_bipush_48 dX4_readParts_39 ?_
      refine ev_icmp_eq (tgt := 58) dX4_readParts_41 (by decide) (fun h41 => ?_) (fun h41 => ?_)
      · refine ev_aload_0 dX4_readParts_58 ?_
        refine gf_X4_18 dX4_readParts_59 hr.1 rfl ?_
        refine ev_aload_0 dX4_readParts_62 ?_
        refine gf_X4_57 dX4_readParts_63 hr.1 rfl ?_
        rw [hS.1]
        refine ev_iconst_1 dX4_readParts_66 ?_
        refine ev_isub dX4_readParts_67 ?_
        have h1n := hO.2.2 (b2i_t h34)
        rw [show (1 : Int32) = nI 1 from rfl, nI_sub h1n]
        refine ev_iload_6 dX4_readParts_68 ?_
        refine ev_bipush_48 dX4_readParts_70 ?_
        refine ev_icmp_ne (tgt := 79) dX4_readParts_72 (by decide) (fun h72 => ?_) (fun h72 => ?_)
        · refine ev_iload_6 dX4_readParts_79 ?_
          refine ev_bipush_48 dX4_readParts_81 ?_
          refine ev_isub dX4_readParts_83 ?_
          refine cl_X4_62 (c_setCell hr.2.2.2 (by decide)) dX4_readParts_84 rfl (Nat.le_of_ble_eq_true rfl) ?_
          rw [setV_nI (by omega) (by omega)]
          refine ev_iconst_0 dX4_readParts_87 ?_
          refine ev_istore_4 dX4_readParts_88 rfl rfl ?_
          refine ev_goto (tgt := 188) dX4_readParts_90 (by decide) ?_
          refine ev_iinc_5 (v := 1) dX4_readParts_188 (by decide) rfl rfl ?_
          refine ev_goto (tgt := 15) dX4_readParts_191 (by decide) ?_
          have hdg : s.isDig (σ0.1 (t + 1) i) := ⟨b2i_t h34, by first | exact Or.inl h41 | exact Or.inr ⟨h48, h55⟩⟩
          have h9 := dig_R (r := r) (c := σ0.1 (t + 1) i) hS rfl
          refine ev_drop_6 ?_
          exact Ev.to (by rw [nI_1]; rfl) rfl (by first | rw [if_pos h72] | rw [if_neg h72]) (ih (i + 1) (by omega) (by omega) _ _ (RS.dig_ok hO) h9.1 (hF.tr h9.2) ((rd_some hlt (step_dig hdg)).symm.trans hZ))
        · refine ev_iconst_5 dX4_readParts_75 ?_
          refine ev_goto (tgt := 84) dX4_readParts_76 (by decide) ?_
          refine cl_X4_62 (c_setCell hr.2.2.2 (by decide)) dX4_readParts_84 rfl (Nat.le_of_ble_eq_true rfl) ?_
          rw [setV_nI (by omega) (by omega)]
          refine ev_iconst_0 dX4_readParts_87 ?_
          refine ev_istore_4 dX4_readParts_88 rfl rfl ?_
          refine ev_goto (tgt := 188) dX4_readParts_90 (by decide) ?_
          refine ev_iinc_5 (v := 1) dX4_readParts_188 (by decide) rfl rfl ?_
          refine ev_goto (tgt := 15) dX4_readParts_191 (by decide) ?_
          have hdg : s.isDig (σ0.1 (t + 1) i) := ⟨b2i_t h34, by first | exact Or.inl h41 | exact Or.inr ⟨h48, h55⟩⟩
          have h9 := dig_R (r := r) (c := σ0.1 (t + 1) i) hS rfl
          refine ev_drop_6 ?_
          exact Ev.to (by rw [nI_1]; rfl) rfl (by first | rw [if_pos h72] | rw [if_neg h72]) (ih (i + 1) (by omega) (by omega) _ _ (RS.dig_ok hO) h9.1 (hF.tr h9.2) ((rd_some hlt (step_dig hdg)).symm.trans hZ))
      · refine ev_iload_6 dX4_readParts_44 ?_
        refine ev_bipush_50 dX4_readParts_46 ?_
        refine ev_icmp_lt (tgt := 93) dX4_readParts_48 (by decide) (fun h48 => ?_) (fun h48 => ?_)
        · first
          | exact c_rp_93 hr hp hS hO hF (fun z => absurd (z.1.symm.trans ((b2i_0 _).mp h34)) (by decide)) (fun s' σ' e ok' R' F' => ih (i + 1) (by omega) (by omega) s' σ' ok' R' F' ((rd_some hlt e).symm.trans hZ)) (fun e => hZ.symm.trans (rd_none hlt e))
          | exact c_rp_93 hr hp hS hO hF (fun z => z.2.elim h41 (fun y => y.1 h48)) (fun s' σ' e ok' R' F' => ih (i + 1) (by omega) (by omega) s' σ' ok' R' F' ((rd_some hlt e).symm.trans hZ)) (fun e => hZ.symm.trans (rd_none hlt e))
          | exact c_rp_93 hr hp hS hO hF (fun z => z.2.elim h41 (fun y => y.2 h55)) (fun s' σ' e ok' R' F' => ih (i + 1) (by omega) (by omega) s' σ' ok' R' F' ((rd_some hlt e).symm.trans hZ)) (fun e => hZ.symm.trans (rd_none hlt e))
        · refine ev_iload_6 dX4_readParts_51 ?_
          refine ev_bipush_53 dX4_readParts_53 ?_
          refine ev_icmp_gt (tgt := 93) dX4_readParts_55 (by decide) (fun h55 => ?_) (fun h55 => ?_)
          · first
            | exact c_rp_93 hr hp hS hO hF (fun z => absurd (z.1.symm.trans ((b2i_0 _).mp h34)) (by decide)) (fun s' σ' e ok' R' F' => ih (i + 1) (by omega) (by omega) s' σ' ok' R' F' ((rd_some hlt e).symm.trans hZ)) (fun e => hZ.symm.trans (rd_none hlt e))
            | exact c_rp_93 hr hp hS hO hF (fun z => z.2.elim h41 (fun y => y.1 h48)) (fun s' σ' e ok' R' F' => ih (i + 1) (by omega) (by omega) s' σ' ok' R' F' ((rd_some hlt e).symm.trans hZ)) (fun e => hZ.symm.trans (rd_none hlt e))
            | exact c_rp_93 hr hp hS hO hF (fun z => z.2.elim h41 (fun y => y.2 h55)) (fun s' σ' e ok' R' F' => ih (i + 1) (by omega) (by omega) s' σ' ok' R' F' ((rd_some hlt e).symm.trans hZ)) (fun e => hZ.symm.trans (rd_none hlt e))
          · refine ev_aload_0 dX4_readParts_58 ?_
            refine gf_X4_18 dX4_readParts_59 hr.1 rfl ?_
            refine ev_aload_0 dX4_readParts_62 ?_
            refine gf_X4_57 dX4_readParts_63 hr.1 rfl ?_
            rw [hS.1]
            refine ev_iconst_1 dX4_readParts_66 ?_
            refine ev_isub dX4_readParts_67 ?_
            have h1n := hO.2.2 (b2i_t h34)
            rw [show (1 : Int32) = nI 1 from rfl, nI_sub h1n]
            refine ev_iload_6 dX4_readParts_68 ?_
            refine ev_bipush_48 dX4_readParts_70 ?_
            refine ev_icmp_ne (tgt := 79) dX4_readParts_72 (by decide) (fun h72 => ?_) (fun h72 => ?_)
            · refine ev_iload_6 dX4_readParts_79 ?_
              refine ev_bipush_48 dX4_readParts_81 ?_
              refine ev_isub dX4_readParts_83 ?_
              refine cl_X4_62 (c_setCell hr.2.2.2 (by decide)) dX4_readParts_84 rfl (Nat.le_of_ble_eq_true rfl) ?_
              rw [setV_nI (by omega) (by omega)]
              refine ev_iconst_0 dX4_readParts_87 ?_
              refine ev_istore_4 dX4_readParts_88 rfl rfl ?_
              refine ev_goto (tgt := 188) dX4_readParts_90 (by decide) ?_
              refine ev_iinc_5 (v := 1) dX4_readParts_188 (by decide) rfl rfl ?_
              refine ev_goto (tgt := 15) dX4_readParts_191 (by decide) ?_
              have hdg : s.isDig (σ0.1 (t + 1) i) := ⟨b2i_t h34, by first | exact Or.inl h41 | exact Or.inr ⟨h48, h55⟩⟩
              have h9 := dig_R (r := r) (c := σ0.1 (t + 1) i) hS rfl
              refine ev_drop_6 ?_
              exact Ev.to (by rw [nI_1]; rfl) rfl (by first | rw [if_pos h72] | rw [if_neg h72]) (ih (i + 1) (by omega) (by omega) _ _ (RS.dig_ok hO) h9.1 (hF.tr h9.2) ((rd_some hlt (step_dig hdg)).symm.trans hZ))
            · refine ev_iconst_5 dX4_readParts_75 ?_
              refine ev_goto (tgt := 84) dX4_readParts_76 (by decide) ?_
              refine cl_X4_62 (c_setCell hr.2.2.2 (by decide)) dX4_readParts_84 rfl (Nat.le_of_ble_eq_true rfl) ?_
              rw [setV_nI (by omega) (by omega)]
              refine ev_iconst_0 dX4_readParts_87 ?_
              refine ev_istore_4 dX4_readParts_88 rfl rfl ?_
              refine ev_goto (tgt := 188) dX4_readParts_90 (by decide) ?_
              refine ev_iinc_5 (v := 1) dX4_readParts_188 (by decide) rfl rfl ?_
              refine ev_goto (tgt := 15) dX4_readParts_191 (by decide) ?_
              have hdg : s.isDig (σ0.1 (t + 1) i) := ⟨b2i_t h34, by first | exact Or.inl h41 | exact Or.inr ⟨h48, h55⟩⟩
              have h9 := dig_R (r := r) (c := σ0.1 (t + 1) i) hS rfl
              refine ev_drop_6 ?_
              exact Ev.to (by rw [nI_1]; rfl) rfl (by first | rw [if_pos h72] | rw [if_neg h72]) (ih (i + 1) (by omega) (by omega) _ _ (RS.dig_ok hO) h9.1 (hF.tr h9.2) ((rd_some hlt (step_dig hdg)).symm.trans hZ))
def rd0 (σ : mSt) (r : Nat) : RS := (0, σ.1 (r + 1), σ.1 (r + 2), σ.1 (r + 3), 0, false, false)
/-- what reading the line t (of tl signs) comes to -/
def rdZ (σ : mSt) (r t tl : Nat) : Int32 × RS := rdF (σ.1 (t + 1)) tl 0 tl (rd0 σ r)

set_option maxRecDepth 100000 in
set_option maxHeartbeats 4000000 in
theorem c_readParts {ae ad : Nat → Nat} {sh : mSh} {σ : mSt} {r t tl : Nat} (hr : mReader ad sh r) (hp : mLine ad sh t) (hs : t + 1 < r ∨ r + 3 < t) (hL : σ.1 t 1 = nI tl) (hL2 : tl ≤ 60) : Ct yX4_readParts cX4_readParts 9 (some .int) 4 0 0 [.ref (ad r), .ref (ad t)] ae ad sh σ (mPi ad sh (fun x σ' => x = (rdZ σ r t tl).1 ∧ rsR σ' r (rdZ σ r t tl).2 ∧ frT σ σ' r)) := by
  refine Ct.ofL (own := RX4) (ini := false) (ls := [some (.ref (ad r)), some (.ref (ad t)), none, none, none, none, none, none, none]) (by decide +kernel) rfl (fun h => by cases h) (Nat.le_of_ble_eq_true rfl) rfl ?_
  refine ev_aload_0 dX4_readParts_0 ?_
  refine ev_iconst_0 dX4_readParts_1 ?_
  refine pf_X4_57 dX4_readParts_2 hr.1 rfl ?_
  refine ev_iconst_0 dX4_readParts_5 ?_
  refine ev_istore_2 dX4_readParts_6 rfl rfl ?_
  refine ev_iconst_0 dX4_readParts_7 ?_
  refine ev_istore_3 dX4_readParts_8 rfl rfl ?_
  refine ev_iconst_0 dX4_readParts_9 ?_
  refine ev_istore_4 dX4_readParts_10 rfl rfl ?_
  refine ev_iconst_0 dX4_readParts_12 ?_
  refine ev_istore_5 dX4_readParts_13 rfl rfl ?_
  have hF : frT σ (mu σ.1 r 3 0, σ.2) r := ⟨fun k hk => mu_ne _ (by omega), rfl⟩
  exact c_rp_15 (σ0 := σ) (Z := rdZ σ r t tl) hr hp hs hL hL2 _ 0 rfl (Nat.zero_le _) (rd0 σ r) _ ⟨by show 0 ≤ 6; omega, (fun z => by cases z), (fun z => by cases z)⟩ ⟨by simp [mu, upd]; rfl, mu_ne _ (by omega), mu_ne _ (by omega), mu_ne _ (by omega)⟩ hF rfl
