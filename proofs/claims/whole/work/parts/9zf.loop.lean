theorem and31 (x : Int32) : ∃ j, j < 32 ∧ x &&& 31 = nI j := by
  refine ⟨x.toBitVec.toNat % 32, Nat.mod_lt _ (by decide), ?_⟩
  apply Int32.toBitVec_inj.mp
  apply BitVec.eq_of_toNat_eq
  rw [Int32.toBitVec_and, BitVec.toNat_and]
  show x.toBitVec.toNat &&& (2 ^ 5 - 1) = (BitVec.ofNat 32 (x.toBitVec.toNat % 32)).toNat
  rw [BitVec.toNat_ofNat, Nat.and_two_pow_sub_one_eq_mod]
  omega
theorem lw_neg : ∀ L, L < 7 → nI L - 7 < 0 := by decide +kernel
theorem lw_gt {L i : Nat} (hL : L ≤ 3584) (hi : i ≤ 4000) : nI L - 7 < nI i ↔ L < i + 7 := by
  by_cases h7 : 7 ≤ L
  · rw [show nI L - 7 = nI (L - 7) from nI_sub h7, nI_ltI (by omega) (by omega)]
    omega
  · have h1 := lw_neg L (by omega)
    have h2 : ¬ nI i < 0 := fun z => absurd ((nI_ltI (b := 0) (by omega) (by decide)).mp z) (Nat.not_lt_zero _)
    exact ⟨fun _ => by omega, fun _ => Int32.lt_of_lt_of_le h1 (Int32.not_lt.mp h2)⟩
def lwPost : mPost := fun v _ _ _ => v = some (.int 1)
set_option maxRecDepth 100000 in
set_option maxHeartbeats 4000000 in
theorem law_loop {ae : Nat → Nat} (hL : ae 61 ≤ 3584) : ∀ (f i : Nat), ae 61 + 7 - i ≤ f → i ≤ ae 61 + 6 → ∀ (ad : Nat → Nat) (sh : mSh) (σ : mSt) (k n : Nat), jAll ad sh σ → k ≤ 100 + i → n ≤ 30000 + 60 * i → Ev RL cL_law 4 false (some .boolean) room_1 ae lwPost 18 (lwL ae ad i) [] k n ad sh σ := by
  intro f
  induction f with
  | zero =>
    intro i hf hi
    omega
  | succ f ih =>
    intro i hf hi ad sh σ k n h hk hn
    have go : i + 7 ≤ ae 61 → ∀ (ad' : Nat → Nat) (sh' : mSh) (σ' : mSt) (k' n' : Nat), jAll ad' sh' σ' → k' ≤ k + 1 → n' ≤ n + 60 → Ev RL cL_law 4 false (some .boolean) room_1 ae lwPost 864 (lwL ae ad' i) [] k' n' ad' sh' σ' := fun hi7 ad' sh' σ' k' n' h' hk' hn' => by
      unfold lwL
      refine ev_iinc_3 (v := 7) dL_law_864 (by decide) rfl rfl ?_
      rw [show nI i + (7 : Int32) = nI (i + 7) from nI_add i 7]
      refine ev_goto (tgt := 18) dL_law_867 (by decide) ?_
      exact ih (i + 7) (by omega) (by omega) ad' sh' σ' k' n' h' (by omega) (by omega)
    unfold lwL
    refine ev_iload_3 dL_law_18 ?_
    refine ev_aload_0 dL_law_19 ?_
    refine ev_slen (v := nI (ae 61)) rfl dL_law_20 ?_
    refine ev_bipush_7 dL_law_21 ?_
    refine ev_isub dL_law_23 ?_
    refine ev_icmp_gt (tgt := 870) dL_law_24 (by decide) (fun h24 => ?_) (fun h24 => ?_)
    · refine ev_iconst_1 dL_law_870 ?_
      exact ev_ret (v := some (.int 1)) dL_law_871 (by show k ≤ 600000; omega) (by show n ≤ 7302250; omega) (Or.inr (Or.inl ⟨.boolean, 1, rfl, rfl, rfl, by decide⟩)) rfl
    · have hi7 : i + 7 ≤ ae 61 := Nat.le_of_not_lt fun z => h24 ((lw_gt hL (by omega)).mpr z)
      refine ev_aload_0 dL_law_27 ?_
      refine ev_iload_3 dL_law_28 ?_
      refine ev_sld (vp_in_nI (by omega) (by omega)) dL_law_29 ?_
      refine ev_bipush_31 dL_law_30 ?_
      refine ev_iand dL_law_32 ?_
      obtain ⟨j, hj, ej⟩ := and31 (lwX ae i)
      unfold lwX at ej
      rw [ej]
      have hj2 : j = 0 ∨ j = 1 ∨ j = 2 ∨ j = 3 ∨ j = 4 ∨ j = 5 ∨ j = 6 ∨ j = 7 ∨ j = 8 ∨ j = 9 ∨ j = 10 ∨ j = 11 ∨ j = 12 ∨ j = 13 ∨ j = 14 ∨ j = 15 ∨ j = 16 ∨ j = 17 ∨ j = 18 ∨ j = 19 ∨ j = 20 ∨ j = 21 ∨ j = 22 ∨ j = 23 ∨ j = 24 ∨ j = 25 ∨ j = 26 ∨ j = 27 ∨ j = 28 ∨ j = 29 ∨ j = 30 ∨ j = 31 := by omega
      rcases hj2 with e | e | e | e | e | e | e | e | e | e | e | e | e | e | e | e | e | e | e | e | e | e | e | e | e | e | e | e | e | e | e | e
      · subst e
        refine ev_tableIn (off := 119) (tgt := 152) dL_law_33 (by decide) (by decide) (by decide) (by decide) ?_
        exact lw_op0 h hL hi7 (by omega) (by omega) (go hi7)
      · subst e
        refine ev_tableIn (off := 142) (tgt := 175) dL_law_33 (by decide) (by decide) (by decide) (by decide) ?_
        exact lw_op1 h hL hi7 (by omega) (by omega) (go hi7)
      · subst e
        refine ev_tableIn (off := 175) (tgt := 208) dL_law_33 (by decide) (by decide) (by decide) (by decide) ?_
        exact lw_op2 h hL hi7 (by omega) (by omega) (go hi7)
      · subst e
        refine ev_tableIn (off := 198) (tgt := 231) dL_law_33 (by decide) (by decide) (by decide) (by decide) ?_
        exact lw_op3 h hL hi7 (by omega) (by omega) (go hi7)
      · subst e
        refine ev_tableIn (off := 241) (tgt := 274) dL_law_33 (by decide) (by decide) (by decide) (by decide) ?_
        exact lw_op4 h hL hi7 (by omega) (by omega) (go hi7)
      · subst e
        refine ev_tableIn (off := 274) (tgt := 307) dL_law_33 (by decide) (by decide) (by decide) (by decide) ?_
        exact lw_op5 h hL hi7 (by omega) (by omega) (go hi7)
      · subst e
        refine ev_tableIn (off := 287) (tgt := 320) dL_law_33 (by decide) (by decide) (by decide) (by decide) ?_
        exact lw_op6 h hL hi7 (by omega) (by omega) (go hi7)
      · subst e
        refine ev_tableIn (off := 310) (tgt := 343) dL_law_33 (by decide) (by decide) (by decide) (by decide) ?_
        exact lw_op7 h hL hi7 (by omega) (by omega) (go hi7)
      · subst e
        refine ev_tableIn (off := 353) (tgt := 386) dL_law_33 (by decide) (by decide) (by decide) (by decide) ?_
        exact lw_op8 h hL hi7 (by omega) (by omega) (go hi7)
      · subst e
        refine ev_tableIn (off := 428) (tgt := 461) dL_law_33 (by decide) (by decide) (by decide) (by decide) ?_
        exact lw_op9 h hL hi7 (by omega) (by omega) (go hi7)
      · subst e
        refine ev_tableIn (off := 451) (tgt := 484) dL_law_33 (by decide) (by decide) (by decide) (by decide) ?_
        exact lw_op10 h hL hi7 (by omega) (by omega) (go hi7)
      · subst e
        refine ev_tableIn (off := 474) (tgt := 507) dL_law_33 (by decide) (by decide) (by decide) (by decide) ?_
        exact lw_op11 h hL hi7 (by omega) (by omega) (go hi7)
      · subst e
        refine ev_tableIn (off := 507) (tgt := 540) dL_law_33 (by decide) (by decide) (by decide) (by decide) ?_
        exact lw_op12 h hL hi7 (by omega) (by omega) (go hi7)
      · subst e
        refine ev_tableIn (off := 540) (tgt := 573) dL_law_33 (by decide) (by decide) (by decide) (by decide) ?_
        exact lw_op13 h hL hi7 (by omega) (by omega) (go hi7)
      · subst e
        refine ev_tableIn (off := 563) (tgt := 596) dL_law_33 (by decide) (by decide) (by decide) (by decide) ?_
        exact lw_op14 h hL hi7 (by omega) (by omega) (go hi7)
      · subst e
        refine ev_tableIn (off := 576) (tgt := 609) dL_law_33 (by decide) (by decide) (by decide) (by decide) ?_
        exact lw_op15 h hL hi7 (by omega) (by omega) (go hi7)
      · subst e
        refine ev_tableIn (off := 610) (tgt := 643) dL_law_33 (by decide) (by decide) (by decide) (by decide) ?_
        exact lw_op16 h hL hi7 (by omega) (by omega) (go hi7)
      · subst e
        refine ev_tableIn (off := 634) (tgt := 667) dL_law_33 (by decide) (by decide) (by decide) (by decide) ?_
        exact lw_op17 h hL hi7 (by omega) (by omega) (go hi7)
      · subst e
        refine ev_tableIn (off := 647) (tgt := 680) dL_law_33 (by decide) (by decide) (by decide) (by decide) ?_
        exact lw_op18 h hL hi7 (by omega) (by omega) (go hi7)
      · subst e
        refine ev_tableIn (off := 680) (tgt := 713) dL_law_33 (by decide) (by decide) (by decide) (by decide) ?_
        exact lw_op19 h hL hi7 (by omega) (by omega) (go hi7)
      · subst e
        refine ev_tableIn (off := 703) (tgt := 736) dL_law_33 (by decide) (by decide) (by decide) (by decide) ?_
        exact lw_op20 h hL hi7 (by omega) (by omega) (go hi7)
      · subst e
        refine ev_tableIn (off := 736) (tgt := 769) dL_law_33 (by decide) (by decide) (by decide) (by decide) ?_
        exact lw_op21 h hL hi7 (by omega) (by omega) (go hi7)
      · subst e
        refine ev_tableIn (off := 769) (tgt := 802) dL_law_33 (by decide) (by decide) (by decide) (by decide) ?_
        exact lw_op22 h hL hi7 (by omega) (by omega) (go hi7)
      · subst e
        refine ev_tableIn (off := 782) (tgt := 815) dL_law_33 (by decide) (by decide) (by decide) (by decide) ?_
        exact lw_op23 h hL hi7 (by omega) (by omega) (go hi7)
      · subst e
        refine ev_tableIn (off := 795) (tgt := 828) dL_law_33 (by decide) (by decide) (by decide) (by decide) ?_
        exact lw_op24 h hL hi7 (by omega) (by omega) (go hi7)
      · subst e
        refine ev_tableIn (off := 808) (tgt := 841) dL_law_33 (by decide) (by decide) (by decide) (by decide) ?_
        exact lw_op25 h hL hi7 (by omega) (by omega) (go hi7)
      · subst e
        refine ev_tableOut (tgt := 864) dL_law_33 (Or.inr (by decide)) (by decide) ?_
        exact go hi7 ad sh σ k n h (by omega) (by omega)
      · subst e
        refine ev_tableOut (tgt := 864) dL_law_33 (Or.inr (by decide)) (by decide) ?_
        exact go hi7 ad sh σ k n h (by omega) (by omega)
      · subst e
        refine ev_tableOut (tgt := 864) dL_law_33 (Or.inr (by decide)) (by decide) ?_
        exact go hi7 ad sh σ k n h (by omega) (by omega)
      · subst e
        refine ev_tableOut (tgt := 864) dL_law_33 (Or.inr (by decide)) (by decide) ?_
        exact go hi7 ad sh σ k n h (by omega) (by omega)
      · subst e
        refine ev_tableOut (tgt := 864) dL_law_33 (Or.inr (by decide)) (by decide) ?_
        exact go hi7 ad sh σ k n h (by omega) (by omega)
      · subst e
        refine ev_tableOut (tgt := 864) dL_law_33 (Or.inr (by decide)) (by decide) ?_
        exact go hi7 ad sh σ k n h (by omega) (by omega)
theorem vb_z : mZ vbσ2 61 := by
  have h : mZ vbσ 61 := mZ_pos (N := 54) (mZ_law (N := 44) (mZ_pos (N := 40) (mZ_pos (N := 37) (mZ_pos (N := 23) (mZ_pos (N := 20) (mZ_law (N := 5) (mZ_le (M := 61) mZ0 (by omega)) (by omega)) (by omega)) (by omega)) (by omega)) (by omega)) (by omega)) (by omega)
  exact mZ_mu (mZ_mu (mZ_mu h (by omega)) (by omega)) (by omega)
theorem vb_ne {k : Nat} (h0 : k ≠ 0) (h26 : k ≠ 26) (h29 : k ≠ 29) : vbσ2.1 k = vbσ.1 k := (mu_ne _ h0).trans ((mu_ne _ h29).trans (mu_ne _ h26))
theorem jRel_0 {σ' : mSt} (b1 : σ'.1 62 = begG g0) (b2 : σ'.1 61 = upd (vbσ2.1 61) 13 0) (b3 : ∀ k, k < 3 → σ'.1 72 k = -1) (b4 : ∀ j, j ≠ 61 → j ≠ 62 → j ≠ 72 → σ'.1 j = vbσ2.1 j) (b5 : σ'.2 = vbσ2.2) : jRel σ' (begG g0) := by
  have z61 : vbσ2.1 61 = fun _ => 0 := (vb_z 61 (Nat.le_refl _)).1
  have hP : posR vbσ2 20 g0 ∧ ritR vbσ2 20 g0 := posR_lo vb_pos.1 vb_pos.2 (fun i hi => vb_ne (by omega) (by omega) (by omega)) rfl
  have hL : lawR vbσ2 5 g0 := lawR_lo vb_law (fun i hi => vb_ne (by omega) (by omega) (by omega))
  have h3 : vbσ2.1 26 3 = 0 := by simp [vbσ2, mu, upd]
  have h29 : vbσ2.1 29 0 = dgG g0 := by
    have : vbσ2.1 29 0 = dgQ vbσ 20 (cN g0 * rN g0) := by simp [vbσ2, mu, upd]
    rw [this]
    exact dgQ_G g0_P vb_pos.1 vb_pos.2
  have h0 : vbσ2.1 0 11 = 0 := by simp [vbσ2, mu, upd]
  have h11 : vbσ2.1 1 1 = 0 := by rw [vb_ne (by decide) (by decide) (by decide)]; decide +kernel
  have h43 : vbσ2.1 43 3 = 0 := by rw [vb_ne (by decide) (by decide) (by decide)]; decide +kernel
  refine ⟨bg_wfP g0_P, bg_wfL g0_L, b1, (cRel_beg hP hL h3 h29 h0).fr (fun k hk => ⟨b4 k (by omega) (by omega) (by omega), by rw [b5]⟩), ⟨Or.inl (by rw [b2, upd_at]), Or.inl (b3 2 (by decide))⟩, tRel_0 (by rw [b4 1 (by decide) (by decide) (by decide)]; exact h11) (by rw [b2, upd_ne (by decide), z61]), Or.inl ⟨by rw [b4 43 (by decide) (by decide) (by decide)]; exact h43, by rw [b2, upd_ne (by decide), z61]⟩⟩
section CN
variable {own : String} {cc : ByteArray} {nL : Nat} {ini : Bool} {ret : Option FieldType} {R : Room} {ae ad : Nat → Nat} {Post : mPost} {pc : Nat} {ls : List (Option Value)} {rest : List Value} {k n : Nat} {σ : mSt}
theorem nw_L_7 {T : Nat} {sh : mSh} (hT : sh.length = T) (hz : mZ σ T) (hk : k + 1 ≤ R.cells) (hn : n + 12 ≤ R.slots) (hd : decode cc pc = .ok (.new 7, 3)) (K : ∀ ad1 : Nat → Nat, (∀ j, j < T → ad1 j = ad j) → Ev RL cc nL ini ret R ae Post (pc + 3) ls (.ref (ad1 T) :: rest) (k + 1) (n + 12) ad1 (sh ++ [.inr (9, [.null, .null, .null, .null, .null, .null, .null, .null, .null, .null, .null, .int 0])]) σ) : Ev RL cc nL ini ret R ae Post pc ls rest k n ad sh σ := by
  subst hT
  refine ev_new (fs := [.null, .null, .null, .null, .null, .null, .null, .null, .null, .null, .null, .int 0]) mk_X9 (mTs_i 91 (by decide +kernel) (by decide +kernel)) (mTs_i 92 (by decide +kernel) (by decide +kernel)) (mTs_i 72 (by decide +kernel) (by decide +kernel)) (fun j hj => ?_) (fun q σ => ?_) hk hn hd (fun ad1 ha => ?_)
  · have : j = 0 ∨ j = 1 ∨ j = 2 ∨ j = 3 ∨ j = 4 ∨ j = 5 ∨ j = 6 ∨ j = 7 ∨ j = 8 ∨ j = 9 ∨ j = 10 ∨ j = 11 := by omega
    rcases this with e | e | e | e | e | e | e | e | e | e | e | e <;> subst e <;> rfl
  · simp [mVal, mr, mrl, List.mapIdx_cons]
  · rw [mZ_eq hz]; exact K ad1 ha
theorem nw_L_10 {T : Nat} {sh : mSh} (hT : sh.length = T) (hz : mZ σ T) (hk : k + 1 ≤ R.cells) (hn : n + 19 ≤ R.slots) (hd : decode cc pc = .ok (.new 10, 3)) (K : ∀ ad1 : Nat → Nat, (∀ j, j < T → ad1 j = ad j) → Ev RL cc nL ini ret R ae Post (pc + 3) ls (.ref (ad1 T) :: rest) (k + 1) (n + 19) ad1 (sh ++ [.inr (10, [.null, .null, .int 0, .null, .int 0, .int 0, .null, .null, .null, .null, .null, .null, .null, .int 0, .null, .null, .null, .int 0, .null])]) σ) : Ev RL cc nL ini ret R ae Post pc ls rest k n ad sh σ := by
  subst hT
  refine ev_new (fs := [.null, .null, .int 0, .null, .int 0, .int 0, .null, .null, .null, .null, .null, .null, .null, .int 0, .null, .null, .null, .int 0, .null]) mk_X10 (mTs_i 1060 (by decide +kernel) (by decide +kernel)) (mTs_i 1061 (by decide +kernel) (by decide +kernel)) (mTs_i 82 (by decide +kernel) (by decide +kernel)) (fun j hj => ?_) (fun q σ => ?_) hk hn hd (fun ad1 ha => ?_)
  · have : j = 0 ∨ j = 1 ∨ j = 2 ∨ j = 3 ∨ j = 4 ∨ j = 5 ∨ j = 6 ∨ j = 7 ∨ j = 8 ∨ j = 9 ∨ j = 10 ∨ j = 11 ∨ j = 12 ∨ j = 13 ∨ j = 14 ∨ j = 15 ∨ j = 16 ∨ j = 17 ∨ j = 18 := by omega
    rcases this with e | e | e | e | e | e | e | e | e | e | e | e | e | e | e | e | e | e | e <;> subst e <;> rfl
  · simp [mVal, mr, mrl, List.mapIdx_cons]
  · rw [mZ_eq hz]; exact K ad1 ha
end CN
set_option maxRecDepth 100000 in
set_option maxHeartbeats 4000000 in
theorem law_all {ae ad : Nat → Nat} (hL : ae 61 ≤ 3584) : Ev RL cL_law 4 false (some .boolean) room_1 ae lwPost 0 [some (.ref (ae 60)), none, none, none] [] 0 0 ad [] (fun _ _ => 0, fun _ _ => 0) := by
  refine nw_L_7 (T := 0) rfl (fun _ _ => ⟨rfl, rfl⟩) (Nat.le_of_ble_eq_true rfl) (Nat.le_of_ble_eq_true rfl) dL_law_0 (fun ad1 ha1 => ?_)
  refine ev_dup dL_law_3 rfl ?_
  refine cn_call (As := []) c_X9_init mm_X9_init lk_L_9 mi_X9_init rfl rfl rfl dL_law_4 rfl (Nat.le_of_ble_eq_true rfl) (Nat.le_of_ble_eq_true rfl) (Nat.le_of_ble_eq_true rfl) (fun ad2 ha2 => ?_)
  rw [← ha2 0 (by omega)]
  refine ev_astore_1 dL_law_7 rfl rfl ?_
  refine nw_L_10 (T := 61) rfl vb_z (Nat.le_of_ble_eq_true rfl) (Nat.le_of_ble_eq_true rfl) dL_law_8 (fun ad3 ha3 => ?_)
  refine ev_dup dL_law_11 rfl ?_
  refine ev_callI (ret' := none) (As := []) (c_X10_init (S := [] ++ vbS ad2) rfl vb_z) mm_X10_init lk_L_12 mi_X10_init rfl rfl rfl dL_law_12 rfl (Nat.le_of_ble_eq_true rfl) (Nat.le_of_ble_eq_true rfl) (Nat.le_of_ble_eq_true rfl) (fun v ad4 sh4 σ4 h4 => ?_)
  obtain ⟨e1, e2, e3, b1, b2, b3, b4, b5⟩ := h4
  subst e1; subst e3
  have hb : mBoard ad4 ([] ++ vbS ad2 ++ mdS ad4) := (extA.of (ad := ad2) (fun j hj => by
    have hj2 : j < 61 := hj
    rw [e2 j (by omega), ha3 j hj2])).board vbS_ok
  have hm : mModel ad4 ([] ++ vbS ad2 ++ mdS ad4) := mdS_ok rfl
  rw [← ha3 0 (by omega), ← e2 0 (by omega), ← e2 61 (by omega)]
  refine ev_astore_2 dL_law_15 rfl rfl ?_
  refine ev_iconst_0 dL_law_16 ?_
  refine ev_istore_3 dL_law_17 rfl rfl ?_
  exact law_loop hL (ae 61 + 7) 0 (by omega) (by omega) ad4 _ σ4 _ _ ⟨hb, hm, _, jRel_0 b1 b2 b3 b4 b5⟩ (Nat.le_of_ble_eq_true rfl) (Nat.le_of_ble_eq_true rfl)
