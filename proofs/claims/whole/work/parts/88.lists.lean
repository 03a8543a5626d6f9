theorem ftm_in {f : Nat → List Nat} {i x : Nat} (h : x ∈ f i) : ∀ n, i < n → x ∈ ftm f n
  | 0, hn => absurd hn (Nat.not_lt_zero _)
  | n + 1, hn => by
    rw [ftm, List.mem_append]
    by_cases z : i = n
    · exact Or.inr (z ▸ h)
    · exact Or.inl (ftm_in h n (by omega))
theorem flt_one {g : Nat → Int32} {m : Nat} : [m].filter (okG g) = if okG g m then [m] else [] := by
  cases h : okG g m <;> simp [h]
theorem fltG_le (g : Nat → Int32) (L : List Nat) : (L.filter (okG g)).length ≤ L.length := List.length_filter_le _ _
theorem mvC {g : Nat → Int32} (hG : wfP g) (hW : wfL g) {k : Nat} (hk : k < 4) (h : castB g k = true) : mvOk g (1 * 4096 + k * 64 + 0) := cand_ok hG hW (by
  unfold candG
  rw [List.mem_append, List.mem_append]
  exact Or.inl (Or.inr (ftm_in (i := k) (by unfold cdC; rw [if_pos h]; exact List.mem_singleton.mpr rfl) 4 hk)))
theorem mvD {g : Nat → Int32} (hG : wfP g) (hW : wfL g) {t q : Nat} (ht : t < 6) (hq : q < cN g * rN g) (h1 : clN g 55 = 1 ∧ 1 ≤ hN g (6 * tuN g + t)) (h : drOk g t q = true) : mvOk g (2 * 4096 + t * 64 + q) := cand_ok hG hW (by
  unfold candG
  rw [List.mem_append]
  refine Or.inr (ftm_in (i := t) ?_ 6 ht)
  unfold cdD
  rw [if_pos h1]
  exact ftm_in (i := q) (by unfold drF; rw [if_pos h]; exact List.mem_singleton.mpr rfl) _ hq)

theorem c_mAddM {ae ad : Nat → Nat} {sh : mSh} {σ : mSt} (hm : mModel ad sh) {g : Nat → Int32} (hg : σ.1 62 = g) (hG : wfP g) (hW : wfL g) {d : Nat} {L : List Nat} (hd : d ≤ 1) {f t : Nat} (hf : f < 36) (ht : t < 36) (hm0 : mvOk g (f * 64 + t)) (hl : mliR σ d g L) (hlen : L.length < 445) : Ct yX10_adds cX10_adds 9 none 7 0 0 [.ref (ad 61), .int (nI d), .int 0, .int (nI f), .int (nI t), .int (nI (tyN (mN g f)))] ae ad sh σ (mPv ad sh (fun σ' => mliR σ' d g (L ++ (if okG g (f * 64 + t) then [f * 64 + t] else [])) ∧ frA d σ σ')) := by
  have h := c_mAdds (ae := ae) hm hg hG hW hd hm0 hl hlen
  have e : 0 * 4096 + f * 64 + t = f * 64 + t := by omega
  have k := mK_c (k := 0) (a := f) (b := t) (by omega) (by omega)
  rw [e] at k
  obtain ⟨k1, k2, k3⟩ := k
  have e1 : fromN g (f * 64 + t) = nI f := by unfold fromN; rw [if_pos k1, k2]
  have e2 : toN g (f * 64 + t) = nI t := by unfold toN; rw [if_neg (by omega), k3]
  have e3 : whN g (f * 64 + t) = tyN (mN g f) := by unfold whN; rw [if_pos k1, k2]
  rw [e1, e2, e3, k1] at h
  exact h
theorem c_mAddC {ae ad : Nat → Nat} {sh : mSh} {σ : mSt} (hm : mModel ad sh) {g : Nat → Int32} (hg : σ.1 62 = g) (hG : wfP g) (hW : wfL g) {d : Nat} {L : List Nat} (hd : d ≤ 1) {k : Nat} (hk : k < 4) (hm0 : mvOk g (1 * 4096 + k * 64 + 0)) (hl : mliR σ d g L) (hlen : L.length < 445) : Ct yX10_adds cX10_adds 9 none 7 0 0 [.ref (ad 61), .int (nI d), .int 1, .int (nI (caN g k 2)), .int (nI (caN g k 3)), .int (nI k)] ae ad sh σ (mPv ad sh (fun σ' => mliR σ' d g (L ++ (if okG g (1 * 4096 + k * 64 + 0) then [1 * 4096 + k * 64 + 0] else [])) ∧ frA d σ σ')) := by
  have h := c_mAdds (ae := ae) hm hg hG hW hd hm0 hl hlen
  obtain ⟨k1, k2, k3⟩ := mK_c (k := 1) (a := k) (b := 0) (by omega) (by omega)
  have e1 : fromN g (1 * 4096 + k * 64 + 0) = nI (caN g k 2) := by unfold fromN; rw [if_neg (by omega), if_pos k1, k2]
  have e2 : toN g (1 * 4096 + k * 64 + 0) = nI (caN g k 3) := by unfold toN; rw [if_pos k1, k2]
  have e3 : whN g (1 * 4096 + k * 64 + 0) = k := by unfold whN; rw [if_neg (by omega), k2]
  rw [e1, e2, e3, k1] at h
  exact h
theorem c_mAddD {ae ad : Nat → Nat} {sh : mSh} {σ : mSt} (hm : mModel ad sh) {g : Nat → Int32} (hg : σ.1 62 = g) (hG : wfP g) (hW : wfL g) {d : Nat} {L : List Nat} (hd : d ≤ 1) {t q : Nat} (ht : t < 6) (hq : q < 36) (hm0 : mvOk g (2 * 4096 + t * 64 + q)) (hl : mliR σ d g L) (hlen : L.length < 445) : Ct yX10_adds cX10_adds 9 none 7 0 0 [.ref (ad 61), .int (nI d), .int 2, .int (-5), .int (nI q), .int (nI t)] ae ad sh σ (mPv ad sh (fun σ' => mliR σ' d g (L ++ (if okG g (2 * 4096 + t * 64 + q) then [2 * 4096 + t * 64 + q] else [])) ∧ frA d σ σ')) := by
  have h := c_mAdds (ae := ae) hm hg hG hW hd hm0 hl hlen
  obtain ⟨k1, k2, k3⟩ := mK_c (k := 2) (a := t) (b := q) (by omega) (by omega)
  have e1 : fromN g (2 * 4096 + t * 64 + q) = -5 := by unfold fromN; rw [if_neg (by omega), if_neg (by omega)]
  have e2 : toN g (2 * 4096 + t * 64 + q) = nI q := by unfold toN; rw [if_neg (by omega), k3]
  have e3 : whN g (2 * 4096 + t * 64 + q) = t := by unfold whN; rw [if_neg (by omega), k2]
  rw [e1, e2, e3, k1] at h
  exact h
set_option maxRecDepth 100000 in
set_option maxHeartbeats 4000000 in
theorem c_ls_60 {ae ad : Nat → Nat} {sh : mSh} {σ : mSt} (hm : mModel ad sh) {g : Nat → Int32} (hG : wfP g) (hW : wfL g) {d : Nat} (hd : d ≤ 1) {L0 : List Nat} {f : Nat} (hf : f < cN g * rN g) (hof : isOfG g f (tuN g) = true) (h445 : L0.length + (ftm (tgF g f) (cN g * rN g)).length ≤ 445) {Post : mPost} (K : ∀ σ' : mSt, σ'.1 62 = g → frA d σ σ' → mliR σ' d g (L0 ++ (ftm (tgF g f) (cN g * rN g)).filter (okG g)) → Ev RX10 cX10_lists 8 false none (mRm 8 0 0) ae Post 96 [some (.ref (ad 61)), some (.int (nI d)), some (.int (nI (tuN g))), some (.int (nI f)), none, none, none, none] [] 0 0 ad sh σ') : ∀ (n i : Nat), cN g * rN g - i = n → i ≤ cN g * rN g → ∀ σ2 : mSt, σ2.1 62 = g → frA d σ σ2 → mliR σ2 d g (L0 ++ (ftm (tgF g f) i).filter (okG g)) → Ev RX10 cX10_lists 8 false none (mRm 8 0 0) ae Post 60 [some (.ref (ad 61)), some (.int (nI d)), some (.int (nI (tuN g))), some (.int (nI f)), some (.int (nI (tyN (mN g f)))), some (.long (setL (tgtG g f))), none, some (.int (nI i))] [] 0 0 ad sh σ2 := by
  have h36 := sq36 hG
  have htu := tu_le hG
  have hcl := cand_len hG
  intro n
  induction n with
  | zero =>
    intro i hn hi σ2 hg hfr hl
    have e : i = cN g * rN g := by omega
    subst e
    refine ev_iload_7 dX10_lists_60 ?_
    refine ev_aload_0 dX10_lists_62 ?_
    refine cl_X10_65 (c_mSquares hm hg hG) hm.1 dX10_lists_63 rfl (Nat.le_of_ble_eq_true rfl) ?_
    refine ev_icmp_ge (tgt := 96) dX10_lists_66 (by decide) (fun h66 => ?_) (fun h66 => absurd (Int32.le_refl _) h66)
    refine ev_drop_4 ?_
    refine ev_drop_5 ?_
    refine ev_drop_7 ?_
    exact K _ hg hfr hl
  | succ n ih =>
    intro i hn hi σ2 hg hfr hl
    have hlt : i < cN g * rN g := by omega
    refine ev_iload_7 dX10_lists_60 ?_
    refine ev_aload_0 dX10_lists_62 ?_
    refine cl_X10_65 (c_mSquares hm hg hG) hm.1 dX10_lists_63 rfl (Nat.le_of_ble_eq_true rfl) ?_
    refine ev_icmp_ge (tgt := 96) dX10_lists_66 (by decide) (fun h66 => absurd h66 (nI_ge hlt (by omega))) (fun h66 => ?_)
    refine ev_lload_5 dX10_lists_69 ?_
    refine ev_iload_7 dX10_lists_71 ?_
    refine cl_X10_225 (c_mHas (q := (i)) (by omega)) dX10_lists_73 rfl (Nat.le_of_ble_eq_true rfl) ?_
    rw [lb_setL (by omega)]
    refine ev_if_eq (tgt := 90) dX10_lists_76 (by decide) (fun h76 => ?_) (fun h76 => ?_)
    · refine ev_iinc_7 (v := 1) dX10_lists_90 (by decide) rfl rfl ?_
      rw [show nI i + 1 = nI (i + 1) from nI_add (i) 1]
      refine ev_goto (tgt := 60) dX10_lists_93 (by decide) ?_
      exact ih (i + 1) (by omega) (by omega) _ hg hfr (by
        rw [ftm, show tgF g f i = [] from by unfold tgF; rw [if_neg (by rw [(b2i_0 _).mp h76]; decide)], List.append_nil]; exact hl)
    · have htg : tgtG g f i = true := b2i_t h76
      have hlen := ftm_lt (tgF g f) hlt
      have e1 : (tgF g f i).length = 1 := by unfold tgF; rw [if_pos htg]; rfl
      have hfl := fltG_le g (ftm (tgF g f) i)
      refine ev_aload_0 dX10_lists_79 ?_
      refine ev_iload_1 dX10_lists_80 ?_
      refine ev_iconst_0 dX10_lists_81 ?_
      refine ev_iload_3 dX10_lists_82 ?_
      refine ev_iload_7 dX10_lists_83 ?_
      refine ev_iload_4 dX10_lists_85 ?_
      refine cg_X10_229 (c_mAddM hm hg hG hW hd (f := f) (t := i) (by omega) (by omega) (tgt_mv hG hf hlt hof htg) hl (by rw [List.length_append]; omega)) hm.1 dX10_lists_87 rfl (Nat.le_of_ble_eq_true rfl) (fun σ1 h187 => ?_)
      obtain ⟨l187, f187⟩ := h187
      have g187 := f187.now hg
      refine ev_iinc_7 (v := 1) dX10_lists_90 (by decide) rfl rfl ?_
      rw [show nI i + 1 = nI (i + 1) from nI_add (i) 1]
      refine ev_goto (tgt := 60) dX10_lists_93 (by decide) ?_
      exact ih (i + 1) (by omega) (by omega) _ g187 (hfr.tr f187) (by
        have e2 : (ftm (tgF g f) (i + 1)).filter (okG g) = (ftm (tgF g f) i).filter (okG g) ++ (if okG g (f * 64 + i) then [f * 64 + i] else []) := by
          rw [ftm, List.filter_append, show tgF g f i = [f * 64 + i] from by unfold tgF; rw [if_pos htg], flt_one]
        rw [e2, ← List.append_assoc]; exact l187)
set_option maxRecDepth 100000 in
set_option maxHeartbeats 4000000 in
theorem c_ls_16 {ae ad : Nat → Nat} {sh : mSh} {σ : mSt} (hm : mModel ad sh) {g : Nat → Int32} (hG : wfP g) (hW : wfL g) {d : Nat} (hd : d ≤ 1)  {Post : mPost} (K : ∀ σ' : mSt, σ'.1 62 = g → frA d σ σ' → mliR σ' d g ((ftm (cdM g) (cN g * rN g)).filter (okG g)) → Ev RX10 cX10_lists 8 false none (mRm 8 0 0) ae Post 102 [some (.ref (ad 61)), some (.int (nI d)), some (.int (nI (tuN g))), none, none, none, none, none] [] 0 0 ad sh σ') : ∀ (n i : Nat), cN g * rN g - i = n → i ≤ cN g * rN g → ∀ σ2 : mSt, σ2.1 62 = g → frA d σ σ2 → mliR σ2 d g ((ftm (cdM g) i).filter (okG g)) → Ev RX10 cX10_lists 8 false none (mRm 8 0 0) ae Post 16 [some (.ref (ad 61)), some (.int (nI d)), some (.int (nI (tuN g))), some (.int (nI i)), none, none, none, none] [] 0 0 ad sh σ2 := by
  have h36 := sq36 hG
  have htu := tu_le hG
  have hcl := cand_len hG
  intro n
  induction n with
  | zero =>
    intro i hn hi σ2 hg hfr hl
    have e : i = cN g * rN g := by omega
    subst e
    refine ev_iload_3 dX10_lists_16 ?_
    refine ev_aload_0 dX10_lists_17 ?_
    refine cl_X10_65 (c_mSquares hm hg hG) hm.1 dX10_lists_18 rfl (Nat.le_of_ble_eq_true rfl) ?_
    refine ev_icmp_ge (tgt := 102) dX10_lists_21 (by decide) (fun h21 => ?_) (fun h21 => absurd (Int32.le_refl _) h21)
    refine ev_drop_3 ?_
    exact K _ hg hfr hl
  | succ n ih =>
    intro i hn hi σ2 hg hfr hl
    have hlt : i < cN g * rN g := by omega
    refine ev_iload_3 dX10_lists_16 ?_
    refine ev_aload_0 dX10_lists_17 ?_
    refine cl_X10_65 (c_mSquares hm hg hG) hm.1 dX10_lists_18 rfl (Nat.le_of_ble_eq_true rfl) ?_
    refine ev_icmp_ge (tgt := 102) dX10_lists_21 (by decide) (fun h21 => absurd h21 (nI_ge hlt (by omega))) (fun h21 => ?_)
    refine ev_aload_0 dX10_lists_24 ?_
    refine ev_iload_3 dX10_lists_25 ?_
    refine ev_iload_2 dX10_lists_26 ?_
    refine cl_X10_175 (c_mIsOf hm hg hG (q := (i)) (by omega) htu) hm.1 dX10_lists_27 rfl (Nat.le_of_ble_eq_true rfl) ?_
    refine ev_if_ne (tgt := 36) dX10_lists_30 (by decide) (fun h30 => ?_) (fun h30 => ?_)
    · have hof := b2i_t h30
      obtain ⟨m0, m1, m2⟩ := isOf_1 hof
      have m12 := wf_m hG (q := i) (by omega)
      have hty := tyN_lt m1 m12
      have hlen := ftm_lt (cdM g) hlt
      have hfl := fltG_le g (ftm (cdM g) i)
      have ecd : cdM g i = ftm (tgF g i) (cN g * rN g) := by unfold cdM; rw [if_pos hof]
      rw [ecd] at hlen
      refine ev_aload_0 dX10_lists_36 ?_
      refine ev_iload_3 dX10_lists_37 ?_
      refine cl_X10_69 (c_mMan hm hg hG (q := (i)) (by omega)) hm.1 dX10_lists_38 rfl (Nat.le_of_ble_eq_true rfl) ?_
      refine ev_bipush_6 dX10_lists_41 ?_
      refine ev_irem dX10_lists_43 (show ¬ (6 : Int32) = 0 by decide) ?_
      rw [m1_rem m1 m12]
      refine ev_istore_4 dX10_lists_44 rfl rfl ?_
      refine ev_aload_0 dX10_lists_46 ?_
      refine ev_iload_4 dX10_lists_47 ?_
      refine ev_iload_3 dX10_lists_49 ?_
      refine ev_iload_2 dX10_lists_50 ?_
      refine ev_iconst_0 dX10_lists_51 ?_
      refine cg_X10_183 (c_mAll0 hm hG hW htu hlt (t := (tyN (mN g i))) hty hg) hm.1 dX10_lists_52 rfl (Nat.le_of_ble_eq_true rfl) (fun r1 σ1 h152 => ?_)
      obtain ⟨e1, f152⟩ := h152
      subst e1
      have hl := hl.E f152
      have znow_52 := (f152.1 62 (by decide) (by decide) (by decide)).trans hg
      rw [show setL (goG g (tyN (mN g i)) i (tuN g) (emA g false) (otA g (tuN g) false)) = setL (tgtG g i) from by
        refine setL_cong (fun z _ => ?_)
        unfold tgtG
        rw [m2]; rfl]
      refine ev_lstore_5 dX10_lists_55 rfl rfl ?_
      refine ev_iconst_0 dX10_lists_57 ?_
      refine ev_istore_7 dX10_lists_58 rfl rfl ?_
      refine c_ls_60 (σ := σ) (L0 := (ftm (cdM g) i).filter (okG g)) hm hG hW hd hlt hof (by omega) (fun σ3 g3 f3 l3 => ?_) _ 0 rfl (Nat.zero_le _) _ znow_52 (hfr.tr (frA.E f152)) (by rw [ftm, List.filter_nil, List.append_nil]; exact hl)
      refine ev_iinc_3 (v := 1) dX10_lists_96 (by decide) rfl rfl ?_
      rw [show nI i + 1 = nI (i + 1) from nI_add i 1]
      refine ev_goto (tgt := 16) dX10_lists_99 (by decide) ?_
      exact ih (i + 1) (by omega) (by omega) _ g3 f3 (by rw [ftm, ecd, List.filter_append]; exact l3)
    · refine ev_goto (tgt := 96) dX10_lists_33 (by decide) ?_
      refine ev_iinc_3 (v := 1) dX10_lists_96 (by decide) rfl rfl ?_
      rw [show nI i + 1 = nI (i + 1) from nI_add (i) 1]
      refine ev_goto (tgt := 16) dX10_lists_99 (by decide) ?_
      exact ih (i + 1) (by omega) (by omega) _ hg hfr (by
        rw [ftm, show cdM g i = [] from by unfold cdM; rw [if_neg (by rw [(b2i_0 _).mp h30]; decide)], List.append_nil]; exact hl)
set_option maxRecDepth 100000 in
set_option maxHeartbeats 4000000 in
theorem c_ls_104 {ae ad : Nat → Nat} {sh : mSh} {σ : mSt} (hm : mModel ad sh) {g : Nat → Int32} (hG : wfP g) (hW : wfL g) {d : Nat} (hd : d ≤ 1)  {Post : mPost} (K : ∀ σ' : mSt, σ'.1 62 = g → frA d σ σ' → mliR σ' d g ((ftm (cdM g) (cN g * rN g) ++ ftm (cdC g) 4).filter (okG g)) → Ev RX10 cX10_lists 8 false none (mRm 8 0 0) ae Post 152 [some (.ref (ad 61)), some (.int (nI d)), some (.int (nI (tuN g))), none, none, none, none, none] [] 0 0 ad sh σ') : ∀ (n i : Nat), 4 - i = n → i ≤ 4 → ∀ σ2 : mSt, σ2.1 62 = g → frA d σ σ2 → mliR σ2 d g ((ftm (cdM g) (cN g * rN g) ++ ftm (cdC g) i).filter (okG g)) → Ev RX10 cX10_lists 8 false none (mRm 8 0 0) ae Post 104 [some (.ref (ad 61)), some (.int (nI d)), some (.int (nI (tuN g))), some (.int (nI i)), none, none, none, none] [] 0 0 ad sh σ2 := by
  have h36 := sq36 hG
  have htu := tu_le hG
  have hcl := cand_len hG
  intro n
  induction n with
  | zero =>
    intro i hn hi σ2 hg hfr hl
    have e : i = 4 := by omega
    subst e
    refine ev_iload_3 dX10_lists_104 ?_
    refine ev_iconst_4 dX10_lists_105 ?_
    refine ev_icmp_ge (tgt := 152) dX10_lists_106 (by decide) (fun h106 => ?_) (fun h106 => absurd (Int32.le_refl _) h106)
    refine ev_drop_3 ?_
    exact K _ hg hfr hl
  | succ n ih =>
    intro i hn hi σ2 hg hfr hl
    have hlt : i < 4 := by omega
    refine ev_iload_3 dX10_lists_104 ?_
    refine ev_iconst_4 dX10_lists_105 ?_
    refine ev_icmp_ge (tgt := 152) dX10_lists_106 (by decide) (fun h106 => absurd h106 (nI_ge (b := 4) hlt (by decide))) (fun h106 => ?_)
    refine ev_aload_0 dX10_lists_109 ?_
    refine ev_iload_3 dX10_lists_110 ?_
    refine cg_X10_233 (c_mCan hm hG hW (k := (i)) hlt hg) hm.1 dX10_lists_111 rfl (Nat.le_of_ble_eq_true rfl) (fun r1 σ1 h1111 => ?_)
    obtain ⟨e1, f1111⟩ := h1111
    subst e1
    have hl := hl.E f1111
    have znow_111 := (f1111.1 62 (by decide) (by decide) (by decide)).trans hg
    refine ev_if_eq (tgt := 146) dX10_lists_114 (by decide) (fun h114 => ?_) (fun h114 => ?_)
    · refine ev_iinc_3 (v := 1) dX10_lists_146 (by decide) rfl rfl ?_
      rw [show nI i + 1 = nI (i + 1) from nI_add (i) 1]
      refine ev_goto (tgt := 104) dX10_lists_149 (by decide) ?_
      exact ih (i + 1) (by omega) (by omega) _ znow_111 (hfr.tr (frA.E f1111)) (by
        rw [ftm, show cdC g i = [] from by unfold cdC; rw [if_neg (by rw [(b2i_0 _).mp h114]; decide)], List.append_nil]; exact hl)
    · have hcb : castB g i = true := b2i_t h114
      have hlen := ftm_lt (cdC g) hlt
      have e1 : (cdC g i).length = 1 := by unfold cdC; rw [if_pos hcb]; rfl
      have hfl := fltG_le g (ftm (cdM g) (cN g * rN g) ++ ftm (cdC g) i)
      rw [List.length_append] at hfl
      refine ev_aload_0 dX10_lists_117 ?_
      refine ev_iload_1 dX10_lists_118 ?_
      refine ev_iconst_1 dX10_lists_119 ?_
      refine ev_aload_0 dX10_lists_120 ?_
      refine gf_X10_11 dX10_lists_121 hm.1 rfl ?_
      refine ev_iload_3 dX10_lists_124 ?_
      refine cl_X10_72 (c_castleAt (t := (i))) dX10_lists_125 rfl (Nat.le_of_ble_eq_true rfl) ?_
      refine ev_iconst_2 dX10_lists_128 ?_
      refine ev_iadd dX10_lists_129 ?_
      rw [show nI (184 + 6 * i) + (2 : Int32) = nI (184 + 6 * i + 2) from nI_add (184 + 6 * i) (2)]
      refine ev_ldk (k := 184 + 6 * i + 2) hm.2.1 znow_111 rfl (by omega) (by decide) dX10_lists_130 ?_
      rw [((hW.2.2.2.2.2.2 i hlt).2.1 2 (by decide) (by decide)).1]
      refine ev_aload_0 dX10_lists_131 ?_
      refine gf_X10_11 dX10_lists_132 hm.1 rfl ?_
      refine ev_iload_3 dX10_lists_135 ?_
      refine cl_X10_72 (c_castleAt (t := (i))) dX10_lists_136 rfl (Nat.le_of_ble_eq_true rfl) ?_
      refine ev_iconst_3 dX10_lists_139 ?_
      refine ev_iadd dX10_lists_140 ?_
      rw [show nI (184 + 6 * i) + (3 : Int32) = nI (184 + 6 * i + 3) from nI_add (184 + 6 * i) (3)]
      refine ev_ldk (k := 184 + 6 * i + 3) hm.2.1 znow_111 rfl (by omega) (by decide) dX10_lists_141 ?_
      rw [((hW.2.2.2.2.2.2 i hlt).2.1 3 (by decide) (by decide)).1]
      refine ev_iload_3 dX10_lists_142 ?_
      refine cg_X10_229 (c_mAddC hm znow_111 hG hW hd hlt (mvC hG hW hlt hcb) hl (by omega)) hm.1 dX10_lists_143 rfl (Nat.le_of_ble_eq_true rfl) (fun σ1 h1143 => ?_)
      obtain ⟨l1143, f1143⟩ := h1143
      have g1143 := f1143.now znow_111
      refine ev_iinc_3 (v := 1) dX10_lists_146 (by decide) rfl rfl ?_
      rw [show nI i + 1 = nI (i + 1) from nI_add (i) 1]
      refine ev_goto (tgt := 104) dX10_lists_149 (by decide) ?_
      exact ih (i + 1) (by omega) (by omega) _ g1143 ((hfr.tr (frA.E f1111)).tr f1143) (by
        rw [ftm, ← List.append_assoc, List.filter_append (l₂ := cdC g i), show cdC g i = [1 * 4096 + i * 64 + 0] from by unfold cdC; rw [if_pos hcb], flt_one]; exact l1143)
theorem bn_f2 {b : Bool} (h : ¬ b2i (!b) = 0) : b = false := bn_f h
theorem bn_t2 {b : Bool} (h : b2i (!b) = 0) : b = true := bn_t h
set_option maxRecDepth 100000 in
set_option maxHeartbeats 4000000 in
theorem c_ls_194 {ae ad : Nat → Nat} {sh : mSh} {σ : mSt} (hm : mModel ad sh) {g : Nat → Int32} (hG : wfP g) (hW : wfL g) {d : Nat} (hd : d ≤ 1) {L0 : List Nat} {t : Nat} (ht : t < 6) (hdc : clN g 55 = 1 ∧ 1 ≤ hN g (6 * tuN g + t)) (h445 : L0.length + (ftm (drF g t) (cN g * rN g)).length ≤ 445) {Post : mPost} (K : ∀ σ' : mSt, σ'.1 62 = g → frA d σ σ' → mliR σ' d g (L0 ++ (ftm (drF g t) (cN g * rN g)).filter (okG g)) → Ev RX10 cX10_lists 8 false none (mRm 8 0 0) ae Post 247 [some (.ref (ad 61)), some (.int (nI d)), some (.int (nI (tuN g))), some (.int (nI t)), none, none, none, none] [] 0 0 ad sh σ') : ∀ (n i : Nat), cN g * rN g - i = n → i ≤ cN g * rN g → ∀ σ2 : mSt, σ2.1 62 = g → frA d σ σ2 → mliR σ2 d g (L0 ++ (ftm (drF g t) i).filter (okG g)) → Ev RX10 cX10_lists 8 false none (mRm 8 0 0) ae Post 194 [some (.ref (ad 61)), some (.int (nI d)), some (.int (nI (tuN g))), some (.int (nI t)), some (.int (nI i)), none, none, none] [] 0 0 ad sh σ2 := by
  have h36 := sq36 hG
  have htu := tu_le hG
  have hcl := cand_len hG
  have hp6 := (hW.2.2.2.1 t ht).2
  intro n
  induction n with
  | zero =>
    intro i hn hi σ2 hg hfr hl
    have e : i = cN g * rN g := by omega
    subst e
    refine ev_iload_4 dX10_lists_194 ?_
    refine ev_aload_0 dX10_lists_196 ?_
    refine cl_X10_65 (c_mSquares hm hg hG) hm.1 dX10_lists_197 rfl (Nat.le_of_ble_eq_true rfl) ?_
    refine ev_icmp_ge (tgt := 247) dX10_lists_200 (by decide) (fun h200 => ?_) (fun h200 => absurd (Int32.le_refl _) h200)
    refine ev_drop_4 ?_
    exact K _ hg hfr hl
  | succ n ih =>
    intro i hn hi σ2 hg hfr hl
    have hlt : i < cN g * rN g := by omega
    refine ev_iload_4 dX10_lists_194 ?_
    refine ev_aload_0 dX10_lists_196 ?_
    refine cl_X10_65 (c_mSquares hm hg hG) hm.1 dX10_lists_197 rfl (Nat.le_of_ble_eq_true rfl) ?_
    refine ev_icmp_ge (tgt := 247) dX10_lists_200 (by decide) (fun h200 => absurd h200 (nI_ge hlt (by omega))) (fun h200 => ?_)
    refine ev_aload_0 dX10_lists_203 ?_
    refine ev_iload_4 dX10_lists_204 ?_
    refine cl_X10_172 (c_mEmpty hm hg hG (q := (i)) (by omega)) hm.1 dX10_lists_206 rfl (Nat.le_of_ble_eq_true rfl) ?_
    refine ev_if_eq (tgt := 241) dX10_lists_209 (by decide) (fun h209 => ?_) (fun h209 => ?_)
    · refine ev_iinc_4 (v := 1) dX10_lists_241 (by decide) rfl rfl ?_
      rw [show nI i + 1 = nI (i + 1) from nI_add (i) 1]
      refine ev_goto (tgt := 194) dX10_lists_244 (by decide) ?_
      have hdr : drOk g t i = false := by
        unfold drOk
        first
        | (simp [bn_t2 h209]; done)
        | (rw [b2i_t h227, decide_eq_true (show 1 ≤ proN g t from Nat.pos_of_ne_zero (fun z => h217 ((pm1 hp6).mpr z)))]; simp)
      exact ih (i + 1) (by omega) (by omega) _ hg hfr (by
        rw [ftm, show drF g t i = [] from by unfold drF; rw [if_neg (by rw [hdr]; decide)], List.append_nil]; exact hl)
    · refine ev_aload_0 dX10_lists_212 ?_
      refine ev_iload_3 dX10_lists_213 ?_
      refine cl_X10_193 (c_mPromo hm hg hG hW ht) hm.1 dX10_lists_214 rfl (Nat.le_of_ble_eq_true rfl) ?_
      refine ev_if_lt (tgt := 230) dX10_lists_217 (by decide) (fun h217 => ?_) (fun h217 => ?_)
      · have hdr : drOk g t i = true := by
          unfold drOk
          rw [bn_f2 h209]
          first
          | (have hp0 : proN g t = 0 := (pm1 hp6).mp h217
             simp [hp0]; done)
          | (simp [(b2i_0 _).mp h227]; done)
        have hlen := ftm_lt (drF g t) hlt
        have e1 : (drF g t i).length = 1 := by unfold drF; rw [if_pos hdr]; rfl
        have hfl := fltG_le g (ftm (drF g t) i)
        refine ev_aload_0 dX10_lists_230 ?_
        refine ev_iload_1 dX10_lists_231 ?_
        refine ev_iconst_2 dX10_lists_232 ?_
        refine ev_bipush_m5 dX10_lists_233 ?_
        refine ev_iload_4 dX10_lists_235 ?_
        refine ev_iload_3 dX10_lists_237 ?_
        refine cg_X10_229 (c_mAddD hm hg hG hW hd ht (by omega) (mvD hG hW ht hlt hdc hdr) hl (by rw [List.length_append]; omega)) hm.1 dX10_lists_238 rfl (Nat.le_of_ble_eq_true rfl) (fun σ1 h1238 => ?_)
        obtain ⟨l1238, f1238⟩ := h1238
        have g1238 := f1238.now hg
        refine ev_iinc_4 (v := 1) dX10_lists_241 (by decide) rfl rfl ?_
        rw [show nI i + 1 = nI (i + 1) from nI_add (i) 1]
        refine ev_goto (tgt := 194) dX10_lists_244 (by decide) ?_
        exact ih (i + 1) (by omega) (by omega) _ g1238 (hfr.tr f1238) (by
          rw [ftm, List.filter_append, show drF g t i = [2 * 4096 + t * 64 + i] from by unfold drF; rw [if_pos hdr], flt_one, ← List.append_assoc]; exact l1238)
      · refine ev_aload_0 dX10_lists_220 ?_
        refine ev_iload_4 dX10_lists_221 ?_
        refine ev_iload_2 dX10_lists_223 ?_
        refine cl_X10_196 (c_mFar hm hg hG (q := (i)) (by omega) htu) hm.1 dX10_lists_224 rfl (Nat.le_of_ble_eq_true rfl) ?_
        refine ev_if_ne (tgt := 241) dX10_lists_227 (by decide) (fun h227 => ?_) (fun h227 => ?_)
        · refine ev_iinc_4 (v := 1) dX10_lists_241 (by decide) rfl rfl ?_
          rw [show nI i + 1 = nI (i + 1) from nI_add (i) 1]
          refine ev_goto (tgt := 194) dX10_lists_244 (by decide) ?_
          have hdr : drOk g t i = false := by
            unfold drOk
            first
            | (simp [bn_t2 h209]; done)
            | (rw [b2i_t h227, decide_eq_true (show 1 ≤ proN g t from Nat.pos_of_ne_zero (fun z => h217 ((pm1 hp6).mpr z)))]; simp)
          exact ih (i + 1) (by omega) (by omega) _ hg hfr (by
            rw [ftm, show drF g t i = [] from by unfold drF; rw [if_neg (by rw [hdr]; decide)], List.append_nil]; exact hl)
        · have hdr : drOk g t i = true := by
            unfold drOk
            rw [bn_f2 h209]
            first
            | (have hp0 : proN g t = 0 := (pm1 hp6).mp h217
               simp [hp0]; done)
            | (simp [(b2i_0 _).mp h227]; done)
          have hlen := ftm_lt (drF g t) hlt
          have e1 : (drF g t i).length = 1 := by unfold drF; rw [if_pos hdr]; rfl
          have hfl := fltG_le g (ftm (drF g t) i)
          refine ev_aload_0 dX10_lists_230 ?_
          refine ev_iload_1 dX10_lists_231 ?_
          refine ev_iconst_2 dX10_lists_232 ?_
          refine ev_bipush_m5 dX10_lists_233 ?_
          refine ev_iload_4 dX10_lists_235 ?_
          refine ev_iload_3 dX10_lists_237 ?_
          refine cg_X10_229 (c_mAddD hm hg hG hW hd ht (by omega) (mvD hG hW ht hlt hdc hdr) hl (by rw [List.length_append]; omega)) hm.1 dX10_lists_238 rfl (Nat.le_of_ble_eq_true rfl) (fun σ1 h1238 => ?_)
          obtain ⟨l1238, f1238⟩ := h1238
          have g1238 := f1238.now hg
          refine ev_iinc_4 (v := 1) dX10_lists_241 (by decide) rfl rfl ?_
          rw [show nI i + 1 = nI (i + 1) from nI_add (i) 1]
          refine ev_goto (tgt := 194) dX10_lists_244 (by decide) ?_
          exact ih (i + 1) (by omega) (by omega) _ g1238 (hfr.tr f1238) (by
            rw [ftm, List.filter_append, show drF g t i = [2 * 4096 + t * 64 + i] from by unfold drF; rw [if_pos hdr], flt_one, ← List.append_assoc]; exact l1238)
set_option maxRecDepth 100000 in
set_option maxHeartbeats 4000000 in
theorem c_ls_165 {ae ad : Nat → Nat} {sh : mSh} {σ : mSt} (hm : mModel ad sh) {g : Nat → Int32} (hG : wfP g) (hW : wfL g) {d : Nat} (hd : d ≤ 1) (h55 : clN g 55 = 1) {Post : mPost} (K : ∀ σ' : mSt, σ'.1 62 = g → frA d σ σ' → mliR σ' d g ((ftm (cdM g) (cN g * rN g) ++ ftm (cdC g) 4 ++ ftm (cdD g) 6).filter (okG g)) → Ev RX10 cX10_lists 8 false none (mRm 8 0 0) ae Post 253 [some (.ref (ad 61)), some (.int (nI d)), some (.int (nI (tuN g))), none, none, none, none, none] [] 0 0 ad sh σ') : ∀ (n i : Nat), 6 - i = n → i ≤ 6 → ∀ σ2 : mSt, σ2.1 62 = g → frA d σ σ2 → mliR σ2 d g ((ftm (cdM g) (cN g * rN g) ++ ftm (cdC g) 4 ++ ftm (cdD g) i).filter (okG g)) → Ev RX10 cX10_lists 8 false none (mRm 8 0 0) ae Post 165 [some (.ref (ad 61)), some (.int (nI d)), some (.int (nI (tuN g))), some (.int (nI i)), none, none, none, none] [] 0 0 ad sh σ2 := by
  have h36 := sq36 hG
  have htu := tu_le hG
  have hcl := cand_len hG
  intro n
  induction n with
  | zero =>
    intro i hn hi σ2 hg hfr hl
    have e : i = 6 := by omega
    subst e
    refine ev_iload_3 dX10_lists_165 ?_
    refine ev_bipush_6 dX10_lists_166 ?_
    refine ev_icmp_ge (tgt := 253) dX10_lists_168 (by decide) (fun h168 => ?_) (fun h168 => absurd (Int32.le_refl _) h168)
    refine ev_drop_3 ?_
    exact K _ hg hfr hl
  | succ n ih =>
    intro i hn hi σ2 hg hfr hl
    have hlt : i < 6 := by omega
    refine ev_iload_3 dX10_lists_165 ?_
    refine ev_bipush_6 dX10_lists_166 ?_
    refine ev_icmp_ge (tgt := 253) dX10_lists_168 (by decide) (fun h168 => absurd h168 (nI_ge (b := 6) hlt (by decide))) (fun h168 => ?_)
    refine ev_aload_0 dX10_lists_171 ?_
    refine gf_X10_11 dX10_lists_172 hm.1 rfl ?_
    refine ev_bipush_37 dX10_lists_175 ?_
    refine ev_bipush_6 dX10_lists_177 ?_
    refine ev_iload_2 dX10_lists_179 ?_
    refine ev_imul dX10_lists_180 ?_
    rw [show (6 : Int32) * nI (tuN g) = nI (6 * (tuN g)) from nI_mul (6) (tuN g)]
    refine ev_iadd dX10_lists_181 ?_
    rw [show (37 : Int32) + nI (6 * (tuN g)) = nI (37 + (6 * (tuN g))) from nI_add (37) (6 * (tuN g))]
    refine ev_iload_3 dX10_lists_182 ?_
    refine ev_iadd dX10_lists_183 ?_
    rw [show nI (37 + (6 * (tuN g))) + nI i = nI (37 + (6 * (tuN g)) + i) from nI_add (37 + (6 * (tuN g))) (i)]
    refine ev_ldk (k := 37 + (6 * (tuN g)) + i) hm.2.1 hg rfl (by omega) (by decide) dX10_lists_184 ?_
    rw [show g (37 + 6 * tuN g + i) = nI (hN g (6 * tuN g + i)) from by rw [Nat.add_assoc]; exact (hG.2.2.2.1 _ (by omega)).1]
    refine ev_if_ne (tgt := 191) dX10_lists_185 (by decide) (fun h185 => ?_) (fun h185 => ?_)
    · have hdc : clN g 55 = 1 ∧ 1 ≤ hN g (6 * tuN g + i) := ⟨h55, Nat.pos_of_ne_zero (fun z => h185 (by rw [z]; rfl))⟩
      have hlen := ftm_lt (cdD g) hlt
      have hfl := fltG_le g (ftm (cdM g) (cN g * rN g) ++ ftm (cdC g) 4 ++ ftm (cdD g) i)
      rw [List.length_append, List.length_append] at hfl
      have ecd : cdD g i = ftm (drF g i) (cN g * rN g) := by unfold cdD; rw [if_pos hdc]
      rw [ecd] at hlen
      refine ev_iconst_0 dX10_lists_191 ?_
      refine ev_istore_4 dX10_lists_192 rfl rfl ?_
      refine c_ls_194 (σ := σ) (L0 := (ftm (cdM g) (cN g * rN g) ++ ftm (cdC g) 4 ++ ftm (cdD g) i).filter (okG g)) hm hG hW hd hlt hdc (by omega) (fun σ3 g3 f3 l3 => ?_) _ 0 rfl (Nat.zero_le _) _ hg hfr (by rw [ftm, List.filter_nil, List.append_nil]; exact hl)
      refine ev_iinc_3 (v := 1) dX10_lists_247 (by decide) rfl rfl ?_
      rw [show nI i + 1 = nI (i + 1) from nI_add i 1]
      refine ev_goto (tgt := 165) dX10_lists_250 (by decide) ?_
      exact ih (i + 1) (by omega) (by omega) _ g3 f3 (by rw [show ftm (cdD g) (i + 1) = ftm (cdD g) i ++ cdD g i from rfl, ecd, ← List.append_assoc, List.filter_append (l₂ := ftm (drF g i) (cN g * rN g))]; exact l3)
    · refine ev_goto (tgt := 247) dX10_lists_188 (by decide) ?_
      refine ev_iinc_3 (v := 1) dX10_lists_247 (by decide) rfl rfl ?_
      rw [show nI i + 1 = nI (i + 1) from nI_add (i) 1]
      refine ev_goto (tgt := 165) dX10_lists_250 (by decide) ?_
      have h0 : ¬ (clN g 55 = 1 ∧ 1 ≤ hN g (6 * tuN g + i)) := fun z => by
        have := (nI_eq (b := 0) (by have := (hG.2.2.2.1 (6 * tuN g + i) (by omega)).2; omega) (by decide)).mp h185
        omega
      exact ih (i + 1) (by omega) (by omega) _ hg hfr (by
        rw [show ftm (cdD g) (i + 1) = ftm (cdD g) i ++ cdD g i from rfl, show cdD g i = [] from by unfold cdD; rw [if_neg h0], List.append_nil]; exact hl)
set_option maxRecDepth 100000 in
set_option maxHeartbeats 4000000 in
theorem c_ls_152 {ae ad : Nat → Nat} {sh : mSh} {σ σ2 : mSt} (hm : mModel ad sh) {g : Nat → Int32} (hG : wfP g) (hW : wfL g) {d : Nat} (hd : d ≤ 1) (hg : σ2.1 62 = g) (hfr : frA d σ σ2) (hl : mliR σ2 d g ((ftm (cdM g) (cN g * rN g) ++ ftm (cdC g) 4).filter (okG g))) : Ev RX10 cX10_lists 8 false none (mRm 8 0 0) ae (mPv ad sh (fun σ' => mliR σ' d g (legalG g) ∧ frA d σ σ')) 152 [some (.ref (ad 61)), some (.int (nI d)), some (.int (nI (tuN g))), none, none, none, none, none] [] 0 0 ad sh σ2 := by
  have h551 := hW.1.2
  refine ev_aload_0 dX10_lists_152 ?_
  refine gf_X10_11 dX10_lists_153 hm.1 rfl ?_
  refine ev_bipush_55 dX10_lists_156 ?_
  refine ev_ldk (k := 55) hm.2.1 hg rfl (by omega) (by decide) dX10_lists_158 ?_
  rw [hW.1.1]
  refine ev_if_ne (tgt := 163) dX10_lists_159 (by decide) (fun h159 => ?_) (fun h159 => ?_)
  · refine ev_iconst_0 dX10_lists_163 ?_
    refine ev_istore_3 dX10_lists_164 rfl rfl ?_
    have h1 : clN g 55 = 1 := by
      rcases (show clN g 55 = 0 ∨ clN g 55 = 1 by omega) with z | z
      · exact absurd (by rw [z]; rfl) h159
      · exact z
    exact c_ls_165 hm hG hW hd h1 (fun σ3 g3 f3 l3 => ev_pv dX10_lists_253 ⟨l3, f3⟩) _ 0 rfl (Nat.zero_le _) _ hg hfr (by rw [ftm, List.append_nil]; exact hl)
  · have h0 : ¬ clN g 55 = 1 := fun z => by rw [z] at h159; exact absurd h159 (by decide)
    exact ev_pv dX10_lists_162 ⟨by unfold legalG candG; rw [cdD_no h0 6, List.append_nil]; exact hl, hfr⟩
set_option maxRecDepth 100000 in
set_option maxHeartbeats 4000000 in
theorem c_ls_102 {ae ad : Nat → Nat} {sh : mSh} {σ σ2 : mSt} (hm : mModel ad sh) {g : Nat → Int32} (hG : wfP g) (hW : wfL g) {d : Nat} (hd : d ≤ 1) (hg : σ2.1 62 = g) (hfr : frA d σ σ2) (hl : mliR σ2 d g ((ftm (cdM g) (cN g * rN g)).filter (okG g))) : Ev RX10 cX10_lists 8 false none (mRm 8 0 0) ae (mPv ad sh (fun σ' => mliR σ' d g (legalG g) ∧ frA d σ σ')) 102 [some (.ref (ad 61)), some (.int (nI d)), some (.int (nI (tuN g))), none, none, none, none, none] [] 0 0 ad sh σ2 := by
  refine ev_iconst_0 dX10_lists_102 ?_
  refine ev_istore_3 dX10_lists_103 rfl rfl ?_
  exact c_ls_104 hm hG hW hd (fun σ3 g3 f3 l3 => c_ls_152 hm hG hW hd g3 f3 l3) _ 0 rfl (Nat.zero_le _) _ hg hfr (by rw [ftm, List.append_nil]; exact hl)
set_option maxRecDepth 100000 in
set_option maxHeartbeats 4000000 in
theorem c_mLists {ae ad : Nat → Nat} {sh : mSh} {σ : mSt} (hm : mModel ad sh) {g : Nat → Int32} (hG : wfP g) (hW : wfL g) {d : Nat} (hd : d ≤ 1) (hg : σ.1 62 = g) : Ct yX10_lists cX10_lists 8 none 8 0 0 [.ref (ad 61), .int (nI d)] ae ad sh σ (mPv ad sh (fun σ' => mliR σ' d g (legalG g) ∧ frA d σ σ')) := by
  refine Ct.ofL (own := RX10) (ini := false) (ls := [some (.ref (ad 61)), some (.int (nI d)), none, none, none, none, none, none]) (by decide +kernel) rfl (fun h => by cases h) (Nat.le_of_ble_eq_true rfl) rfl ?_
  refine ev_aload_0 dX10_lists_0 ?_
  refine gf_X10_36 dX10_lists_1 hm.1 rfl ?_
  refine ev_iload_1 dX10_lists_4 ?_
  refine ev_iconst_0 dX10_lists_5 ?_
  refine ev_stk (k := d) hm.2.2.2.2.2.2.2.2.2.1 rfl rfl (by omega) (by decide) dX10_lists_6 (fun σ6 hw6 hf6 hl6 => ?_)
  have znow_6 := (hf6 62 (by decide)).trans hg
  refine ev_aload_0 dX10_lists_7 ?_
  refine gf_X10_11 dX10_lists_8 hm.1 rfl ?_
  refine ev_iconst_0 dX10_lists_11 ?_
  refine ev_ldk (k := 0) hm.2.1 znow_6 rfl (by omega) (by decide) dX10_lists_12 ?_
  rw [hG.2.2.2.2.2.1]
  refine ev_istore_2 dX10_lists_13 rfl rfl ?_
  refine ev_iconst_0 dX10_lists_14 ?_
  refine ev_istore_3 dX10_lists_15 rfl rfl ?_
  have hf1 : frA d σ σ6 := ⟨fun j _ b _ _ => hf6 j (by omega), fun k _ => by rw [hf6 61 (by decide)], fun q a b k _ => by rw [hf6 q (by omega)], fun k hk => by rw [hw6, upd_ne hk], fun k _ => by rw [hf6 71 (by decide)], hl6⟩
  exact c_ls_16 hm hG hW hd (fun σ3 g3 f3 l3 => c_ls_102 hm hG hW hd g3 f3 l3) _ 0 rfl (Nat.zero_le _) _ znow_6 hf1 ⟨by rw [hw6, upd_at]; rfl, by rw [ftm, List.filter_nil]; exact Nat.zero_le _, fun i m h => by rw [ftm, List.filter_nil] at h; simp at h⟩
