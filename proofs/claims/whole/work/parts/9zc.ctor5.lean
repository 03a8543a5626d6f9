set_option maxRecDepth 100000 in
set_option maxHeartbeats 4000000 in
theorem c_X9_init {ae ad : Nat → Nat} : Ct yX9_init cX9_init 1 none 3 60 2413 [.ref (ad 0)] ae ad ([] ++ [.inr (9, [.null, .null, .null, .null, .null, .null, .null, .null, .null, .null, .null, .int 0])]) (fun _ _ => 0, fun _ _ => 0) (mCt 0 ad [] vbS vbσ2) := by
  refine Ct.ofL (own := RX9) (ini := true) (ls := [some (.ref (ad 0))]) (by decide +kernel) rfl (fun _ => rfl) (Nat.le_of_ble_eq_true rfl) rfl ?_
  refine ev_aload_0 dX9_init_0 ?_
  refine ev_objInit ow_X9_5 oi_in oi_co (Nat.le_of_ble_eq_true rfl) (Nat.le_of_ble_eq_true rfl) (Nat.le_of_ble_eq_true rfl) dX9_init_1 ?_
  refine Ev.sh (sh' := vb0 ad) rfl ?_
  refine vb_at0 (fun ad1 h1 => ?_)
  refine vb_at1 (fun ad2 h2 => ?_)
  refine vb_at2 (fun ad3 h3 => ?_)
  refine vb_at3 (fun ad4 h4 => ?_)
  refine vb_at4 (fun ad5 h5 => ?_)
  refine vb_at5 (fun ad6 h6 => ?_)
  refine vb_at6 (fun ad7 h7 => ?_)
  refine vb_at7 (fun ad8 h8 => ?_)
  refine vb_at8 (fun ad9 h9 => ?_)
  refine vb_at9 (fun ad10 h10 => ?_)
  refine vb_at10 (fun ad11 h11 => ?_)
  refine Ev.sh (sh' := vbS ad11) rfl ?_
  refine ev_aload_0 dX9_init_133 ?_
  refine kl_X9_84 (σ := vbσ) (c_begin (g := g0) vbS_ok g0_P vb_pos.1) vbS_ok.1 dX9_init_134 rfl (Nat.le_of_ble_eq_true rfl) (Nat.le_of_ble_eq_true rfl) (Nat.le_of_ble_eq_true rfl) ?_
  exact ev_ret (v := none) dX9_init_137 (Nat.le_of_ble_eq_true rfl) (Nat.le_of_ble_eq_true rfl) (Or.inl ⟨rfl, rfl, rfl⟩) ⟨rfl, fun j hj => by rw [h11 j (by omega), h10 j (by omega), h9 j (by omega), h8 j (by omega), h7 j (by omega), h6 j (by omega), h5 j (by omega), h4 j (by omega), h3 j (by omega), h2 j (by omega), h1 j (by omega)], rfl, rfl⟩
/-- the cells of a new reference -/
def mdS (ad : Nat → Nat) : mSh := [.inr (10, [.ref (ad 62), .ref (ad 63), .int 0, .ref (ad 64), .int 0, .int 0, .ref (ad 65), .ref (ad 66), .ref (ad 67), .ref (ad 68), .ref (ad 69), .ref (ad 70), .ref (ad 71), .int 0, .ref (ad 72), .ref (ad 73), .ref (ad 74), .int 0, .ref (ad 75)]), .inl 2369, .inl 2369, .inl 60, .inl 19, .inl 3200, .inl 3200, .inl 3200, .inl 3200, .inl 2, .inl 106, .inl 3, .inl 16, .inl 16, .inl 60]
theorem mdS_ok {ad : Nat → Nat} {S : mSh} (hS : S.length = 61) : mModel ad (S ++ mdS ad) := by
  unfold mModel
  exact ⟨(ap_at (i := 0) hS).trans rfl, (ap_at (i := 1) hS).trans rfl, (ap_at (i := 2) hS).trans rfl, (ap_at (i := 3) hS).trans rfl, (ap_at (i := 4) hS).trans rfl, (ap_at (i := 5) hS).trans rfl, (ap_at (i := 6) hS).trans rfl, (ap_at (i := 7) hS).trans rfl, (ap_at (i := 8) hS).trans rfl, (ap_at (i := 9) hS).trans rfl, (ap_at (i := 10) hS).trans rfl, (ap_at (i := 11) hS).trans rfl, (ap_at (i := 12) hS).trans rfl, (ap_at (i := 13) hS).trans rfl, (ap_at (i := 14) hS).trans rfl⟩
def md_tot : Nat := 17820
set_option maxRecDepth 100000 in
set_option maxHeartbeats 4000000 in
theorem md_at0 {ae ad : Nat → Nat} {σ : mSt} {S : mSh} {Post : mPost} (hS : S.length = 61) (hz : mZ σ 61) (K : ∀ ad' : Nat → Nat, (∀ j, j < 62 → ad' j = ad j) → Ev RX10 cX10_init 2 true none (mRm 3 14 17820) ae Post 38 [some (.ref (ad' 61)), none] [] 4 4817 ad' (S ++ [.inr (10, [.ref (ad' 62), .ref (ad' 63), .int 0, .ref (ad' 64), .int 0, .int 0, .ref (ad' 65), .null, .null, .null, .null, .null, .null, .int 0, .null, .null, .null, .int 0, .null]), .inl 2369, .inl 2369, .inl 60, .inl 19]) σ) : Ev RX10 cX10_init 2 true none (mRm 3 14 17820) ae Post 4 [some (.ref (ad 61)), none] [] 0 0 ad (S ++ [.inr (10, [.null, .null, .int 0, .null, .int 0, .int 0, .null, .null, .null, .null, .null, .null, .null, .int 0, .null, .null, .null, .int 0, .null])]) σ := by
  refine ev_aload_0 dX10_init_4 ?_
  refine ev_sipush_2369 dX10_init_5 ?_
  refine cn_newa (T := 62) (N := 2369) (by rw [List.length_append, hS]; rfl) (mZ_le hz (by omega)) (by decide) rfl (Nat.le_of_ble_eq_true rfl) (Nat.le_of_ble_eq_true rfl) (Nat.le_of_ble_eq_true rfl) dX10_init_8 (fun ad1 ha1 => ?_)
  rw [← ha1 61 (by omega)]
  refine pr_X10_11 (N := 61) hS dX10_init_10 rfl (Nat.le_of_ble_eq_true rfl) ?_
  refine ev_aload_0 dX10_init_13 ?_
  refine ev_sipush_2369 dX10_init_14 ?_
  refine cn_newa (T := 63) (N := 2369) (by rw [List.length_append, hS]; rfl) (mZ_le hz (by omega)) (by decide) rfl (Nat.le_of_ble_eq_true rfl) (Nat.le_of_ble_eq_true rfl) (Nat.le_of_ble_eq_true rfl) dX10_init_17 (fun ad2 ha2 => ?_)
  rw [← ha2 61 (by omega)]
  refine pr_X10_15 (N := 61) hS dX10_init_19 rfl (Nat.le_of_ble_eq_true rfl) ?_
  refine ev_aload_0 dX10_init_22 ?_
  refine ev_bipush_60 dX10_init_23 ?_
  refine cn_newa (T := 64) (N := 60) (by rw [List.length_append, hS]; rfl) (mZ_le hz (by omega)) (by decide) rfl (Nat.le_of_ble_eq_true rfl) (Nat.le_of_ble_eq_true rfl) (Nat.le_of_ble_eq_true rfl) dX10_init_25 (fun ad3 ha3 => ?_)
  rw [← ha3 61 (by omega)]
  refine pr_X10_18 (N := 61) hS dX10_init_27 rfl (Nat.le_of_ble_eq_true rfl) ?_
  refine ev_aload_0 dX10_init_30 ?_
  refine ev_bipush_19 dX10_init_31 ?_
  refine cn_newa (T := 65) (N := 19) (by rw [List.length_append, hS]; rfl) (mZ_le hz (by omega)) (by decide) rfl (Nat.le_of_ble_eq_true rfl) (Nat.le_of_ble_eq_true rfl) (Nat.le_of_ble_eq_true rfl) dX10_init_33 (fun ad4 ha4 => ?_)
  rw [← ha4 61 (by omega)]
  refine pr_X10_21 (N := 61) hS dX10_init_35 rfl (Nat.le_of_ble_eq_true rfl) ?_
  refine Ev.sh (sh' := S ++ [.inr (10, [.ref (ad4 62), .ref (ad4 63), .int 0, .ref (ad4 64), .int 0, .int 0, .ref (ad4 65), .null, .null, .null, .null, .null, .null, .int 0, .null, .null, .null, .int 0, .null]), .inl 2369, .inl 2369, .inl 60, .inl 19]) (by simp (disch := omega) only [ha1, ha2, ha3, ha4]; rfl) ?_
  exact K ad4 (fun j hj => by rw [ha4 j (by omega), ha3 j (by omega), ha2 j (by omega), ha1 j (by omega)])
set_option maxRecDepth 100000 in
set_option maxHeartbeats 4000000 in
theorem md_at1 {ae ad : Nat → Nat} {σ : mSt} {S : mSh} {Post : mPost} (hS : S.length = 61) (hz : mZ σ 61) (K : ∀ ad' : Nat → Nat, (∀ j, j < 66 → ad' j = ad j) → Ev RX10 cX10_init 2 true none (mRm 3 14 17820) ae Post 74 [some (.ref (ad' 61)), none] [] 8 17617 ad' (S ++ [.inr (10, [.ref (ad' 62), .ref (ad' 63), .int 0, .ref (ad' 64), .int 0, .int 0, .ref (ad' 65), .ref (ad' 66), .ref (ad' 67), .ref (ad' 68), .ref (ad' 69), .null, .null, .int 0, .null, .null, .null, .int 0, .null]), .inl 2369, .inl 2369, .inl 60, .inl 19, .inl 3200, .inl 3200, .inl 3200, .inl 3200]) σ) : Ev RX10 cX10_init 2 true none (mRm 3 14 17820) ae Post 38 [some (.ref (ad 61)), none] [] 4 4817 ad (S ++ [.inr (10, [.ref (ad 62), .ref (ad 63), .int 0, .ref (ad 64), .int 0, .int 0, .ref (ad 65), .null, .null, .null, .null, .null, .null, .int 0, .null, .null, .null, .int 0, .null]), .inl 2369, .inl 2369, .inl 60, .inl 19]) σ := by
  refine ev_aload_0 dX10_init_38 ?_
  refine ev_sipush_3200 dX10_init_39 ?_
  refine cn_newa (T := 66) (N := 3200) (by rw [List.length_append, hS]; rfl) (mZ_le hz (by omega)) (by decide) rfl (Nat.le_of_ble_eq_true rfl) (Nat.le_of_ble_eq_true rfl) (Nat.le_of_ble_eq_true rfl) dX10_init_42 (fun ad1 ha1 => ?_)
  rw [← ha1 61 (by omega)]
  refine pr_X10_24 (N := 61) hS dX10_init_44 rfl (Nat.le_of_ble_eq_true rfl) ?_
  refine ev_aload_0 dX10_init_47 ?_
  refine ev_sipush_3200 dX10_init_48 ?_
  refine cn_newa (T := 67) (N := 3200) (by rw [List.length_append, hS]; rfl) (mZ_le hz (by omega)) (by decide) rfl (Nat.le_of_ble_eq_true rfl) (Nat.le_of_ble_eq_true rfl) (Nat.le_of_ble_eq_true rfl) dX10_init_51 (fun ad2 ha2 => ?_)
  rw [← ha2 61 (by omega)]
  refine pr_X10_27 (N := 61) hS dX10_init_53 rfl (Nat.le_of_ble_eq_true rfl) ?_
  refine ev_aload_0 dX10_init_56 ?_
  refine ev_sipush_3200 dX10_init_57 ?_
  refine cn_newa (T := 68) (N := 3200) (by rw [List.length_append, hS]; rfl) (mZ_le hz (by omega)) (by decide) rfl (Nat.le_of_ble_eq_true rfl) (Nat.le_of_ble_eq_true rfl) (Nat.le_of_ble_eq_true rfl) dX10_init_60 (fun ad3 ha3 => ?_)
  rw [← ha3 61 (by omega)]
  refine pr_X10_30 (N := 61) hS dX10_init_62 rfl (Nat.le_of_ble_eq_true rfl) ?_
  refine ev_aload_0 dX10_init_65 ?_
  refine ev_sipush_3200 dX10_init_66 ?_
  refine cn_newa (T := 69) (N := 3200) (by rw [List.length_append, hS]; rfl) (mZ_le hz (by omega)) (by decide) rfl (Nat.le_of_ble_eq_true rfl) (Nat.le_of_ble_eq_true rfl) (Nat.le_of_ble_eq_true rfl) dX10_init_69 (fun ad4 ha4 => ?_)
  rw [← ha4 61 (by omega)]
  refine pr_X10_33 (N := 61) hS dX10_init_71 rfl (Nat.le_of_ble_eq_true rfl) ?_
  refine Ev.sh (sh' := S ++ [.inr (10, [.ref (ad4 62), .ref (ad4 63), .int 0, .ref (ad4 64), .int 0, .int 0, .ref (ad4 65), .ref (ad4 66), .ref (ad4 67), .ref (ad4 68), .ref (ad4 69), .null, .null, .int 0, .null, .null, .null, .int 0, .null]), .inl 2369, .inl 2369, .inl 60, .inl 19, .inl 3200, .inl 3200, .inl 3200, .inl 3200]) (by simp (disch := omega) only [ha1, ha2, ha3, ha4]; rfl) ?_
  exact K ad4 (fun j hj => by rw [ha4 j (by omega), ha3 j (by omega), ha2 j (by omega), ha1 j (by omega)])
set_option maxRecDepth 100000 in
set_option maxHeartbeats 4000000 in
theorem md_at2 {ae ad : Nat → Nat} {σ : mSt} {S : mSh} {Post : mPost} (hS : S.length = 61) (hz : mZ σ 61) (K : ∀ ad' : Nat → Nat, (∀ j, j < 70 → ad' j = ad j) → Ev RX10 cX10_init 2 true none (mRm 3 14 17820) ae Post 104 [some (.ref (ad' 61)), none] [] 12 17744 ad' (S ++ [.inr (10, [.ref (ad' 62), .ref (ad' 63), .int 0, .ref (ad' 64), .int 0, .int 0, .ref (ad' 65), .ref (ad' 66), .ref (ad' 67), .ref (ad' 68), .ref (ad' 69), .ref (ad' 70), .ref (ad' 71), .int 0, .ref (ad' 72), .ref (ad' 73), .null, .int 0, .null]), .inl 2369, .inl 2369, .inl 60, .inl 19, .inl 3200, .inl 3200, .inl 3200, .inl 3200, .inl 2, .inl 106, .inl 3, .inl 16]) σ) : Ev RX10 cX10_init 2 true none (mRm 3 14 17820) ae Post 74 [some (.ref (ad 61)), none] [] 8 17617 ad (S ++ [.inr (10, [.ref (ad 62), .ref (ad 63), .int 0, .ref (ad 64), .int 0, .int 0, .ref (ad 65), .ref (ad 66), .ref (ad 67), .ref (ad 68), .ref (ad 69), .null, .null, .int 0, .null, .null, .null, .int 0, .null]), .inl 2369, .inl 2369, .inl 60, .inl 19, .inl 3200, .inl 3200, .inl 3200, .inl 3200]) σ := by
  refine ev_aload_0 dX10_init_74 ?_
  refine ev_iconst_2 dX10_init_75 ?_
  refine cn_newa (T := 70) (N := 2) (by rw [List.length_append, hS]; rfl) (mZ_le hz (by omega)) (by decide) rfl (Nat.le_of_ble_eq_true rfl) (Nat.le_of_ble_eq_true rfl) (Nat.le_of_ble_eq_true rfl) dX10_init_76 (fun ad1 ha1 => ?_)
  rw [← ha1 61 (by omega)]
  refine pr_X10_36 (N := 61) hS dX10_init_78 rfl (Nat.le_of_ble_eq_true rfl) ?_
  refine ev_aload_0 dX10_init_81 ?_
  refine ev_bipush_106 dX10_init_82 ?_
  refine cn_newa (T := 71) (N := 106) (by rw [List.length_append, hS]; rfl) (mZ_le hz (by omega)) (by decide) rfl (Nat.le_of_ble_eq_true rfl) (Nat.le_of_ble_eq_true rfl) (Nat.le_of_ble_eq_true rfl) dX10_init_84 (fun ad2 ha2 => ?_)
  rw [← ha2 61 (by omega)]
  refine pr_X10_39 (N := 61) hS dX10_init_86 rfl (Nat.le_of_ble_eq_true rfl) ?_
  refine ev_aload_0 dX10_init_89 ?_
  refine ev_iconst_3 dX10_init_90 ?_
  refine cn_newa (T := 72) (N := 3) (by rw [List.length_append, hS]; rfl) (mZ_le hz (by omega)) (by decide) rfl (Nat.le_of_ble_eq_true rfl) (Nat.le_of_ble_eq_true rfl) (Nat.le_of_ble_eq_true rfl) dX10_init_91 (fun ad3 ha3 => ?_)
  rw [← ha3 61 (by omega)]
  refine pr_X10_42 (N := 61) hS dX10_init_93 rfl (Nat.le_of_ble_eq_true rfl) ?_
  refine ev_aload_0 dX10_init_96 ?_
  refine ev_bipush_16 dX10_init_97 ?_
  refine cn_newa (T := 73) (N := 16) (by rw [List.length_append, hS]; rfl) (mZ_le hz (by omega)) (by decide) rfl (Nat.le_of_ble_eq_true rfl) (Nat.le_of_ble_eq_true rfl) (Nat.le_of_ble_eq_true rfl) dX10_init_99 (fun ad4 ha4 => ?_)
  rw [← ha4 61 (by omega)]
  refine pr_X10_45 (N := 61) hS dX10_init_101 rfl (Nat.le_of_ble_eq_true rfl) ?_
  refine Ev.sh (sh' := S ++ [.inr (10, [.ref (ad4 62), .ref (ad4 63), .int 0, .ref (ad4 64), .int 0, .int 0, .ref (ad4 65), .ref (ad4 66), .ref (ad4 67), .ref (ad4 68), .ref (ad4 69), .ref (ad4 70), .ref (ad4 71), .int 0, .ref (ad4 72), .ref (ad4 73), .null, .int 0, .null]), .inl 2369, .inl 2369, .inl 60, .inl 19, .inl 3200, .inl 3200, .inl 3200, .inl 3200, .inl 2, .inl 106, .inl 3, .inl 16]) (by simp (disch := omega) only [ha1, ha2, ha3, ha4]; rfl) ?_
  exact K ad4 (fun j hj => by rw [ha4 j (by omega), ha3 j (by omega), ha2 j (by omega), ha1 j (by omega)])
set_option maxRecDepth 100000 in
set_option maxHeartbeats 4000000 in
theorem md_at3 {ae ad : Nat → Nat} {σ : mSt} {S : mSh} {Post : mPost} (hS : S.length = 61) (hz : mZ σ 61) (K : ∀ ad' : Nat → Nat, (∀ j, j < 74 → ad' j = ad j) → Ev RX10 cX10_init 2 true none (mRm 3 14 17820) ae Post 120 [some (.ref (ad' 61)), none] [] 14 17820 ad' (S ++ [.inr (10, [.ref (ad' 62), .ref (ad' 63), .int 0, .ref (ad' 64), .int 0, .int 0, .ref (ad' 65), .ref (ad' 66), .ref (ad' 67), .ref (ad' 68), .ref (ad' 69), .ref (ad' 70), .ref (ad' 71), .int 0, .ref (ad' 72), .ref (ad' 73), .ref (ad' 74), .int 0, .ref (ad' 75)]), .inl 2369, .inl 2369, .inl 60, .inl 19, .inl 3200, .inl 3200, .inl 3200, .inl 3200, .inl 2, .inl 106, .inl 3, .inl 16, .inl 16, .inl 60]) σ) : Ev RX10 cX10_init 2 true none (mRm 3 14 17820) ae Post 104 [some (.ref (ad 61)), none] [] 12 17744 ad (S ++ [.inr (10, [.ref (ad 62), .ref (ad 63), .int 0, .ref (ad 64), .int 0, .int 0, .ref (ad 65), .ref (ad 66), .ref (ad 67), .ref (ad 68), .ref (ad 69), .ref (ad 70), .ref (ad 71), .int 0, .ref (ad 72), .ref (ad 73), .null, .int 0, .null]), .inl 2369, .inl 2369, .inl 60, .inl 19, .inl 3200, .inl 3200, .inl 3200, .inl 3200, .inl 2, .inl 106, .inl 3, .inl 16]) σ := by
  refine ev_aload_0 dX10_init_104 ?_
  refine ev_bipush_16 dX10_init_105 ?_
  refine cn_newa (T := 74) (N := 16) (by rw [List.length_append, hS]; rfl) (mZ_le hz (by omega)) (by decide) rfl (Nat.le_of_ble_eq_true rfl) (Nat.le_of_ble_eq_true rfl) (Nat.le_of_ble_eq_true rfl) dX10_init_107 (fun ad1 ha1 => ?_)
  rw [← ha1 61 (by omega)]
  refine pr_X10_48 (N := 61) hS dX10_init_109 rfl (Nat.le_of_ble_eq_true rfl) ?_
  refine ev_aload_0 dX10_init_112 ?_
  refine ev_bipush_60 dX10_init_113 ?_
  refine cn_newa (T := 75) (N := 60) (by rw [List.length_append, hS]; rfl) (mZ_le hz (by omega)) (by decide) rfl (Nat.le_of_ble_eq_true rfl) (Nat.le_of_ble_eq_true rfl) (Nat.le_of_ble_eq_true rfl) dX10_init_115 (fun ad2 ha2 => ?_)
  rw [← ha2 61 (by omega)]
  refine pr_X10_51 (N := 61) hS dX10_init_117 rfl (Nat.le_of_ble_eq_true rfl) ?_
  refine Ev.sh (sh' := S ++ [.inr (10, [.ref (ad2 62), .ref (ad2 63), .int 0, .ref (ad2 64), .int 0, .int 0, .ref (ad2 65), .ref (ad2 66), .ref (ad2 67), .ref (ad2 68), .ref (ad2 69), .ref (ad2 70), .ref (ad2 71), .int 0, .ref (ad2 72), .ref (ad2 73), .ref (ad2 74), .int 0, .ref (ad2 75)]), .inl 2369, .inl 2369, .inl 60, .inl 19, .inl 3200, .inl 3200, .inl 3200, .inl 3200, .inl 2, .inl 106, .inl 3, .inl 16, .inl 16, .inl 60]) (by simp (disch := omega) only [ha1, ha2]; rfl) ?_
  exact K ad2 (fun j hj => by rw [ha2 j (by omega), ha1 j (by omega)])
