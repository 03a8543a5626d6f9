set_option maxRecDepth 100000 in
set_option maxHeartbeats 4000000 in
theorem c_X0_init {ae ad : Nat → Nat} {σ : mSt} {S : mSh} {N a : Nat} (hS : S.length = N) (hz : mZ σ (N + 1)) : Ct yX0_init cX0_init 2 none 2 10 1006 [.ref (ad N), .ref a] ae ad (S ++ [.inr (0, [.null, .null, .null, .null, .null])]) σ (mCt N ad S (fun ad' => [.inr (0, [.ref a, .ref (ad' (N + 1)), .ref (ad' (N + 3)), .ref (ad' (N + 5)), .ref (ad' (N + 8))]), .inr (3, [.ref (ad' (N + 2)), .int 0]), .inl 445, .inr (3, [.ref (ad' (N + 4)), .int 0]), .inl 445, .inr (6, [.ref (ad' (N + 6)), .ref (ad' (N + 7)), .int 0, .int 0, .int 0, .int 0, .long 0, .long 0]), .inl 36, .inl 12, .inr (6, [.ref (ad' (N + 9)), .ref (ad' (N + 10)), .int 0, .int 0, .int 0, .int 0, .long 0, .long 0]), .inl 36, .inl 12]) (posZ (posZ σ (N + 5)) (N + 8))) := by
  refine Ct.ofL (own := RX0) (ini := true) (ls := [some (.ref (ad N)), some (.ref a)]) (by decide +kernel) rfl (fun _ => rfl) (Nat.le_of_ble_eq_true rfl) rfl ?_
  refine ev_aload_0 dX0_init_0 ?_
  refine ev_objInit ow_X0_1 oi_in oi_co (Nat.le_of_ble_eq_true rfl) (Nat.le_of_ble_eq_true rfl) (Nat.le_of_ble_eq_true rfl) dX0_init_1 ?_
  refine ev_aload_0 dX0_init_4 ?_
  refine nw_X0_7 (T := (N + 1)) (by rw [List.length_append, hS]; rfl) (mZ_le hz (by omega)) (Nat.le_of_ble_eq_true rfl) (Nat.le_of_ble_eq_true rfl) dX0_init_5 (fun ad1 ha1 => ?_)
  rw [← ha1 N (by omega)]
  refine ev_dup dX0_init_8 rfl ?_
  refine cn_call (As := []) (c_X3_init (S := _) (N := (N + 1)) (by rw [List.length_append, hS]; rfl) (mZ_le hz (by omega))) mm_X3_init lk_X0_9 mi_X3_init rfl rfl rfl dX0_init_9 rfl (Nat.le_of_ble_eq_true rfl) (Nat.le_of_ble_eq_true rfl) (Nat.le_of_ble_eq_true rfl) (fun ad2 ha2 => ?_)
  rw [List.append_assoc]
  rw [← ha2 N (by omega), ← ha2 (N + 1) (by omega)]
  refine pr_X0_10 hS dX0_init_12 rfl (Nat.le_of_ble_eq_true rfl) ?_
  refine ev_aload_0 dX0_init_15 ?_
  refine nw_X0_7 (T := (N + 3)) (by rw [List.length_append, hS]; rfl) (mZ_le hz (by omega)) (Nat.le_of_ble_eq_true rfl) (Nat.le_of_ble_eq_true rfl) dX0_init_16 (fun ad3 ha3 => ?_)
  rw [← ha3 N (by omega)]
  refine ev_dup dX0_init_19 rfl ?_
  refine cn_call (As := []) (c_X3_init (S := _) (N := (N + 3)) (by rw [List.length_append, hS]; rfl) (mZ_le hz (by omega))) mm_X3_init lk_X0_9 mi_X3_init rfl rfl rfl dX0_init_20 rfl (Nat.le_of_ble_eq_true rfl) (Nat.le_of_ble_eq_true rfl) (Nat.le_of_ble_eq_true rfl) (fun ad4 ha4 => ?_)
  rw [List.append_assoc]
  rw [← ha4 N (by omega), ← ha4 (N + 3) (by omega)]
  refine pr_X0_16 hS dX0_init_23 rfl (Nat.le_of_ble_eq_true rfl) ?_
  refine ev_aload_0 dX0_init_26 ?_
  refine nw_X0_19 (T := (N + 5)) (by rw [List.length_append, hS]; rfl) (mZ_le hz (by omega)) (Nat.le_of_ble_eq_true rfl) (Nat.le_of_ble_eq_true rfl) dX0_init_27 (fun ad5 ha5 => ?_)
  rw [← ha5 N (by omega)]
  refine ev_dup dX0_init_30 rfl ?_
  refine cn_call (As := []) (c_X6_init (S := _) (N := (N + 5)) (by rw [List.length_append, hS]; rfl) (mZ_le hz (by omega))) mm_X6_init lk_X0_21 mi_X6_init rfl rfl rfl dX0_init_31 rfl (Nat.le_of_ble_eq_true rfl) (Nat.le_of_ble_eq_true rfl) (Nat.le_of_ble_eq_true rfl) (fun ad6 ha6 => ?_)
  rw [List.append_assoc]
  rw [← ha6 N (by omega), ← ha6 (N + 5) (by omega)]
  refine pr_X0_22 hS dX0_init_34 rfl (Nat.le_of_ble_eq_true rfl) ?_
  refine ev_aload_0 dX0_init_37 ?_
  refine nw_X0_19 (T := (N + 8)) (by rw [List.length_append, hS]; rfl) (mZ_le (mZ_pos (N := (N + 5)) (M := (N + 8)) (mZ_le hz (by omega)) (by omega)) (by omega)) (Nat.le_of_ble_eq_true rfl) (Nat.le_of_ble_eq_true rfl) dX0_init_38 (fun ad7 ha7 => ?_)
  rw [← ha7 N (by omega)]
  refine ev_dup dX0_init_41 rfl ?_
  refine cn_call (As := []) (c_X6_init (S := _) (N := (N + 8)) (by rw [List.length_append, hS]; rfl) (mZ_le (mZ_pos (N := (N + 5)) (M := (N + 8)) (mZ_le hz (by omega)) (by omega)) (by omega))) mm_X6_init lk_X0_21 mi_X6_init rfl rfl rfl dX0_init_42 rfl (Nat.le_of_ble_eq_true rfl) (Nat.le_of_ble_eq_true rfl) (Nat.le_of_ble_eq_true rfl) (fun ad8 ha8 => ?_)
  rw [List.append_assoc]
  rw [← ha8 N (by omega), ← ha8 (N + 8) (by omega)]
  refine pr_X0_26 hS dX0_init_45 rfl (Nat.le_of_ble_eq_true rfl) ?_
  refine ev_aload_0 dX0_init_48 ?_
  refine ev_aload_1 dX0_init_49 ?_
  refine pr_X0_29 hS dX0_init_50 rfl (Nat.le_of_ble_eq_true rfl) ?_
  exact ev_ret (v := none) dX0_init_53 (Nat.le_of_ble_eq_true rfl) (Nat.le_of_ble_eq_true rfl) (Or.inl ⟨rfl, rfl, rfl⟩) ⟨rfl, fun j hj => by simp (disch := omega) only [ha1, ha2, ha3, ha4, ha5, ha6, ha7, ha8], (by simp (disch := omega) only [ha1, ha2, ha3, ha4, ha5, ha6, ha7, ha8]; rfl), rfl⟩
set_option maxRecDepth 100000 in
set_option maxHeartbeats 4000000 in
theorem c_X7_init {ae ad : Nat → Nat} {σ : mSt} {S : mSh} {N : Nat} (hS : S.length = N) (hz : mZ σ (N + 1)) : Ct yX7_init cX7_init 1 none 2 17 374 [.ref (ad N)] ae ad (S ++ [.inr (7, [.null, .null, .null, .int 0])]) σ (mCt N ad S (fun ad' => [.inr (7, [.ref (ad' (N + 1)), .ref (ad' (N + 11)), .ref (ad' (N + 14)), .int 0]), .inr (1, [.ref (ad' (N + 2)), .ref (ad' (N + 3)), .ref (ad' (N + 4)), .ref (ad' (N + 5)), .ref (ad' (N + 6)), .ref (ad' (N + 7)), .ref (ad' (N + 8)), .ref (ad' (N + 9)), .ref (ad' (N + 10)), .int 0, .int 0]), .inl 6, .inl 36, .inl 36, .inl 36, .inl 36, .inl 6, .inl 6, .inl 4, .inl 16, .inr (6, [.ref (ad' (N + 12)), .ref (ad' (N + 13)), .int 0, .int 0, .int 0, .int 0, .long 0, .long 0]), .inl 36, .inl 12, .inr (8, [.ref (ad' (N + 15)), .ref (ad' (N + 16)), .ref (ad' (N + 17)), .int 0]), .inl 40, .inl 40, .inl 41]) (posZ (lawZ σ (N + 1)) (N + 11))) := by
  refine Ct.ofL (own := RX7) (ini := true) (ls := [some (.ref (ad N))]) (by decide +kernel) rfl (fun _ => rfl) (Nat.le_of_ble_eq_true rfl) rfl ?_
  refine ev_aload_0 dX7_init_0 ?_
  refine ev_objInit ow_X7_1 oi_in oi_co (Nat.le_of_ble_eq_true rfl) (Nat.le_of_ble_eq_true rfl) (Nat.le_of_ble_eq_true rfl) dX7_init_1 ?_
  refine ev_aload_0 dX7_init_4 ?_
  refine nw_X7_7 (T := (N + 1)) (by rw [List.length_append, hS]; rfl) (mZ_le hz (by omega)) (Nat.le_of_ble_eq_true rfl) (Nat.le_of_ble_eq_true rfl) dX7_init_5 (fun ad1 ha1 => ?_)
  rw [← ha1 N (by omega)]
  refine ev_dup dX7_init_8 rfl ?_
  refine cn_call (As := []) (c_X1_init (S := _) (N := (N + 1)) (by rw [List.length_append, hS]; rfl) (mZ_le hz (by omega))) mm_X1_init lk_X7_9 mi_X1_init rfl rfl rfl dX7_init_9 rfl (Nat.le_of_ble_eq_true rfl) (Nat.le_of_ble_eq_true rfl) (Nat.le_of_ble_eq_true rfl) (fun ad2 ha2 => ?_)
  rw [List.append_assoc]
  rw [← ha2 N (by omega), ← ha2 (N + 1) (by omega)]
  refine pr_X7_10 hS dX7_init_12 rfl (Nat.le_of_ble_eq_true rfl) ?_
  refine ev_aload_0 dX7_init_15 ?_
  refine nw_X7_16 (T := (N + 11)) (by rw [List.length_append, hS]; rfl) (mZ_le (mZ_law (N := (N + 1)) (M := (N + 11)) (mZ_le hz (by omega)) (by omega)) (by omega)) (Nat.le_of_ble_eq_true rfl) (Nat.le_of_ble_eq_true rfl) dX7_init_16 (fun ad3 ha3 => ?_)
  rw [← ha3 N (by omega)]
  refine ev_dup dX7_init_19 rfl ?_
  refine cn_call (As := []) (c_X6_init (S := _) (N := (N + 11)) (by rw [List.length_append, hS]; rfl) (mZ_le (mZ_law (N := (N + 1)) (M := (N + 11)) (mZ_le hz (by omega)) (by omega)) (by omega))) mm_X6_init lk_X7_18 mi_X6_init rfl rfl rfl dX7_init_20 rfl (Nat.le_of_ble_eq_true rfl) (Nat.le_of_ble_eq_true rfl) (Nat.le_of_ble_eq_true rfl) (fun ad4 ha4 => ?_)
  rw [List.append_assoc]
  rw [← ha4 N (by omega), ← ha4 (N + 11) (by omega)]
  refine pr_X7_19 hS dX7_init_23 rfl (Nat.le_of_ble_eq_true rfl) ?_
  refine ev_aload_0 dX7_init_26 ?_
  refine nw_X7_23 (T := (N + 14)) (by rw [List.length_append, hS]; rfl) (mZ_le (mZ_pos (N := (N + 11)) (M := (N + 14)) (mZ_le (mZ_law (N := (N + 1)) (M := (N + 11)) (mZ_le hz (by omega)) (by omega)) (by omega)) (by omega)) (by omega)) (Nat.le_of_ble_eq_true rfl) (Nat.le_of_ble_eq_true rfl) dX7_init_27 (fun ad5 ha5 => ?_)
  rw [← ha5 N (by omega)]
  refine ev_dup dX7_init_30 rfl ?_
  refine cn_call (As := []) (c_X8_init (S := _) (N := (N + 14)) (by rw [List.length_append, hS]; rfl) (mZ_le (mZ_pos (N := (N + 11)) (M := (N + 14)) (mZ_le (mZ_law (N := (N + 1)) (M := (N + 11)) (mZ_le hz (by omega)) (by omega)) (by omega)) (by omega)) (by omega))) mm_X8_init lk_X7_25 mi_X8_init rfl rfl rfl dX7_init_31 rfl (Nat.le_of_ble_eq_true rfl) (Nat.le_of_ble_eq_true rfl) (Nat.le_of_ble_eq_true rfl) (fun ad6 ha6 => ?_)
  rw [List.append_assoc]
  rw [← ha6 N (by omega), ← ha6 (N + 14) (by omega)]
  refine pr_X7_26 hS dX7_init_34 rfl (Nat.le_of_ble_eq_true rfl) ?_
  exact ev_ret (v := none) dX7_init_37 (Nat.le_of_ble_eq_true rfl) (Nat.le_of_ble_eq_true rfl) (Or.inl ⟨rfl, rfl, rfl⟩) ⟨rfl, fun j hj => by simp (disch := omega) only [ha1, ha2, ha3, ha4, ha5, ha6], (by simp (disch := omega) only [ha1, ha2, ha3, ha4, ha5, ha6]; rfl), rfl⟩
