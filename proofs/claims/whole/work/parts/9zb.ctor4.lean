def vb0 (ad : Nat → Nat) : mSh := [.inr (9, [.null, .null, .null, .null, .null, .null, .null, .null, .null, .null, .null, .int 0])]
def vb1 (ad : Nat → Nat) : mSh := [.inr (9, [.ref (ad 1), .null, .null, .null, .null, .null, .null, .null, .null, .null, .null, .int 0]), .inr (2, [.ref (ad 2), .int 0]), .inl 60]
def vb2 (ad : Nat → Nat) : mSh := [.inr (9, [.ref (ad 1), .ref (ad 3), .null, .null, .null, .null, .null, .null, .null, .null, .null, .int 0]), .inr (2, [.ref (ad 2), .int 0]), .inl 60, .inr (2, [.ref (ad 4), .int 0]), .inl 60]
def vb3 (ad : Nat → Nat) : mSh := [.inr (9, [.ref (ad 1), .ref (ad 3), .ref (ad 5), .null, .null, .null, .null, .null, .null, .null, .null, .int 0]), .inr (2, [.ref (ad 2), .int 0]), .inl 60, .inr (2, [.ref (ad 4), .int 0]), .inl 60, .inr (1, [.ref (ad 6), .ref (ad 7), .ref (ad 8), .ref (ad 9), .ref (ad 10), .ref (ad 11), .ref (ad 12), .ref (ad 13), .ref (ad 14), .int 0, .int 0]), .inl 6, .inl 36, .inl 36, .inl 36, .inl 36, .inl 6, .inl 6, .inl 4, .inl 16]
def vb4 (ad : Nat → Nat) : mSh := [.inr (9, [.ref (ad 1), .ref (ad 3), .ref (ad 5), .ref (ad 15), .null, .null, .null, .null, .null, .null, .null, .int 0]), .inr (2, [.ref (ad 2), .int 0]), .inl 60, .inr (2, [.ref (ad 4), .int 0]), .inl 60, .inr (1, [.ref (ad 6), .ref (ad 7), .ref (ad 8), .ref (ad 9), .ref (ad 10), .ref (ad 11), .ref (ad 12), .ref (ad 13), .ref (ad 14), .int 0, .int 0]), .inl 6, .inl 36, .inl 36, .inl 36, .inl 36, .inl 6, .inl 6, .inl 4, .inl 16, .inr (5, [.ref (ad 5)])]
def vb5 (ad : Nat → Nat) : mSh := [.inr (9, [.ref (ad 1), .ref (ad 3), .ref (ad 5), .ref (ad 15), .ref (ad 16), .null, .null, .null, .null, .null, .null, .int 0]), .inr (2, [.ref (ad 2), .int 0]), .inl 60, .inr (2, [.ref (ad 4), .int 0]), .inl 60, .inr (1, [.ref (ad 6), .ref (ad 7), .ref (ad 8), .ref (ad 9), .ref (ad 10), .ref (ad 11), .ref (ad 12), .ref (ad 13), .ref (ad 14), .int 0, .int 0]), .inl 6, .inl 36, .inl 36, .inl 36, .inl 36, .inl 6, .inl 6, .inl 4, .inl 16, .inr (5, [.ref (ad 5)]), .inr (4, [.ref (ad 17), .ref (ad 18), .ref (ad 19), .int 0]), .inl 6, .inl 6, .inl 6]
def vb6 (ad : Nat → Nat) : mSh := [.inr (9, [.ref (ad 1), .ref (ad 3), .ref (ad 5), .ref (ad 15), .ref (ad 16), .ref (ad 20), .null, .null, .null, .null, .null, .int 0]), .inr (2, [.ref (ad 2), .int 0]), .inl 60, .inr (2, [.ref (ad 4), .int 0]), .inl 60, .inr (1, [.ref (ad 6), .ref (ad 7), .ref (ad 8), .ref (ad 9), .ref (ad 10), .ref (ad 11), .ref (ad 12), .ref (ad 13), .ref (ad 14), .int 0, .int 0]), .inl 6, .inl 36, .inl 36, .inl 36, .inl 36, .inl 6, .inl 6, .inl 4, .inl 16, .inr (5, [.ref (ad 5)]), .inr (4, [.ref (ad 17), .ref (ad 18), .ref (ad 19), .int 0]), .inl 6, .inl 6, .inl 6, .inr (6, [.ref (ad 21), .ref (ad 22), .int 0, .int 0, .int 0, .int 0, .long 0, .long 0]), .inl 36, .inl 12]
def vb7 (ad : Nat → Nat) : mSh := [.inr (9, [.ref (ad 1), .ref (ad 3), .ref (ad 5), .ref (ad 15), .ref (ad 16), .ref (ad 20), .ref (ad 23), .null, .null, .null, .null, .int 0]), .inr (2, [.ref (ad 2), .int 0]), .inl 60, .inr (2, [.ref (ad 4), .int 0]), .inl 60, .inr (1, [.ref (ad 6), .ref (ad 7), .ref (ad 8), .ref (ad 9), .ref (ad 10), .ref (ad 11), .ref (ad 12), .ref (ad 13), .ref (ad 14), .int 0, .int 0]), .inl 6, .inl 36, .inl 36, .inl 36, .inl 36, .inl 6, .inl 6, .inl 4, .inl 16, .inr (5, [.ref (ad 5)]), .inr (4, [.ref (ad 17), .ref (ad 18), .ref (ad 19), .int 0]), .inl 6, .inl 6, .inl 6, .inr (6, [.ref (ad 21), .ref (ad 22), .int 0, .int 0, .int 0, .int 0, .long 0, .long 0]), .inl 36, .inl 12, .inr (6, [.ref (ad 24), .ref (ad 25), .int 0, .int 0, .int 0, .int 0, .long 0, .long 0]), .inl 36, .inl 12]
def vb8 (ad : Nat → Nat) : mSh := [.inr (9, [.ref (ad 1), .ref (ad 3), .ref (ad 5), .ref (ad 15), .ref (ad 16), .ref (ad 20), .ref (ad 23), .ref (ad 26), .null, .null, .null, .int 0]), .inr (2, [.ref (ad 2), .int 0]), .inl 60, .inr (2, [.ref (ad 4), .int 0]), .inl 60, .inr (1, [.ref (ad 6), .ref (ad 7), .ref (ad 8), .ref (ad 9), .ref (ad 10), .ref (ad 11), .ref (ad 12), .ref (ad 13), .ref (ad 14), .int 0, .int 0]), .inl 6, .inl 36, .inl 36, .inl 36, .inl 36, .inl 6, .inl 6, .inl 4, .inl 16, .inr (5, [.ref (ad 5)]), .inr (4, [.ref (ad 17), .ref (ad 18), .ref (ad 19), .int 0]), .inl 6, .inl 6, .inl 6, .inr (6, [.ref (ad 21), .ref (ad 22), .int 0, .int 0, .int 0, .int 0, .long 0, .long 0]), .inl 36, .inl 12, .inr (6, [.ref (ad 24), .ref (ad 25), .int 0, .int 0, .int 0, .int 0, .long 0, .long 0]), .inl 36, .inl 12, .inr (8, [.ref (ad 27), .ref (ad 28), .ref (ad 29), .int 0]), .inl 40, .inl 40, .inl 41]
def vb9 (ad : Nat → Nat) : mSh := [.inr (9, [.ref (ad 1), .ref (ad 3), .ref (ad 5), .ref (ad 15), .ref (ad 16), .ref (ad 20), .ref (ad 23), .ref (ad 26), .ref (ad 30), .null, .null, .int 0]), .inr (2, [.ref (ad 2), .int 0]), .inl 60, .inr (2, [.ref (ad 4), .int 0]), .inl 60, .inr (1, [.ref (ad 6), .ref (ad 7), .ref (ad 8), .ref (ad 9), .ref (ad 10), .ref (ad 11), .ref (ad 12), .ref (ad 13), .ref (ad 14), .int 0, .int 0]), .inl 6, .inl 36, .inl 36, .inl 36, .inl 36, .inl 6, .inl 6, .inl 4, .inl 16, .inr (5, [.ref (ad 5)]), .inr (4, [.ref (ad 17), .ref (ad 18), .ref (ad 19), .int 0]), .inl 6, .inl 6, .inl 6, .inr (6, [.ref (ad 21), .ref (ad 22), .int 0, .int 0, .int 0, .int 0, .long 0, .long 0]), .inl 36, .inl 12, .inr (6, [.ref (ad 24), .ref (ad 25), .int 0, .int 0, .int 0, .int 0, .long 0, .long 0]), .inl 36, .inl 12, .inr (8, [.ref (ad 27), .ref (ad 28), .ref (ad 29), .int 0]), .inl 40, .inl 40, .inl 41, .inr (3, [.ref (ad 31), .int 0]), .inl 445]
def vb10 (ad : Nat → Nat) : mSh := [.inr (9, [.ref (ad 1), .ref (ad 3), .ref (ad 5), .ref (ad 15), .ref (ad 16), .ref (ad 20), .ref (ad 23), .ref (ad 26), .ref (ad 30), .ref (ad 32), .null, .int 0]), .inr (2, [.ref (ad 2), .int 0]), .inl 60, .inr (2, [.ref (ad 4), .int 0]), .inl 60, .inr (1, [.ref (ad 6), .ref (ad 7), .ref (ad 8), .ref (ad 9), .ref (ad 10), .ref (ad 11), .ref (ad 12), .ref (ad 13), .ref (ad 14), .int 0, .int 0]), .inl 6, .inl 36, .inl 36, .inl 36, .inl 36, .inl 6, .inl 6, .inl 4, .inl 16, .inr (5, [.ref (ad 5)]), .inr (4, [.ref (ad 17), .ref (ad 18), .ref (ad 19), .int 0]), .inl 6, .inl 6, .inl 6, .inr (6, [.ref (ad 21), .ref (ad 22), .int 0, .int 0, .int 0, .int 0, .long 0, .long 0]), .inl 36, .inl 12, .inr (6, [.ref (ad 24), .ref (ad 25), .int 0, .int 0, .int 0, .int 0, .long 0, .long 0]), .inl 36, .inl 12, .inr (8, [.ref (ad 27), .ref (ad 28), .ref (ad 29), .int 0]), .inl 40, .inl 40, .inl 41, .inr (3, [.ref (ad 31), .int 0]), .inl 445, .inr (0, [.ref (ad 15), .ref (ad 33), .ref (ad 35), .ref (ad 37), .ref (ad 40)]), .inr (3, [.ref (ad 34), .int 0]), .inl 445, .inr (3, [.ref (ad 36), .int 0]), .inl 445, .inr (6, [.ref (ad 38), .ref (ad 39), .int 0, .int 0, .int 0, .int 0, .long 0, .long 0]), .inl 36, .inl 12, .inr (6, [.ref (ad 41), .ref (ad 42), .int 0, .int 0, .int 0, .int 0, .long 0, .long 0]), .inl 36, .inl 12]
def vb11 (ad : Nat → Nat) : mSh := [.inr (9, [.ref (ad 1), .ref (ad 3), .ref (ad 5), .ref (ad 15), .ref (ad 16), .ref (ad 20), .ref (ad 23), .ref (ad 26), .ref (ad 30), .ref (ad 32), .ref (ad 43), .int 0]), .inr (2, [.ref (ad 2), .int 0]), .inl 60, .inr (2, [.ref (ad 4), .int 0]), .inl 60, .inr (1, [.ref (ad 6), .ref (ad 7), .ref (ad 8), .ref (ad 9), .ref (ad 10), .ref (ad 11), .ref (ad 12), .ref (ad 13), .ref (ad 14), .int 0, .int 0]), .inl 6, .inl 36, .inl 36, .inl 36, .inl 36, .inl 6, .inl 6, .inl 4, .inl 16, .inr (5, [.ref (ad 5)]), .inr (4, [.ref (ad 17), .ref (ad 18), .ref (ad 19), .int 0]), .inl 6, .inl 6, .inl 6, .inr (6, [.ref (ad 21), .ref (ad 22), .int 0, .int 0, .int 0, .int 0, .long 0, .long 0]), .inl 36, .inl 12, .inr (6, [.ref (ad 24), .ref (ad 25), .int 0, .int 0, .int 0, .int 0, .long 0, .long 0]), .inl 36, .inl 12, .inr (8, [.ref (ad 27), .ref (ad 28), .ref (ad 29), .int 0]), .inl 40, .inl 40, .inl 41, .inr (3, [.ref (ad 31), .int 0]), .inl 445, .inr (0, [.ref (ad 15), .ref (ad 33), .ref (ad 35), .ref (ad 37), .ref (ad 40)]), .inr (3, [.ref (ad 34), .int 0]), .inl 445, .inr (3, [.ref (ad 36), .int 0]), .inl 445, .inr (6, [.ref (ad 38), .ref (ad 39), .int 0, .int 0, .int 0, .int 0, .long 0, .long 0]), .inl 36, .inl 12, .inr (6, [.ref (ad 41), .ref (ad 42), .int 0, .int 0, .int 0, .int 0, .long 0, .long 0]), .inl 36, .inl 12, .inr (7, [.ref (ad 44), .ref (ad 54), .ref (ad 57), .int 0]), .inr (1, [.ref (ad 45), .ref (ad 46), .ref (ad 47), .ref (ad 48), .ref (ad 49), .ref (ad 50), .ref (ad 51), .ref (ad 52), .ref (ad 53), .int 0, .int 0]), .inl 6, .inl 36, .inl 36, .inl 36, .inl 36, .inl 6, .inl 6, .inl 4, .inl 16, .inr (6, [.ref (ad 55), .ref (ad 56), .int 0, .int 0, .int 0, .int 0, .long 0, .long 0]), .inl 36, .inl 12, .inr (8, [.ref (ad 58), .ref (ad 59), .ref (ad 60), .int 0]), .inl 40, .inl 40, .inl 41]
theorem mZ0 : mZ (fun _ _ => 0, fun _ _ => 0) 1 := fun _ _ => ⟨rfl, rfl⟩
set_option maxRecDepth 100000 in
set_option maxHeartbeats 4000000 in
theorem vb_at0 {ae ad : Nat → Nat} {Post : mPost} (K : ∀ ad' : Nat → Nat, (∀ j, j < 1 → ad' j = ad j) → Ev RX9 cX9_init 1 true none (mRm 3 60 2413) ae Post 15 [some (.ref (ad' 0))] [] 2 62 ad' (vb1 ad') ((fun _ _ => 0, fun _ _ => 0) : mSt)) : Ev RX9 cX9_init 1 true none (mRm 3 60 2413) ae Post 4 [some (.ref (ad 0))] [] 0 0 ad (vb0 ad) ((fun _ _ => 0, fun _ _ => 0) : mSt) := by
  unfold vb0
  refine ev_aload_0 dX9_init_4 ?_
  refine nw_X9_11 (T := 1) rfl (mZ_le mZ0 (by omega)) (Nat.le_of_ble_eq_true rfl) (Nat.le_of_ble_eq_true rfl) dX9_init_5 (fun ad1 ha1 => ?_)
  rw [← ha1 0 (by omega)]
  refine ev_dup dX9_init_8 rfl ?_
  refine cn_call (As := []) (c_X2_init (S := _) (N := 1) rfl (mZ_le mZ0 (by omega))) mm_X2_init lk_X9_13 mi_X2_init rfl rfl rfl dX9_init_9 rfl (Nat.le_of_ble_eq_true rfl) (Nat.le_of_ble_eq_true rfl) (Nat.le_of_ble_eq_true rfl) (fun ad2 ha2 => ?_)
  rw [← ha2 0 (by omega), ← ha2 1 (by omega)]
  refine pr_X9_14 (S := []) (N := 0) rfl dX9_init_12 rfl (Nat.le_of_ble_eq_true rfl) ?_
  refine Ev.sh (sh' := vb1 ad2) (by unfold vb1; simp (disch := omega) only [ha1, ha2]; rfl) ?_
  exact K ad2 (fun j hj => by rw [ha2 j (by omega), ha1 j hj])
set_option maxRecDepth 100000 in
set_option maxHeartbeats 4000000 in
theorem vb_at1 {ae ad : Nat → Nat} {Post : mPost} (K : ∀ ad' : Nat → Nat, (∀ j, j < 3 → ad' j = ad j) → Ev RX9 cX9_init 1 true none (mRm 3 60 2413) ae Post 26 [some (.ref (ad' 0))] [] 4 124 ad' (vb2 ad') ((fun _ _ => 0, fun _ _ => 0) : mSt)) : Ev RX9 cX9_init 1 true none (mRm 3 60 2413) ae Post 15 [some (.ref (ad 0))] [] 2 62 ad (vb1 ad) ((fun _ _ => 0, fun _ _ => 0) : mSt) := by
  unfold vb1
  refine ev_aload_0 dX9_init_15 ?_
  refine nw_X9_11 (T := 3) rfl (mZ_le mZ0 (by omega)) (Nat.le_of_ble_eq_true rfl) (Nat.le_of_ble_eq_true rfl) dX9_init_16 (fun ad1 ha1 => ?_)
  rw [← ha1 0 (by omega)]
  refine ev_dup dX9_init_19 rfl ?_
  refine cn_call (As := []) (c_X2_init (S := _) (N := 3) rfl (mZ_le mZ0 (by omega))) mm_X2_init lk_X9_13 mi_X2_init rfl rfl rfl dX9_init_20 rfl (Nat.le_of_ble_eq_true rfl) (Nat.le_of_ble_eq_true rfl) (Nat.le_of_ble_eq_true rfl) (fun ad2 ha2 => ?_)
  rw [← ha2 0 (by omega), ← ha2 3 (by omega)]
  refine pr_X9_18 (S := []) (N := 0) rfl dX9_init_23 rfl (Nat.le_of_ble_eq_true rfl) ?_
  refine Ev.sh (sh' := vb2 ad2) (by unfold vb2; simp (disch := omega) only [ha1, ha2]; rfl) ?_
  exact K ad2 (fun j hj => by rw [ha2 j (by omega), ha1 j hj])
set_option maxRecDepth 100000 in
set_option maxHeartbeats 4000000 in
theorem vb_at2 {ae ad : Nat → Nat} {Post : mPost} (K : ∀ ad' : Nat → Nat, (∀ j, j < 5 → ad' j = ad j) → Ev RX9 cX9_init 1 true none (mRm 3 60 2413) ae Post 37 [some (.ref (ad' 0))] [] 14 317 ad' (vb3 ad') (lawZ ((fun _ _ => 0, fun _ _ => 0) : mSt) 5)) : Ev RX9 cX9_init 1 true none (mRm 3 60 2413) ae Post 26 [some (.ref (ad 0))] [] 4 124 ad (vb2 ad) ((fun _ _ => 0, fun _ _ => 0) : mSt) := by
  unfold vb2
  refine ev_aload_0 dX9_init_26 ?_
  refine nw_X9_21 (T := 5) rfl (mZ_le mZ0 (by omega)) (Nat.le_of_ble_eq_true rfl) (Nat.le_of_ble_eq_true rfl) dX9_init_27 (fun ad1 ha1 => ?_)
  rw [← ha1 0 (by omega)]
  refine ev_dup dX9_init_30 rfl ?_
  refine cn_call (As := []) (c_X1_init (S := _) (N := 5) rfl (mZ_le mZ0 (by omega))) mm_X1_init lk_X9_23 mi_X1_init rfl rfl rfl dX9_init_31 rfl (Nat.le_of_ble_eq_true rfl) (Nat.le_of_ble_eq_true rfl) (Nat.le_of_ble_eq_true rfl) (fun ad2 ha2 => ?_)
  rw [← ha2 0 (by omega), ← ha2 5 (by omega)]
  refine pr_X9_24 (S := []) (N := 0) rfl dX9_init_34 rfl (Nat.le_of_ble_eq_true rfl) ?_
  refine Ev.sh (sh' := vb3 ad2) (by unfold vb3; simp (disch := omega) only [ha1, ha2]; rfl) ?_
  exact K ad2 (fun j hj => by rw [ha2 j (by omega), ha1 j hj])
set_option maxRecDepth 100000 in
set_option maxHeartbeats 4000000 in
theorem vb_at3 {ae ad : Nat → Nat} {Post : mPost} (K : ∀ ad' : Nat → Nat, (∀ j, j < 15 → ad' j = ad j) → Ev RX9 cX9_init 1 true none (mRm 3 60 2413) ae Post 52 [some (.ref (ad' 0))] [] 15 318 ad' (vb4 ad') (lawZ ((fun _ _ => 0, fun _ _ => 0) : mSt) 5)) : Ev RX9 cX9_init 1 true none (mRm 3 60 2413) ae Post 37 [some (.ref (ad 0))] [] 14 317 ad (vb3 ad) (lawZ ((fun _ _ => 0, fun _ _ => 0) : mSt) 5) := by
  unfold vb3
  refine ev_aload_0 dX9_init_37 ?_
  refine nw_X9_28 (T := 15) rfl (mZ_le (mZ_law (N := 5) (M := 15) (mZ_le mZ0 (by omega)) (by omega)) (by omega)) (Nat.le_of_ble_eq_true rfl) (Nat.le_of_ble_eq_true rfl) dX9_init_38 (fun ad1 ha1 => ?_)
  rw [← ha1 0 (by omega)]
  refine ev_dup dX9_init_41 rfl ?_
  refine ev_aload_0 dX9_init_42 ?_
  refine gf_X9_24 dX9_init_43 rfl rfl ?_
  refine cn_call (As := [_]) (c_X5_init (S := _) (N := 15) rfl (mZ_le (mZ_law (N := 5) (M := 15) (mZ_le mZ0 (by omega)) (by omega)) (by omega))) mm_X5_init lk_X9_30 mi_X5_init rfl rfl rfl dX9_init_46 rfl (Nat.le_of_ble_eq_true rfl) (Nat.le_of_ble_eq_true rfl) (Nat.le_of_ble_eq_true rfl) (fun ad2 ha2 => ?_)
  rw [← ha2 0 (by omega), ← ha2 15 (by omega)]
  refine pr_X9_33 (S := []) (N := 0) rfl dX9_init_49 rfl (Nat.le_of_ble_eq_true rfl) ?_
  refine Ev.sh (sh' := vb4 ad2) (by unfold vb4; simp (disch := omega) only [ha1, ha2]; rfl) ?_
  exact K ad2 (fun j hj => by rw [ha2 j (by omega), ha1 j hj])
set_option maxRecDepth 100000 in
set_option maxHeartbeats 4000000 in
theorem vb_at4 {ae ad : Nat → Nat} {Post : mPost} (K : ∀ ad' : Nat → Nat, (∀ j, j < 16 → ad' j = ad j) → Ev RX9 cX9_init 1 true none (mRm 3 60 2413) ae Post 63 [some (.ref (ad' 0))] [] 19 340 ad' (vb5 ad') (lawZ ((fun _ _ => 0, fun _ _ => 0) : mSt) 5)) : Ev RX9 cX9_init 1 true none (mRm 3 60 2413) ae Post 52 [some (.ref (ad 0))] [] 15 318 ad (vb4 ad) (lawZ ((fun _ _ => 0, fun _ _ => 0) : mSt) 5) := by
  unfold vb4
  refine ev_aload_0 dX9_init_52 ?_
  refine nw_X9_37 (T := 16) rfl (mZ_le (mZ_law (N := 5) (M := 15) (mZ_le mZ0 (by omega)) (by omega)) (by omega)) (Nat.le_of_ble_eq_true rfl) (Nat.le_of_ble_eq_true rfl) dX9_init_53 (fun ad1 ha1 => ?_)
  rw [← ha1 0 (by omega)]
  refine ev_dup dX9_init_56 rfl ?_
  refine cn_call (As := []) (c_X4_init (S := _) (N := 16) rfl (mZ_le (mZ_law (N := 5) (M := 15) (mZ_le mZ0 (by omega)) (by omega)) (by omega))) mm_X4_init lk_X9_39 mi_X4_init rfl rfl rfl dX9_init_57 rfl (Nat.le_of_ble_eq_true rfl) (Nat.le_of_ble_eq_true rfl) (Nat.le_of_ble_eq_true rfl) (fun ad2 ha2 => ?_)
  rw [← ha2 0 (by omega), ← ha2 16 (by omega)]
  refine pr_X9_40 (S := []) (N := 0) rfl dX9_init_60 rfl (Nat.le_of_ble_eq_true rfl) ?_
  refine Ev.sh (sh' := vb5 ad2) (by unfold vb5; simp (disch := omega) only [ha1, ha2]; rfl) ?_
  exact K ad2 (fun j hj => by rw [ha2 j (by omega), ha1 j hj])
set_option maxRecDepth 100000 in
set_option maxHeartbeats 4000000 in
theorem vb_at5 {ae ad : Nat → Nat} {Post : mPost} (K : ∀ ad' : Nat → Nat, (∀ j, j < 20 → ad' j = ad j) → Ev RX9 cX9_init 1 true none (mRm 3 60 2413) ae Post 74 [some (.ref (ad' 0))] [] 22 396 ad' (vb6 ad') (posZ (lawZ ((fun _ _ => 0, fun _ _ => 0) : mSt) 5) 20)) : Ev RX9 cX9_init 1 true none (mRm 3 60 2413) ae Post 63 [some (.ref (ad 0))] [] 19 340 ad (vb5 ad) (lawZ ((fun _ _ => 0, fun _ _ => 0) : mSt) 5) := by
  unfold vb5
  refine ev_aload_0 dX9_init_63 ?_
  refine nw_X9_44 (T := 20) rfl (mZ_le (mZ_law (N := 5) (M := 15) (mZ_le mZ0 (by omega)) (by omega)) (by omega)) (Nat.le_of_ble_eq_true rfl) (Nat.le_of_ble_eq_true rfl) dX9_init_64 (fun ad1 ha1 => ?_)
  rw [← ha1 0 (by omega)]
  refine ev_dup dX9_init_67 rfl ?_
  refine cn_call (As := []) (c_X6_init (S := _) (N := 20) rfl (mZ_le (mZ_law (N := 5) (M := 15) (mZ_le mZ0 (by omega)) (by omega)) (by omega))) mm_X6_init lk_X9_46 mi_X6_init rfl rfl rfl dX9_init_68 rfl (Nat.le_of_ble_eq_true rfl) (Nat.le_of_ble_eq_true rfl) (Nat.le_of_ble_eq_true rfl) (fun ad2 ha2 => ?_)
  rw [← ha2 0 (by omega), ← ha2 20 (by omega)]
  refine pr_X9_47 (S := []) (N := 0) rfl dX9_init_71 rfl (Nat.le_of_ble_eq_true rfl) ?_
  refine Ev.sh (sh' := vb6 ad2) (by unfold vb6; simp (disch := omega) only [ha1, ha2]; rfl) ?_
  exact K ad2 (fun j hj => by rw [ha2 j (by omega), ha1 j hj])
set_option maxRecDepth 100000 in
set_option maxHeartbeats 4000000 in
theorem vb_at6 {ae ad : Nat → Nat} {Post : mPost} (K : ∀ ad' : Nat → Nat, (∀ j, j < 23 → ad' j = ad j) → Ev RX9 cX9_init 1 true none (mRm 3 60 2413) ae Post 85 [some (.ref (ad' 0))] [] 25 452 ad' (vb7 ad') (posZ (posZ (lawZ ((fun _ _ => 0, fun _ _ => 0) : mSt) 5) 20) 23)) : Ev RX9 cX9_init 1 true none (mRm 3 60 2413) ae Post 74 [some (.ref (ad 0))] [] 22 396 ad (vb6 ad) (posZ (lawZ ((fun _ _ => 0, fun _ _ => 0) : mSt) 5) 20) := by
  unfold vb6
  refine ev_aload_0 dX9_init_74 ?_
  refine nw_X9_44 (T := 23) rfl (mZ_le (mZ_pos (N := 20) (M := 23) (mZ_le (mZ_law (N := 5) (M := 15) (mZ_le mZ0 (by omega)) (by omega)) (by omega)) (by omega)) (by omega)) (Nat.le_of_ble_eq_true rfl) (Nat.le_of_ble_eq_true rfl) dX9_init_75 (fun ad1 ha1 => ?_)
  rw [← ha1 0 (by omega)]
  refine ev_dup dX9_init_78 rfl ?_
  refine cn_call (As := []) (c_X6_init (S := _) (N := 23) rfl (mZ_le (mZ_pos (N := 20) (M := 23) (mZ_le (mZ_law (N := 5) (M := 15) (mZ_le mZ0 (by omega)) (by omega)) (by omega)) (by omega)) (by omega))) mm_X6_init lk_X9_46 mi_X6_init rfl rfl rfl dX9_init_79 rfl (Nat.le_of_ble_eq_true rfl) (Nat.le_of_ble_eq_true rfl) (Nat.le_of_ble_eq_true rfl) (fun ad2 ha2 => ?_)
  rw [← ha2 0 (by omega), ← ha2 23 (by omega)]
  refine pr_X9_51 (S := []) (N := 0) rfl dX9_init_82 rfl (Nat.le_of_ble_eq_true rfl) ?_
  refine Ev.sh (sh' := vb7 ad2) (by unfold vb7; simp (disch := omega) only [ha1, ha2]; rfl) ?_
  exact K ad2 (fun j hj => by rw [ha2 j (by omega), ha1 j hj])
set_option maxRecDepth 100000 in
set_option maxHeartbeats 4000000 in
theorem vb_at7 {ae ad : Nat → Nat} {Post : mPost} (K : ∀ ad' : Nat → Nat, (∀ j, j < 26 → ad' j = ad j) → Ev RX9 cX9_init 1 true none (mRm 3 60 2413) ae Post 96 [some (.ref (ad' 0))] [] 29 577 ad' (vb8 ad') (posZ (posZ (lawZ ((fun _ _ => 0, fun _ _ => 0) : mSt) 5) 20) 23)) : Ev RX9 cX9_init 1 true none (mRm 3 60 2413) ae Post 85 [some (.ref (ad 0))] [] 25 452 ad (vb7 ad) (posZ (posZ (lawZ ((fun _ _ => 0, fun _ _ => 0) : mSt) 5) 20) 23) := by
  unfold vb7
  refine ev_aload_0 dX9_init_85 ?_
  refine nw_X9_54 (T := 26) rfl (mZ_le (mZ_pos (N := 23) (M := 26) (mZ_le (mZ_pos (N := 20) (M := 23) (mZ_le (mZ_law (N := 5) (M := 15) (mZ_le mZ0 (by omega)) (by omega)) (by omega)) (by omega)) (by omega)) (by omega)) (by omega)) (Nat.le_of_ble_eq_true rfl) (Nat.le_of_ble_eq_true rfl) dX9_init_86 (fun ad1 ha1 => ?_)
  rw [← ha1 0 (by omega)]
  refine ev_dup dX9_init_89 rfl ?_
  refine cn_call (As := []) (c_X8_init (S := _) (N := 26) rfl (mZ_le (mZ_pos (N := 23) (M := 26) (mZ_le (mZ_pos (N := 20) (M := 23) (mZ_le (mZ_law (N := 5) (M := 15) (mZ_le mZ0 (by omega)) (by omega)) (by omega)) (by omega)) (by omega)) (by omega)) (by omega))) mm_X8_init lk_X9_56 mi_X8_init rfl rfl rfl dX9_init_90 rfl (Nat.le_of_ble_eq_true rfl) (Nat.le_of_ble_eq_true rfl) (Nat.le_of_ble_eq_true rfl) (fun ad2 ha2 => ?_)
  rw [← ha2 0 (by omega), ← ha2 26 (by omega)]
  refine pr_X9_57 (S := []) (N := 0) rfl dX9_init_93 rfl (Nat.le_of_ble_eq_true rfl) ?_
  refine Ev.sh (sh' := vb8 ad2) (by unfold vb8; simp (disch := omega) only [ha1, ha2]; rfl) ?_
  exact K ad2 (fun j hj => by rw [ha2 j (by omega), ha1 j hj])
set_option maxRecDepth 100000 in
set_option maxHeartbeats 4000000 in
theorem vb_at8 {ae ad : Nat → Nat} {Post : mPost} (K : ∀ ad' : Nat → Nat, (∀ j, j < 30 → ad' j = ad j) → Ev RX9 cX9_init 1 true none (mRm 3 60 2413) ae Post 107 [some (.ref (ad' 0))] [] 31 1024 ad' (vb9 ad') (posZ (posZ (lawZ ((fun _ _ => 0, fun _ _ => 0) : mSt) 5) 20) 23)) : Ev RX9 cX9_init 1 true none (mRm 3 60 2413) ae Post 96 [some (.ref (ad 0))] [] 29 577 ad (vb8 ad) (posZ (posZ (lawZ ((fun _ _ => 0, fun _ _ => 0) : mSt) 5) 20) 23) := by
  unfold vb8
  refine ev_aload_0 dX9_init_96 ?_
  refine nw_X9_61 (T := 30) rfl (mZ_le (mZ_pos (N := 23) (M := 26) (mZ_le (mZ_pos (N := 20) (M := 23) (mZ_le (mZ_law (N := 5) (M := 15) (mZ_le mZ0 (by omega)) (by omega)) (by omega)) (by omega)) (by omega)) (by omega)) (by omega)) (Nat.le_of_ble_eq_true rfl) (Nat.le_of_ble_eq_true rfl) dX9_init_97 (fun ad1 ha1 => ?_)
  rw [← ha1 0 (by omega)]
  refine ev_dup dX9_init_100 rfl ?_
  refine cn_call (As := []) (c_X3_init (S := _) (N := 30) rfl (mZ_le (mZ_pos (N := 23) (M := 26) (mZ_le (mZ_pos (N := 20) (M := 23) (mZ_le (mZ_law (N := 5) (M := 15) (mZ_le mZ0 (by omega)) (by omega)) (by omega)) (by omega)) (by omega)) (by omega)) (by omega))) mm_X3_init lk_X9_63 mi_X3_init rfl rfl rfl dX9_init_101 rfl (Nat.le_of_ble_eq_true rfl) (Nat.le_of_ble_eq_true rfl) (Nat.le_of_ble_eq_true rfl) (fun ad2 ha2 => ?_)
  rw [← ha2 0 (by omega), ← ha2 30 (by omega)]
  refine pr_X9_64 (S := []) (N := 0) rfl dX9_init_104 rfl (Nat.le_of_ble_eq_true rfl) ?_
  refine Ev.sh (sh' := vb9 ad2) (by unfold vb9; simp (disch := omega) only [ha1, ha2]; rfl) ?_
  exact K ad2 (fun j hj => by rw [ha2 j (by omega), ha1 j hj])
set_option maxRecDepth 100000 in
set_option maxHeartbeats 4000000 in
theorem vb_at9 {ae ad : Nat → Nat} {Post : mPost} (K : ∀ ad' : Nat → Nat, (∀ j, j < 32 → ad' j = ad j) → Ev RX9 cX9_init 1 true none (mRm 3 60 2413) ae Post 122 [some (.ref (ad' 0))] [] 42 2035 ad' (vb10 ad') (posZ (posZ (posZ (posZ (lawZ ((fun _ _ => 0, fun _ _ => 0) : mSt) 5) 20) 23) 37) 40)) : Ev RX9 cX9_init 1 true none (mRm 3 60 2413) ae Post 107 [some (.ref (ad 0))] [] 31 1024 ad (vb9 ad) (posZ (posZ (lawZ ((fun _ _ => 0, fun _ _ => 0) : mSt) 5) 20) 23) := by
  unfold vb9
  refine ev_aload_0 dX9_init_107 ?_
  refine nw_X9_68 (T := 32) rfl (mZ_le (mZ_pos (N := 23) (M := 26) (mZ_le (mZ_pos (N := 20) (M := 23) (mZ_le (mZ_law (N := 5) (M := 15) (mZ_le mZ0 (by omega)) (by omega)) (by omega)) (by omega)) (by omega)) (by omega)) (by omega)) (Nat.le_of_ble_eq_true rfl) (Nat.le_of_ble_eq_true rfl) dX9_init_108 (fun ad1 ha1 => ?_)
  rw [← ha1 0 (by omega)]
  refine ev_dup dX9_init_111 rfl ?_
  refine ev_aload_0 dX9_init_112 ?_
  refine gf_X9_33 dX9_init_113 rfl rfl ?_
  refine cn_call (As := [_]) (c_X0_init (S := _) (N := 32) rfl (mZ_le (mZ_pos (N := 23) (M := 26) (mZ_le (mZ_pos (N := 20) (M := 23) (mZ_le (mZ_law (N := 5) (M := 15) (mZ_le mZ0 (by omega)) (by omega)) (by omega)) (by omega)) (by omega)) (by omega)) (by omega))) mm_X0_init lk_X9_70 mi_X0_init rfl rfl rfl dX9_init_116 rfl (Nat.le_of_ble_eq_true rfl) (Nat.le_of_ble_eq_true rfl) (Nat.le_of_ble_eq_true rfl) (fun ad2 ha2 => ?_)
  rw [← ha2 0 (by omega), ← ha2 32 (by omega)]
  refine pr_X9_73 (S := []) (N := 0) rfl dX9_init_119 rfl (Nat.le_of_ble_eq_true rfl) ?_
  refine Ev.sh (sh' := vb10 ad2) (by unfold vb10; simp (disch := omega) only [ha1, ha2]; rfl) ?_
  exact K ad2 (fun j hj => by rw [ha2 j (by omega), ha1 j hj])
set_option maxRecDepth 100000 in
set_option maxHeartbeats 4000000 in
theorem vb_at10 {ae ad : Nat → Nat} {Post : mPost} (K : ∀ ad' : Nat → Nat, (∀ j, j < 43 → ad' j = ad j) → Ev RX9 cX9_init 1 true none (mRm 3 60 2413) ae Post 133 [some (.ref (ad' 0))] [] 60 2413 ad' (vb11 ad') (posZ (lawZ (posZ (posZ (posZ (posZ (lawZ ((fun _ _ => 0, fun _ _ => 0) : mSt) 5) 20) 23) 37) 40) 44) 54)) : Ev RX9 cX9_init 1 true none (mRm 3 60 2413) ae Post 122 [some (.ref (ad 0))] [] 42 2035 ad (vb10 ad) (posZ (posZ (posZ (posZ (lawZ ((fun _ _ => 0, fun _ _ => 0) : mSt) 5) 20) 23) 37) 40) := by
  unfold vb10
  refine ev_aload_0 dX9_init_122 ?_
  refine nw_X9_77 (T := 43) rfl (mZ_le (mZ_pos (N := 40) (M := 43) (mZ_pos (N := 37) (M := 43) (mZ_le (mZ_pos (N := 23) (M := 26) (mZ_le (mZ_pos (N := 20) (M := 23) (mZ_le (mZ_law (N := 5) (M := 15) (mZ_le mZ0 (by omega)) (by omega)) (by omega)) (by omega)) (by omega)) (by omega)) (by omega)) (by omega)) (by omega)) (by omega)) (Nat.le_of_ble_eq_true rfl) (Nat.le_of_ble_eq_true rfl) dX9_init_123 (fun ad1 ha1 => ?_)
  rw [← ha1 0 (by omega)]
  refine ev_dup dX9_init_126 rfl ?_
  refine cn_call (As := []) (c_X7_init (S := _) (N := 43) rfl (mZ_le (mZ_pos (N := 40) (M := 43) (mZ_pos (N := 37) (M := 43) (mZ_le (mZ_pos (N := 23) (M := 26) (mZ_le (mZ_pos (N := 20) (M := 23) (mZ_le (mZ_law (N := 5) (M := 15) (mZ_le mZ0 (by omega)) (by omega)) (by omega)) (by omega)) (by omega)) (by omega)) (by omega)) (by omega)) (by omega)) (by omega))) mm_X7_init lk_X9_79 mi_X7_init rfl rfl rfl dX9_init_127 rfl (Nat.le_of_ble_eq_true rfl) (Nat.le_of_ble_eq_true rfl) (Nat.le_of_ble_eq_true rfl) (fun ad2 ha2 => ?_)
  rw [← ha2 0 (by omega), ← ha2 43 (by omega)]
  refine pr_X9_80 (S := []) (N := 0) rfl dX9_init_130 rfl (Nat.le_of_ble_eq_true rfl) ?_
  refine Ev.sh (sh' := vb11 ad2) (by unfold vb11; simp (disch := omega) only [ha1, ha2]; rfl) ?_
  exact K ad2 (fun j hj => by rw [ha2 j (by omega), ha1 j hj])
