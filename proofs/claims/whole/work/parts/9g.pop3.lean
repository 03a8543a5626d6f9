abbrev l2N (x : Int64) : Nat := x.toBitVec.toNat
theorem l2_shr {x : Int64} {s : Int32} {k : Nat} (h : ((s.toInt64.toUInt64 &&& Int64.toUInt64 63).toBitVec).toNat % 64 = k) : l2N ((x.toUInt64 >>> (s.toInt64.toUInt64 &&& Int64.toUInt64 63)).toInt64) = l2N x / 2 ^ k := by
  have e : ((x.toUInt64 >>> (s.toInt64.toUInt64 &&& Int64.toUInt64 63)).toInt64).toBitVec = x.toBitVec >>> ((s.toInt64.toUInt64 &&& Int64.toUInt64 63).toBitVec % 64) := rfl
  unfold l2N
  rw [e, BitVec.ushiftRight_eq', BitVec.toNat_ushiftRight, BitVec.toNat_umod, Nat.shiftRight_eq_div_pow]
  rw [show (64 : BitVec 64).toNat = 64 from rfl, h]
theorem l2_and {x y : Int64} : l2N (x &&& y) = (l2N x &&& l2N y) := by unfold l2N; rw [Int64.toBitVec_and, BitVec.toNat_and]
theorem l2_add {x y : Int64} (h : l2N x + l2N y < 2 ^ 64) : l2N (x + y) = l2N x + l2N y := by
  unfold l2N at *
  rw [Int64.toBitVec_add, BitVec.toNat_add, Nat.mod_eq_of_lt h]
theorem l2_sub {x y : Int64} (h : l2N y ≤ l2N x) : l2N (x - y) = l2N x - l2N y := by
  have hx : x.toBitVec.toNat < 2 ^ 64 := x.toBitVec.isLt
  unfold l2N at *
  rw [Int64.toBitVec_sub, BitVec.toNat_sub]
  omega
theorem l2_lo {x : Int64} : (x.toInt32 &&& 127).toBitVec.toNat = l2N x % 128 := by
  unfold l2N
  rw [Int32.toBitVec_and, BitVec.toNat_and, Int64.toBitVec_toInt32, BitVec.signExtend_eq_setWidth_of_le _ (by decide), BitVec.toNat_setWidth, show (127 : Int32).toBitVec.toNat = 2 ^ 7 - 1 from rfl, Nat.and_two_pow_sub_one_eq_mod]
  omega
theorem pop_N (x : Int64) : (popL x).toBitVec.toNat = p8 (l2N x % 256) + p8 (l2N x / 256 % 256) + p8 (l2N x / 256 ^ 2 % 256) + p8 (l2N x / 256 ^ 3 % 256) + p8 (l2N x / 256 ^ 4 % 256) + p8 (l2N x / 256 ^ 5 % 256) + p8 (l2N x / 256 ^ 6 % 256) + p8 (l2N x / 256 ^ 7 % 256) := by
  have hX : l2N x < 2 ^ 64 := x.toBitVec.isLt
  obtain ⟨q0, q1, q2, q3, q4, q5, q6⟩ := pop_nat hX rfl rfl rfl
  rw [← q6]
  unfold popL
  have e1 : l2N ((x.toUInt64 >>> ((1 : Int32).toInt64.toUInt64 &&& Int64.toUInt64 63)).toInt64) = l2N x / 2 := l2_shr (k := 1) rfl
  have ea : l2N (x - ((x.toUInt64 >>> ((1 : Int32).toInt64.toUInt64 &&& Int64.toUInt64 63)).toInt64 &&& 6148914691236517205)) = l2N x - (l2N x / 2 &&& 6148914691236517205) := by
    rw [l2_sub (by rw [l2_and, e1]; exact q0), l2_and, e1]; rfl
  generalize x - ((x.toUInt64 >>> ((1 : Int32).toInt64.toUInt64 &&& Int64.toUInt64 63)).toInt64 &&& 6148914691236517205) = a at ea ⊢
  have e2 : l2N ((a.toUInt64 >>> ((2 : Int32).toInt64.toUInt64 &&& Int64.toUInt64 63)).toInt64) = l2N a / 4 := l2_shr (k := 2) rfl
  rw [← ea] at q1 q2 q3 q4 q5 ⊢
  have eb : l2N ((a &&& 3689348814741910323) + ((a.toUInt64 >>> ((2 : Int32).toInt64.toUInt64 &&& Int64.toUInt64 63)).toInt64 &&& 3689348814741910323)) = (l2N a &&& 3689348814741910323) + (l2N a / 4 &&& 3689348814741910323) := by
    rw [l2_add (by rw [l2_and, l2_and, e2]; exact Nat.lt_trans q1 (by decide)), l2_and, l2_and, e2]; rfl
  show ((_ : Int64).toInt32 &&& 127).toBitVec.toNat = _
  generalize (a &&& 3689348814741910323) + ((a.toUInt64 >>> ((2 : Int32).toInt64.toUInt64 &&& Int64.toUInt64 63)).toInt64 &&& 3689348814741910323) = b at eb ⊢
  have e3 : l2N ((b.toUInt64 >>> ((4 : Int32).toInt64.toUInt64 &&& Int64.toUInt64 63)).toInt64) = l2N b / 16 := l2_shr (k := 4) rfl
  rw [← eb] at q2 q3 q4 q5 ⊢
  have ec : l2N (b + ((b.toUInt64 >>> ((4 : Int32).toInt64.toUInt64 &&& Int64.toUInt64 63)).toInt64) &&& 1085102592571150095) = (l2N b + l2N b / 16) &&& 1085102592571150095 := by
    rw [l2_and, l2_add (by rw [e3]; exact q2), e3]; rfl
  generalize b + ((b.toUInt64 >>> ((4 : Int32).toInt64.toUInt64 &&& Int64.toUInt64 63)).toInt64) &&& 1085102592571150095 = c at ec ⊢
  have e4 : l2N ((c.toUInt64 >>> ((8 : Int32).toInt64.toUInt64 &&& Int64.toUInt64 63)).toInt64) = l2N c / 256 := l2_shr (k := 8) rfl
  rw [← ec] at q3 q4 q5 ⊢
  have ed : l2N (c + ((c.toUInt64 >>> ((8 : Int32).toInt64.toUInt64 &&& Int64.toUInt64 63)).toInt64)) = l2N c + l2N c / 256 := by
    rw [l2_add (by rw [e4]; exact Nat.lt_trans q3 (by decide)), e4]
  generalize c + ((c.toUInt64 >>> ((8 : Int32).toInt64.toUInt64 &&& Int64.toUInt64 63)).toInt64) = d at ed ⊢
  have e5 : l2N ((d.toUInt64 >>> ((16 : Int32).toInt64.toUInt64 &&& Int64.toUInt64 63)).toInt64) = l2N d / 65536 := l2_shr (k := 16) rfl
  rw [← ed] at q4 q5 ⊢
  have ee : l2N (d + ((d.toUInt64 >>> ((16 : Int32).toInt64.toUInt64 &&& Int64.toUInt64 63)).toInt64)) = l2N d + l2N d / 65536 := by
    rw [l2_add (by rw [e5]; exact Nat.lt_trans q4 (by decide)), e5]
  generalize d + ((d.toUInt64 >>> ((16 : Int32).toInt64.toUInt64 &&& Int64.toUInt64 63)).toInt64) = e at ee ⊢
  have e6 : l2N ((e.toUInt64 >>> ((32 : Int32).toInt64.toUInt64 &&& Int64.toUInt64 63)).toInt64) = l2N e / 4294967296 := l2_shr (k := 32) rfl
  rw [← ee] at q5 ⊢
  rw [l2_lo, l2_add (by rw [e6]; exact Nat.lt_trans q5 (by decide)), e6]
theorem p8_bt {X j : Nat} (f : Nat → Bool) (h : ∀ i, i < 64 → X.testBit i = f i) (hj : j < 8) : p8 (X / 256 ^ j % 256) = (f (8 * j)).toNat + (f (8 * j + 1)).toNat + (f (8 * j + 2)).toNat + (f (8 * j + 3)).toNat + (f (8 * j + 4)).toNat + (f (8 * j + 5)).toNat + (f (8 * j + 6)).toNat + (f (8 * j + 7)).toNat := by
  have t : ∀ i, i < 8 → (X / 256 ^ j % 256).testBit i = f (8 * j + i) := fun i hi => by
    rw [show (256 : Nat) = 2 ^ 8 from rfl, ← Nat.pow_mul, Nat.testBit_mod_two_pow, Nat.testBit_div_two_pow, decide_eq_true hi, Bool.true_and, ← h _ (by omega)]
    congr 1
    exact Nat.add_comm _ _
  unfold p8
  rw [t 0 (by decide), t 1 (by decide), t 2 (by decide), t 3 (by decide), t 4 (by decide), t 5 (by decide), t 6 (by decide), t 7 (by decide)]; rfl
theorem cnt8 (f : Nat → Bool) (n : Nat) : cntF f (n + 8) = cntF f n + ((f n).toNat + (f (n + 1)).toNat + (f (n + 2)).toNat + (f (n + 3)).toNat + (f (n + 4)).toNat + (f (n + 5)).toNat + (f (n + 6)).toNat + (f (n + 7)).toNat) := by
  have t : ∀ k, (if f k = true then 1 else 0) = (f k).toNat := fun k => by cases f k <;> rfl
  show cntF f n + _ + _ + _ + _ + _ + _ + _ + _ = _
  rw [t, t, t, t, t, t, t, t]
  omega
theorem nI_bt {n : Nat} (h : n < 2 ^ 31) : (nI n).toBitVec.toNat = n := by
  show (BitVec.ofNat 32 n).toNat = n
  rw [BitVec.toNat_ofNat]
  exact Nat.mod_eq_of_lt (by omega)
theorem cnt8_0 (f : Nat → Bool) : cntF f 8 = (f 0).toNat + (f (0 + 1)).toNat + (f (0 + 2)).toNat + (f (0 + 3)).toNat + (f (0 + 4)).toNat + (f (0 + 5)).toNat + (f (0 + 6)).toNat + (f (0 + 7)).toNat := (cnt8 f 0).trans (Nat.zero_add _)
theorem pop_set (f : Nat → Bool) : popL (setL f) = nI (cntF f 64) := by
  have hb : ∀ i, i < 64 → (l2N (setL f)).testBit i = f i := fun i hi => lb_setL hi
  have e : (popL (setL f)).toBitVec.toNat = cntF f 64 := by
    rw [pop_N]
    have q := fun j hj => p8_bt (j := j) f hb hj
    have q0 := q 0 (by decide)
    have q1 := q 1 (by decide)
    rw [Nat.pow_zero, Nat.div_one] at q0
    rw [Nat.pow_one] at q1
    rw [q0, q1, q 2 (by decide), q 3 (by decide), q 4 (by decide), q 5 (by decide), q 6 (by decide), q 7 (by decide)]
    rw [show 64 = 8 + 8 + 8 + 8 + 8 + 8 + 8 + 8 from rfl, cnt8, cnt8, cnt8, cnt8, cnt8, cnt8, cnt8, cnt8_0]
  have hle : ∀ n, cntF f n ≤ n := fun n => by
    induction n with
    | zero => exact Nat.le_refl _
    | succ n ih => rw [cntF]; split <;> omega
  refine Int32.toBitVec_inj.mp (BitVec.eq_of_toNat_eq ?_)
  rw [e, nI_bt (by have := hle 64; omega)]
theorem cnt_zero {f : Nat → Bool} : ∀ (n m : Nat), (∀ k, n ≤ k → k < n + m → f k = false) → cntF f (n + m) = cntF f n
  | n, 0, _ => rfl
  | n, m + 1, h => by
    show cntF f (n + m) + (if f (n + m) = true then 1 else 0) = _
    rw [h (n + m) (by omega) (by omega), cnt_zero n m (fun k a b => h k a (by omega))]; rfl
theorem cnt_cong {f f' : Nat → Bool} : ∀ n, (∀ k, k < n → f k = f' k) → cntF f n = cntF f' n
  | 0, _ => rfl
  | n + 1, h => by rw [cntF, cntF, cnt_cong n (fun k hk => h k (by omega)), h n (by omega)]
theorem menOk_of {g : Nat → Int32} (hG : wfP g) : menOk g := by
  unfold menOk menG
  rw [pop_set]
  congr 1
  have h36 := sq36 hG
  rw [show 64 = cN g * rN g + (64 - cN g * rN g) by omega, cnt_zero _ _ (fun k a b => ?_)]
  · exact cnt_cong _ (fun k hk => by unfold occG; rw [decide_eq_decide]; exact ⟨fun z => z.2, fun z => ⟨by omega, z⟩⟩)
  · refine decide_eq_false (fun z => ?_)
    have := (hG.2.2.1 k z.1)
    omega

