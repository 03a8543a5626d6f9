theorem lb_or (x y : Int64) (i : Nat) : lb (x ||| y) i = (lb x i || lb y i) := by unfold lb; rw [Int64.toBitVec_or, BitVec.getLsbD_or]
theorem lb_and (x y : Int64) (i : Nat) : lb (x &&& y) i = (lb x i && lb y i) := by unfold lb; rw [Int64.toBitVec_and, BitVec.getLsbD_and]
theorem lb_0 (i : Nat) : lb 0 i = false := BitVec.getLsbD_zero
theorem lb_m1 {i : Nat} (hi : i < 64) : lb (-1) i = true := by
  have h : ∀ i, i < 64 → lb (-1) i = true := by decide +kernel
  exact h i hi
theorem lb_xor (x y : Int64) (i : Nat) : lb (x ^^^ y) i = (lb x i ^^ lb y i) := by unfold lb; rw [Int64.toBitVec_xor, BitVec.getLsbD_xor]
theorem lb_ext {x y : Int64} (h : ∀ i, i < 64 → lb x i = lb y i) : x = y := Int64.toBitVec_inj.mp (BitVec.eq_of_getLsbD_eq (fun i hi => h i hi))
theorem mBit_nI {k : Nat} (hk : k < 64) : mBit (nI k) = lN (2 ^ k) := by
  have h := wb_shl 1 hk
  rw [Nat.one_mul] at h
  exact h
theorem lb_mBit {k i : Nat} (hk : k < 64) (hi : i < 64) : lb (mBit (nI k)) i = decide (i = k) := by
  rw [mBit_nI hk]
  unfold lb
  rw [wb_tb, BitVec.getLsbD_ofNat, Nat.testBit_two_pow]
  simp only [hi, decide_true, Bool.true_and]
  by_cases h : k = i
  · subst h; simp
  · simp only [h, decide_false]; exact (decide_eq_false (fun e => h e.symm)).symm
/-- the set of the squares below 64 that pass -/
def setF (f : Nat → Bool) : Nat → Int64
  | 0 => 0
  | n + 1 => if f n then setF f n ||| mBit (nI n) else setF f n
def setL (f : Nat → Bool) : Int64 := setF f 64
theorem lb_setF (f : Nat → Bool) : ∀ n, n ≤ 64 → ∀ i, i < 64 → lb (setF f n) i = (decide (i < n) && f i) := by
  intro n
  induction n with
  | zero => intro _ i _; simp [setF, lb_0]
  | succ n ih =>
    intro hn i hi
    rw [setF]
    by_cases hf : f n = true
    · rw [if_pos hf, lb_or, ih (by omega) i hi, lb_mBit (by omega) hi]
      by_cases h : i = n
      · subst h; simp [hf]
      · have e : decide (i < n + 1) = decide (i < n) := by simp; omega
        simp [h, e]
    · rw [if_neg hf, ih (by omega) i hi]
      by_cases h : i = n
      · subst h; simp [hf]
      · have e : decide (i < n + 1) = decide (i < n) := by simp; omega
        rw [e]
theorem lb_setL {f : Nat → Bool} {i : Nat} (hi : i < 64) : lb (setL f) i = f i := by
  rw [setL, lb_setF f 64 (Nat.le_refl _) i hi]; simp [hi]
theorem setL_of {s : Int64} {f : Nat → Bool} (h : ∀ i, i < 64 → lb s i = f i) : s = setL f := lb_ext fun i hi => (h i hi).trans (lb_setL hi).symm
theorem setL_cong {f g : Nat → Bool} (h : ∀ i, i < 64 → f i = g i) : setL f = setL g := lb_ext fun i hi => by rw [lb_setL hi, lb_setL hi, h i hi]
def iI (z : Int) : Int32 := Int32.ofInt z
theorem iI_nat (n : Nat) : iI n = nI n := Int32.toBitVec_inj.mp (by show BitVec.ofInt 32 (n : Int) = BitVec.ofNat 32 n; rw [BitVec.ofInt_natCast])
theorem iI_add (a b : Int) : iI a + iI b = iI (a + b) := (Int32.ofInt_add a b).symm
theorem iI_sub (a b : Int) : iI a - iI b = iI (a - b) := (Int32.ofInt_sub a b).symm
theorem iI_mul (a b : Int) : iI a * iI b = iI (a * b) := (Int32.ofInt_mul a b).symm
theorem iI_toInt {z : Int} (h1 : -1000000 ≤ z) (h2 : z ≤ 1000000) : (iI z).toInt = z := Int32.toInt_ofInt_of_le (by omega) (by omega)
theorem iI_lt {a b : Int} (h1 : -1000000 ≤ a) (h2 : a ≤ 1000000) (h3 : -1000000 ≤ b) (h4 : b ≤ 1000000) : iI a < iI b ↔ a < b := by
  rw [Int32.lt_iff_toInt_lt, iI_toInt h1 h2, iI_toInt h3 h4]
theorem iI_le {a b : Int} (h1 : -1000000 ≤ a) (h2 : a ≤ 1000000) (h3 : -1000000 ≤ b) (h4 : b ≤ 1000000) : iI a ≤ iI b ↔ a ≤ b := by
  rw [Int32.le_iff_toInt_le, iI_toInt h1 h2, iI_toInt h3 h4]
theorem iI_neg {a : Int} (h1 : -1000000 ≤ a) (h2 : a ≤ 1000000) : iI a < 0 ↔ a < 0 := by
  have e : (0 : Int32) = iI 0 := rfl
  rw [e, iI_lt h1 h2 (by decide) (by decide)]
/-- on the board -/
def onB (c r : Nat) (x y : Int) : Bool := decide (0 ≤ x ∧ x < c ∧ 0 ≤ y ∧ y < r)
def sqI (c : Nat) (x y : Int) : Nat := (y * c + x).toNat
/-- the squares of a way, from (x, y) on, with as many men before them as are to be hopped over -/
def wayB (c r : Nat) (occ : Nat → Bool) (dx dy : Int) (hops : Nat) : Nat → Int → Int → Nat → Nat → Bool
  | 0, _, _, _, _ => false
  | n + 1, x, y, over, q => onB c r x y && ((decide (over = hops) && decide (q = sqI c x y)) || (decide (over + (occ (sqI c x y)).toNat ≤ hops) && wayB c r occ dx dy hops n (x + dx) (y + dy) (over + (occ (sqI c x y)).toNat) q))
theorem sqI_lt {c r : Nat} {x y : Int} (hc : c ≤ 6) (hr : r ≤ 6) (h : onB c r x y = true) : sqI c x y < c * r ∧ (sqI c x y : Int) = y * c + x := by
  simp only [onB, decide_eq_true_eq] at h
  obtain ⟨h1, h2, h3, h4⟩ := h
  have h5 : 0 ≤ y * c := Int.mul_nonneg h3 (Int.natCast_nonneg c)
  have e : (sqI c x y : Int) = y * c + x := by rw [sqI]; omega
  refine ⟨?_, e⟩
  have h6 : (y + 1) * c ≤ r * c := Int.mul_le_mul_of_nonneg_right (by omega) (Int.natCast_nonneg c)
  have h7 : ((c * r : Nat) : Int) = r * c := by rw [Int.natCast_mul, Int.mul_comm]
  have h8 : (y + 1) * c = y * c + c := by rw [Int.add_mul, Int.one_mul]
  omega
theorem and_mBit {s : Int64} {k : Nat} (hk : k < 64) : s &&& mBit (nI k) = 0 ↔ lb s k = false := by
  constructor
  · intro h
    have h1 : lb (s &&& mBit (nI k)) k = false := by rw [h, lb_0]
    rw [lb_and, lb_mBit hk hk] at h1
    simpa using h1
  · intro h
    refine lb_ext fun i hi => ?_
    rw [lb_and, lb_mBit hk hi, lb_0]
    by_cases e : i = k
    · subst e; simp [h]
    · simp [e]
theorem cr36 {c r : Nat} (hc : c ≤ 6) (hr : r ≤ 6) : c * r ≤ 36 := Nat.mul_le_mul hc hr

set_option maxRecDepth 100000 in
set_option maxHeartbeats 4000000 in
theorem c_way_31 {ae ad : Nat → Nat} {sh : mSh} {σ : mSt} {p c r h : Nat} {dx dy : Int} (hp : mPos ad sh p) (hc : σ.1 p 2 = nI c) (hr : σ.1 p 3 = nI r) (hc6 : c ≤ 6) (hr6 : r ≤ 6) (hdx : -3 ≤ dx ∧ dx ≤ 3) (hdy : -3 ≤ dy ∧ dy ≤ 3) (hh : h ≤ 1) {fx fy : Int} : ∀ (m i : Nat) (acc : Int64) (x y : Int) (over N : Nat), N = i + m → N ≤ 6 → over ≤ h → -10 ≤ x → x ≤ 10 → -10 ≤ y → y ≤ 10 → Ev RX5 cX5_way 17 false (some .long) (mRm 0 0 0) ae (mEq (some (.long (setL (fun q => lb acc q || wayB c r (fun k => lb (σ.2 p 6 ||| σ.2 p 7) k) dx dy h m x y over q)))) ad sh σ) 31 [some (.ref (ad p)), some (.int (iI fx)), some (.int (iI fy)), some (.int (iI dx)), some (.int (iI dy)), some (.int (nI N)), some (.int (nI h)), some (.long (σ.2 p 6 ||| σ.2 p 7)), none, some (.long acc), none, some (.int (nI over)), some (.int (iI x)), some (.int (iI y)), some (.int (nI i)), none, none] [] 0 0 ad sh σ := by
  intro m
  induction m with
  | zero =>
    intro i acc x y over N hN hN6 ho hx1 hx2 hy1 hy2
    have e : i = N := by omega
    subst e
    refine ev_iload_14 dX5_way_31 ?_
    refine ev_iload_5 dX5_way_33 ?_
    refine ev_icmp_ge (tgt := 136) dX5_way_35 (by decide) (fun h35 => ?_) (fun h35 => absurd (Int32.le_refl _) h35)
    refine ev_lload_9 dX5_way_136 ?_
    exact ev_lret dX5_way_138 (setL_of (fun k hk => by simp [wayB])) rfl
  | succ m ih =>
    intro i acc x y over N hN hN6 ho hx1 hx2 hy1 hy2
    have h36 := cr36 hc6 hr6
    have hb : onB c r x y = false → Ev RX5 cX5_way 17 false (some .long) (mRm 0 0 0) ae (mEq (some (.long (setL (fun q => lb acc q || wayB c r (fun k => lb (σ.2 p 6 ||| σ.2 p 7) k) dx dy h (m + 1) x y over q)))) ad sh σ) 136 [some (.ref (ad p)), some (.int (iI fx)), some (.int (iI fy)), some (.int (iI dx)), some (.int (iI dy)), some (.int (nI N)), some (.int (nI h)), some (.long (σ.2 p 6 ||| σ.2 p 7)), none, some (.long acc), none, some (.int (nI over)), some (.int (iI x)), some (.int (iI y)), some (.int (nI i)), none, none] [] 0 0 ad sh σ := by
      intro hoff
      refine ev_lload_9 dX5_way_136 ?_
      exact ev_lret dX5_way_138 (setL_of (fun k hk => by rw [wayB, hoff]; simp)) rfl
    refine ev_iload_14 dX5_way_31 ?_
    refine ev_iload_5 dX5_way_33 ?_
    refine ev_icmp_ge (tgt := 136) dX5_way_35 (by decide) (fun h35 => absurd h35 (nI_ge (by omega) (by omega))) (fun h35 => ?_)
    refine ev_iload_12 dX5_way_38 ?_
    refine ev_if_lt (tgt := 136) dX5_way_40 (by decide) (fun h40 => ?_) (fun h40 => ?_)
    · first
        | exact hb (decide_eq_false (fun q => absurd ((iI_neg (by omega) (by omega)).mp h40) (by omega)))
        | exact hb (decide_eq_false (fun q => absurd ((iI_le (a := (c : Int)) (b := x) (by omega) (by omega) (by omega) (by omega)).mp (by rw [hc, ← iI_nat] at h49; exact h49)) (by omega)))
        | exact hb (decide_eq_false (fun q => absurd ((iI_neg (by omega) (by omega)).mp h54) (by omega)))
        | exact hb (decide_eq_false (fun q => absurd ((iI_le (a := (r : Int)) (b := y) (by omega) (by omega) (by omega) (by omega)).mp (by rw [hr, ← iI_nat] at h63; exact h63)) (by omega)))
    · have g40 : 0 ≤ x := Int.not_lt.mp (fun q => h40 ((iI_neg (by omega) (by omega)).mpr q))
      refine ev_iload_12 dX5_way_43 ?_
      refine ev_aload_0 dX5_way_45 ?_
      refine gf_X5_88 dX5_way_46 hp.1 rfl ?_
      refine ev_icmp_ge (tgt := 136) dX5_way_49 (by decide) (fun h49 => ?_) (fun h49 => ?_)
      · first
          | exact hb (decide_eq_false (fun q => absurd ((iI_neg (by omega) (by omega)).mp h40) (by omega)))
          | exact hb (decide_eq_false (fun q => absurd ((iI_le (a := (c : Int)) (b := x) (by omega) (by omega) (by omega) (by omega)).mp (by rw [hc, ← iI_nat] at h49; exact h49)) (by omega)))
          | exact hb (decide_eq_false (fun q => absurd ((iI_neg (by omega) (by omega)).mp h54) (by omega)))
          | exact hb (decide_eq_false (fun q => absurd ((iI_le (a := (r : Int)) (b := y) (by omega) (by omega) (by omega) (by omega)).mp (by rw [hr, ← iI_nat] at h63; exact h63)) (by omega)))
      · have g49 : x < c := Int.not_le.mp (fun q => h49 (by rw [hc, ← iI_nat]; exact (iI_le (by omega) (by omega) (by omega) (by omega)).mpr q))
        refine ev_iload_13 dX5_way_52 ?_
        refine ev_if_lt (tgt := 136) dX5_way_54 (by decide) (fun h54 => ?_) (fun h54 => ?_)
        · first
            | exact hb (decide_eq_false (fun q => absurd ((iI_neg (by omega) (by omega)).mp h40) (by omega)))
            | exact hb (decide_eq_false (fun q => absurd ((iI_le (a := (c : Int)) (b := x) (by omega) (by omega) (by omega) (by omega)).mp (by rw [hc, ← iI_nat] at h49; exact h49)) (by omega)))
            | exact hb (decide_eq_false (fun q => absurd ((iI_neg (by omega) (by omega)).mp h54) (by omega)))
            | exact hb (decide_eq_false (fun q => absurd ((iI_le (a := (r : Int)) (b := y) (by omega) (by omega) (by omega) (by omega)).mp (by rw [hr, ← iI_nat] at h63; exact h63)) (by omega)))
        · have g54 : 0 ≤ y := Int.not_lt.mp (fun q => h54 ((iI_neg (by omega) (by omega)).mpr q))
          refine ev_iload_13 dX5_way_57 ?_
          refine ev_aload_0 dX5_way_59 ?_
          refine gf_X5_92 dX5_way_60 hp.1 rfl ?_
          refine ev_icmp_ge (tgt := 136) dX5_way_63 (by decide) (fun h63 => ?_) (fun h63 => ?_)
          · first
              | exact hb (decide_eq_false (fun q => absurd ((iI_neg (by omega) (by omega)).mp h40) (by omega)))
              | exact hb (decide_eq_false (fun q => absurd ((iI_le (a := (c : Int)) (b := x) (by omega) (by omega) (by omega) (by omega)).mp (by rw [hc, ← iI_nat] at h49; exact h49)) (by omega)))
              | exact hb (decide_eq_false (fun q => absurd ((iI_neg (by omega) (by omega)).mp h54) (by omega)))
              | exact hb (decide_eq_false (fun q => absurd ((iI_le (a := (r : Int)) (b := y) (by omega) (by omega) (by omega) (by omega)).mp (by rw [hr, ← iI_nat] at h63; exact h63)) (by omega)))
          · have g63 : y < r := Int.not_le.mp (fun q => h63 (by rw [hr, ← iI_nat]; exact (iI_le (by omega) (by omega) (by omega) (by omega)).mpr q))
            have hon : onB c r x y = true := decide_eq_true ⟨g40, g49, g54, g63⟩
            obtain ⟨hs1, hs2⟩ := sqI_lt hc6 hr6 hon
            have hsq : iI y * nI c + iI x = nI (sqI c x y) := by rw [← iI_nat c, iI_mul, iI_add, ← hs2, iI_nat]
            have k107 : ∀ (acc2 : Int64) (o2 : Nat), o2 = over + (lb (σ.2 p 6 ||| σ.2 p 7) (sqI c x y)).toNat → (∀ k, k < 64 → lb acc2 k = (lb acc k || (decide (over = h) && decide (k = sqI c x y)))) → Ev RX5 cX5_way 17 false (some .long) (mRm 0 0 0) ae (mEq (some (.long (setL (fun q => lb acc q || wayB c r (fun k => lb (σ.2 p 6 ||| σ.2 p 7) k) dx dy h (m + 1) x y over q)))) ad sh σ) 107 [some (.ref (ad p)), some (.int (iI fx)), some (.int (iI fy)), some (.int (iI dx)), some (.int (iI dy)), some (.int (nI N)), some (.int (nI h)), some (.long (σ.2 p 6 ||| σ.2 p 7)), none, some (.long acc2), none, some (.int (nI o2)), some (.int (iI x)), some (.int (iI y)), some (.int (nI i)), some (.long (mBit (nI (sqI c x y)))), none] [] 0 0 ad sh σ := by
              intro acc2 o2 ho2 hacc
              have hocc1 : (lb (σ.2 p 6 ||| σ.2 p 7) (sqI c x y)).toNat ≤ 1 := by cases lb (σ.2 p 6 ||| σ.2 p 7) (sqI c x y) <;> decide
              refine ev_iload_11 dX5_way_107 ?_
              refine ev_iload_6 dX5_way_109 ?_
              refine ev_icmp_le (tgt := 117) dX5_way_111 (by decide) (fun h111 => ?_) (fun h111 => ?_)
              · have g111 : o2 ≤ h := (nI_leI (by omega) (by omega)).mp h111
                refine ev_iload_12 dX5_way_117 ?_
                refine ev_iload_3 dX5_way_119 ?_
                refine ev_iadd dX5_way_120 ?_
                refine ev_istore_12 dX5_way_121 rfl rfl ?_
                refine ev_iload_13 dX5_way_123 ?_
                refine ev_iload_4 dX5_way_125 ?_
                refine ev_iadd dX5_way_127 ?_
                refine ev_istore_13 dX5_way_128 rfl rfl ?_
                refine ev_iinc_14 (v := 1) dX5_way_130 (by decide) rfl rfl ?_
                refine ev_goto (tgt := 31) dX5_way_133 (by decide) ?_
                refine ev_drop_15 ?_
                exact Ev.to (by rw [iI_add, iI_add, nI_1]) rfl rfl (Ev.post (congrArg (fun v => mEq (some (.long v)) ad sh σ) (setL_cong (fun k hk => by rw [hacc k hk, wayB, hon, ← ho2, decide_eq_true g111]; simp [Bool.or_assoc]))) (ih (i + 1) acc2 (x + dx) (y + dy) o2 N (by omega) hN6 g111 (by omega) (by omega) (by omega) (by omega)))
              · refine ev_goto (tgt := 136) dX5_way_114 (by decide) ?_
                refine ev_lload_9 dX5_way_136 ?_
                exact ev_lret dX5_way_138 (setL_of (fun k hk => by rw [hacc k hk, wayB, hon, ← ho2, show decide (o2 ≤ h) = false from decide_eq_false (fun q => h111 (nI_le q (by omega)))]; simp)) rfl
            have k94 : ∀ (acc2 : Int64), (∀ k, k < 64 → lb acc2 k = (lb acc k || (decide (over = h) && decide (k = sqI c x y)))) → Ev RX5 cX5_way 17 false (some .long) (mRm 0 0 0) ae (mEq (some (.long (setL (fun q => lb acc q || wayB c r (fun k => lb (σ.2 p 6 ||| σ.2 p 7) k) dx dy h (m + 1) x y over q)))) ad sh σ) 94 [some (.ref (ad p)), some (.int (iI fx)), some (.int (iI fy)), some (.int (iI dx)), some (.int (iI dy)), some (.int (nI N)), some (.int (nI h)), some (.long (σ.2 p 6 ||| σ.2 p 7)), none, some (.long acc2), none, some (.int (nI over)), some (.int (iI x)), some (.int (iI y)), some (.int (nI i)), some (.long (mBit (nI (sqI c x y)))), none] [] 0 0 ad sh σ := by
              intro acc2 hacc
              refine ev_lload_7 dX5_way_94 ?_
              refine ev_lload_15 dX5_way_96 ?_
              refine ev_land dX5_way_98 ?_
              refine ev_lconst_0 dX5_way_99 ?_
              refine ev_lcmp dX5_way_100 ?_
              refine ev_if_eq (tgt := 107) dX5_way_101 (by decide) (fun h101 => ?_) (fun h101 => ?_)
              · first
                  | exact Ev.to (by rw [nI_1]) rfl rfl (k107 acc2 (over + 1) (by rw [g101]; rfl) hacc)
                  | exact k107 acc2 over (by rw [(and_mBit (by omega)).mp ((lg_cmp_0 _ _).mp h101)]; rfl) hacc
              · have g101 : lb (σ.2 p 6 ||| σ.2 p 7) (sqI c x y) = true := by
                  rcases Bool.eq_false_or_eq_true (lb (σ.2 p 6 ||| σ.2 p 7) (sqI c x y)) with q | q
                  · exact q
                  · exact absurd ((lg_cmp_0 _ _).mpr ((and_mBit (by omega)).mpr q)) h101
                refine ev_iinc_11 (v := 1) dX5_way_104 (by decide) rfl rfl ?_
                first
                  | exact Ev.to (by rw [nI_1]) rfl rfl (k107 acc2 (over + 1) (by rw [g101]; rfl) hacc)
                  | exact k107 acc2 over (by rw [(and_mBit (by omega)).mp ((lg_cmp_0 _ _).mp h101)]; rfl) hacc
            refine ev_lconst_1 dX5_way_66 ?_
            refine ev_iload_13 dX5_way_67 ?_
            refine ev_aload_0 dX5_way_69 ?_
            refine gf_X5_88 dX5_way_70 hp.1 rfl ?_
            refine ev_imul dX5_way_73 ?_
            refine ev_iload_12 dX5_way_74 ?_
            refine ev_iadd dX5_way_76 ?_
            refine ev_lshl dX5_way_77 ?_
            rw [hc, hsq, show (1 : Int64) <<< ((nI (sqI c x y)).toInt64 &&& 63) = mBit (nI (sqI c x y)) from rfl]
            refine ev_lstore_15 dX5_way_78 rfl rfl ?_
            refine ev_iload_11 dX5_way_80 ?_
            refine ev_iload_6 dX5_way_82 ?_
            refine ev_icmp_ne (tgt := 94) dX5_way_84 (by decide) (fun h84 => ?_) (fun h84 => ?_)
            · first
                | exact k94 acc (fun k hk => by rw [show decide (over = h) = false from decide_eq_false (fun q => h84 (by rw [q]))]; simp)
                | exact k94 _ (fun k hk => by rw [lb_or, lb_mBit (by omega) hk, show decide (over = h) = true from decide_eq_true ((nI_eq (by omega) (by omega)).mp (Decidable.not_not.mp h84))]; simp)
                | exact k94 _ (fun k hk => by rw [lb_or, lb_mBit (by omega) hk, show decide (over = h) = true from decide_eq_true ((nI_eq (by omega) (by omega)).mp h84)]; simp)
            · refine ev_lload_9 dX5_way_87 ?_
              refine ev_lload_15 dX5_way_89 ?_
              refine ev_lor dX5_way_91 ?_
              refine ev_lstore_9 dX5_way_92 rfl rfl ?_
              first
                | exact k94 acc (fun k hk => by rw [show decide (over = h) = false from decide_eq_false (fun q => h84 (by rw [q]))]; simp)
                | exact k94 _ (fun k hk => by rw [lb_or, lb_mBit (by omega) hk, show decide (over = h) = true from decide_eq_true ((nI_eq (by omega) (by omega)).mp (Decidable.not_not.mp h84))]; simp)
                | exact k94 _ (fun k hk => by rw [lb_or, lb_mBit (by omega) hk, show decide (over = h) = true from decide_eq_true ((nI_eq (by omega) (by omega)).mp h84)]; simp)
set_option maxRecDepth 100000 in
set_option maxHeartbeats 4000000 in
theorem c_way {ae ad : Nat → Nat} {sh : mSh} {σ : mSt} {p c r h : Nat} {dx dy : Int} (hp : mPos ad sh p) (hc : σ.1 p 2 = nI c) (hr : σ.1 p 3 = nI r) (hc6 : c ≤ 6) (hr6 : r ≤ 6) (hdx : -3 ≤ dx ∧ dx ≤ 3) (hdy : -3 ≤ dy ∧ dy ≤ 3) (hh : h ≤ 1) {fx fy : Int} {N : Nat} (hN : N ≤ 6) (hfx : 0 ≤ fx ∧ fx ≤ 5) (hfy : 0 ≤ fy ∧ fy ≤ 5) : Ct yX5_way cX5_way 17 (some .long) 0 0 0 [.ref (ad p), .int (iI fx), .int (iI fy), .int (iI dx), .int (iI dy), .int (nI N), .int (nI h)] ae ad sh σ (mEq (some (.long (setL (wayB c r (fun k => lb (σ.2 p 6 ||| σ.2 p 7) k) dx dy h N (fx + dx) (fy + dy) 0)))) ad sh σ) := by
  refine Ct.ofL (own := RX5) (ini := false) (ls := [some (.ref (ad p)), some (.int (iI fx)), some (.int (iI fy)), some (.int (iI dx)), some (.int (iI dy)), some (.int (nI N)), some (.int (nI h)), none, none, none, none, none, none, none, none, none, none]) (by decide +kernel) rfl (fun h => by cases h) (Nat.le_of_ble_eq_true rfl) rfl ?_
  refine ev_aload_0 dX5_way_0 ?_
  refine gf_X5_15 dX5_way_1 hp.1 rfl ?_
  refine ev_aload_0 dX5_way_4 ?_
  refine gf_X5_21 dX5_way_5 hp.1 rfl ?_
  refine ev_lor dX5_way_8 ?_
  refine ev_lstore_7 dX5_way_9 rfl rfl ?_
  refine ev_lconst_0 dX5_way_11 ?_
  refine ev_lstore_9 dX5_way_12 rfl rfl ?_
  refine ev_iconst_0 dX5_way_14 ?_
  refine ev_istore_11 dX5_way_15 rfl rfl ?_
  refine ev_iload_1 dX5_way_17 ?_
  refine ev_iload_3 dX5_way_18 ?_
  refine ev_iadd dX5_way_19 ?_
  refine ev_istore_12 dX5_way_20 rfl rfl ?_
  refine ev_iload_2 dX5_way_22 ?_
  refine ev_iload_4 dX5_way_23 ?_
  refine ev_iadd dX5_way_25 ?_
  refine ev_istore_13 dX5_way_26 rfl rfl ?_
  refine ev_iconst_0 dX5_way_28 ?_
  refine ev_istore_14 dX5_way_29 rfl rfl ?_
  exact Ev.to (by rw [iI_add, iI_add]; rfl) rfl rfl (Ev.post (congrArg (fun v => mEq (some (.long v)) ad sh σ) (setL_cong (fun k hk => by rw [lb_0, Bool.false_or]))) (c_way_31 hp hc hr hc6 hr6 hdx hdy hh N 0 0 (fx + dx) (fy + dy) 0 N (by omega) hN (Nat.zero_le _) (by omega) (by omega) (by omega) (by omega)))
