def anyF (f : Nat → Bool) (a : Nat) : Nat → Bool
  | 0 => false
  | n + 1 => anyF f a n || f (a + n)
theorem anyF_cong {f g : Nat → Bool} {a n : Nat} (h : ∀ i, a ≤ i → i < a + n → f i = g i) : anyF f a n = anyF g a n := by
  induction n with
  | zero => rfl
  | succ n ih => rw [anyF, anyF, ih (fun i h1 h2 => h i h1 (by omega)), h (a + n) (by omega) (by omega)]
theorem anyF_iff {f : Nat → Bool} {a n : Nat} : anyF f a n = true ↔ ∃ i, a ≤ i ∧ i < a + n ∧ f i = true := by
  induction n with
  | zero => simp [anyF]; intro i h1 h2; omega
  | succ n ih =>
    rw [anyF, Bool.or_eq_true, ih]
    constructor
    · rintro (⟨i, h1, h2, h3⟩ | h)
      · exact ⟨i, h1, by omega, h3⟩
      · exact ⟨a + n, by omega, by omega, h⟩
    · rintro ⟨i, h1, h2, h3⟩
      rcases Nat.lt_or_ge i (a + n) with q | q
      · exact Or.inl ⟨i, h1, q, h3⟩
      · have e : i = a + n := by omega
        subst e
        exact Or.inr h3
def sx (s : Nat) : Int := (mSTEPX.getD s 0).toInt
def sy (s : Nat) : Int := (mSTEPY.getD s 0).toInt
theorem sxy_ok : ∀ s, s < 32 → mSTEPX.getD s 0 = iI (sx s) ∧ mSTEPY.getD s 0 = iI (sy s) ∧ (-3 ≤ sx s ∧ sx s ≤ 3) ∧ (-3 ≤ sy s ∧ sy s ≤ 3) := by decide +kernel
def stepB (c r : Nat) (occ : Nat → Bool) (x y : Nat) (fw : Int) (h rc : Nat) (dm : Int32) (s q : Nat) : Bool := bt dm s && wayB c r occ (sx s) (fw * sy s) h rc (x + sx s) (y + fw * sy s) 0 q
def wantB (mk : Int32) (em ot : Nat → Bool) (q : Nat) : Bool := (decide (¬ mk &&& 1 = 0) && em q) || (decide (¬ mk &&& 2 = 0) && ot q)
def hopN (mk : Int32) : Nat := if mk &&& 32 = 0 then 0 else 1
def partB (c r : Nat) (occ em ot : Nat → Bool) (x y : Nat) (fw : Int) (MK DM : Nat → Int32) (AT RC : Nat → Nat) (e q : Nat) : Bool := wantB (MK e) em ot q && anyF (fun s => stepB c r occ x y fw (hopN (MK e)) (RC e) (DM e) s q) (aStart (AT e)) (aEnd (AT e) - aStart (AT e))
def clN (f : Nat → Int32) (k : Nat) : Nat := (f k).toNatClampNeg
theorem bt_test {x : Int32} {s : Nat} (hs : s < 32) : x >>> (nI s &&& 31) &&& 1 = 0 ↔ bt x s = false := by
  have h1 : ∀ i, i < 32 → bt (1 : Int32) i = decide (i = 0) := by decide +kernel
  constructor
  · intro h
    have h2 : bt (x >>> (nI s &&& 31) &&& 1) 0 = false := by rw [h]; exact b_0 0
    rw [b_and, b_sshr s hs x (by decide), h1 0 (by decide)] at h2
    simpa [hs] using h2
  · intro h
    refine b_ext fun i hi => ?_
    rw [b_and, h1 i hi, b_0]
    by_cases e : i = 0
    · subst e
      rw [b_sshr s hs x (by decide)]
      simp [hs, h]
    · simp [e]
theorem iI1 : (1 : Int32) = iI 1 := rfl
theorem iIm1 : (-1 : Int32) = iI (-1) := rfl
theorem nI_div {a b : Nat} (ha : a < 2 ^ 31) (hb : 0 < b) (hb2 : b < 2 ^ 31) : nI a / nI b = nI (a / b) := by
  rw [fa_eq, Int32.toInt_div_of_ne_left, nI_toInt ha, nI_toInt hb2, nI_toInt (Nat.lt_of_le_of_lt (Nat.div_le_self a b) ha)]
  · rfl
  · intro h
    rw [fa_eq, nI_toInt ha] at h
    have : (Int32.minValue).toInt = -2147483648 := by decide
    omega

set_option maxRecDepth 100000 in
set_option maxHeartbeats 4000000 in
theorem c_ends_209 {ae ad : Nat → Nat} {sh : mSh} {σ : mSt} {p c r : Nat} (hp : mPos ad sh p) (hc : σ.1 p 2 = nI c) (hr : σ.1 p 3 = nI r) (hc6 : c ≤ 6) (hr6 : r ≤ 6) {y0 l : Nat} (hy : mPlay ad sh y0 l) {em ot : Int64} {q0 mm X Y e0 np : Nat} {fw : Int} (hX : X ≤ 5) (hY : Y ≤ 5) (hfw : fw = 1 ∨ fw = -1) {e h rc a : Nat} {dm mk : Int32} {acc0 wt : Int64} (hh : h ≤ 1) (hrc : rc ≤ 6) (ha : a < 7) (K : ∀ acc : Int64, (∀ k, k < 64 → lb acc k = (lb acc0 k || (lb wt k && anyF (fun s => stepB c r (fun k => lb (σ.2 p 6 ||| σ.2 p 7) k) X Y fw h rc dm s k) (aStart a) (aEnd a - aStart a)))) → Ev RX5 cX5_ends 26 false (some .long) (mRm 1 0 0) ae (mEq (some (.long (setL (fun k => anyF (fun e => partB c r (fun k => lb (σ.2 p 6 ||| σ.2 p 7) k) (fun k => lb em k) (fun k => lb ot k) X Y fw (σ.1 (l + 3)) (σ.1 (l + 5)) (clN (σ.1 (l + 2))) (clN (σ.1 (l + 4))) e k) e0 np)))) ad sh σ) 275 [some (.ref (ad y0)), some (.ref (ad p)), some (.int (nI q0)), some (.long em), none, some (.long ot), none, some (.int (nI mm)), some (.int (iI (X : Int))), some (.int (iI (Y : Int))), some (.int (iI fw)), some (.int (nI e0)), some (.int (nI (e0 + np))), some (.long acc), none, some (.int (nI e)), none, none, none, none, none, none, none, none, none, none] [] 0 0 ad sh σ) : ∀ (n i : Nat), aEnd a - aStart a - i = n → i ≤ aEnd a - aStart a → ∀ acc : Int64, (∀ k, k < 64 → lb acc k = (lb acc0 k || (lb wt k && anyF (fun s => stepB c r (fun k => lb (σ.2 p 6 ||| σ.2 p 7) k) X Y fw h rc dm s k) (aStart a) i))) → Ev RX5 cX5_ends 26 false (some .long) (mRm 1 0 0) ae (mEq (some (.long (setL (fun k => anyF (fun e => partB c r (fun k => lb (σ.2 p 6 ||| σ.2 p 7) k) (fun k => lb em k) (fun k => lb ot k) X Y fw (σ.1 (l + 3)) (σ.1 (l + 5)) (clN (σ.1 (l + 2))) (clN (σ.1 (l + 4))) e k) e0 np)))) ad sh σ) 209 [some (.ref (ad y0)), some (.ref (ad p)), some (.int (nI q0)), some (.long em), none, some (.long ot), none, some (.int (nI mm)), some (.int (iI (X : Int))), some (.int (iI (Y : Int))), some (.int (iI fw)), some (.int (nI e0)), some (.int (nI (e0 + np))), some (.long acc), none, some (.int (nI e)), some (.int mk), some (.long wt), none, some (.int (nI h)), some (.int (nI rc)), some (.int dm), some (.int (nI a)), some (.int (nI (aEnd a))), some (.int (nI (aStart a + i))), none] [] 0 0 ad sh σ := by
  have hA := aEnd_le a ha
  intro n
  induction n with
  | zero =>
    intro i hn hi acc hacc
    have e9 : i = aEnd a - aStart a := by omega
    subst e9
    refine ev_iload_24 dX5_ends_209 ?_
    refine ev_iload_23 dX5_ends_211 ?_
    refine ev_icmp_ge (tgt := 275) dX5_ends_213 (by decide) (fun h213 => ?_) (fun h213 => absurd (nI_le (by omega) (by omega)) h213)
    refine ev_drop_16 ?_
    refine ev_drop_17 ?_
    refine ev_drop_19 ?_
    refine ev_drop_20 ?_
    refine ev_drop_21 ?_
    refine ev_drop_22 ?_
    refine ev_drop_23 ?_
    refine ev_drop_24 ?_
    refine ev_drop_25 ?_
    exact K acc hacc
  | succ n ih =>
    intro i hn hi acc hacc
    have hs32 : aStart a + i < 32 := by omega
    obtain ⟨s1, s2, s3, s4⟩ := sxy_ok (aStart a + i) hs32
    refine ev_iload_24 dX5_ends_209 ?_
    refine ev_iload_23 dX5_ends_211 ?_
    refine ev_icmp_ge (tgt := 275) dX5_ends_213 (by decide) (fun h213 => absurd h213 (nI_ge (by omega) (by omega))) (fun h213 => ?_)
    refine ev_iload_21 dX5_ends_216 ?_
    refine ev_iload_24 dX5_ends_218 ?_
    refine ev_ishr dX5_ends_220 ?_
    refine ev_iconst_1 dX5_ends_221 ?_
    refine ev_iand dX5_ends_222 ?_
    refine ev_if_eq (tgt := 269) dX5_ends_223 (by decide) (fun h223 => ?_) (fun h223 => ?_)
    · refine ev_iinc_24 (v := 1) dX5_ends_269 (by decide) rfl rfl ?_
      refine ev_goto (tgt := 209) dX5_ends_272 (by decide) ?_
      refine ev_drop_25 ?_
      first
        | exact Ev.to (by rw [nI_1, Nat.add_assoc]) rfl rfl (ih (i + 1) (by omega) (by omega) acc (fun k hk => by rw [hacc k hk, anyF, show stepB c r (fun k => lb (σ.2 p 6 ||| σ.2 p 7) k) X Y fw h rc dm (aStart a + i) k = false by rw [stepB, (bt_test hs32).mp h223]; rfl]; simp))
        | exact Ev.to (by rw [nI_1, Nat.add_assoc]) rfl rfl (ih (i + 1) (by omega) (by omega) _ (fun k hk => by rw [lb_or, lb_and, lb_setL hk, hacc k hk, anyF, stepB, show bt dm (aStart a + i) = true from ts_nf (fun q => h223 ((bt_test hs32).mpr q))]; cases lb wt k <;> simp [Bool.or_assoc]))
    · refine ev_iload_10 dX5_ends_226 ?_
      refine ev_gets (j := 1) (by decide) fl_X5_78 dX5_ends_228 ?_
      refine ev_iload_24 dX5_ends_231 ?_
      refine cl_X5_56 (c_cellT (j := 1) (by decide) (by decide)) dX5_ends_233 rfl (Nat.le_of_ble_eq_true rfl) ?_
      rw [cellV_nI (by omega) (show aStart a + i < (mTab 1).length by show _ < 32; omega), show (mTab 1).getD (aStart a + i) 0 = iI (sy (aStart a + i)) from s2]
      refine ev_imul dX5_ends_236 ?_
      rw [iI_mul]
      refine ev_istore_25 dX5_ends_237 rfl rfl ?_
      refine ev_lload_13 dX5_ends_239 ?_
      refine ev_lload_17 dX5_ends_241 ?_
      refine ev_aload_1 dX5_ends_243 ?_
      refine ev_iload_8 dX5_ends_244 ?_
      refine ev_iload_9 dX5_ends_246 ?_
      refine ev_gets (j := 0) (by decide) fl_X5_81 dX5_ends_248 ?_
      refine ev_iload_24 dX5_ends_251 ?_
      refine cl_X5_56 (c_cellT (j := 0) (by decide) (by decide)) dX5_ends_253 rfl (Nat.le_of_ble_eq_true rfl) ?_
      rw [cellV_nI (by omega) (show aStart a + i < (mTab 0).length by show _ < 32; omega), show (mTab 0).getD (aStart a + i) 0 = iI (sx (aStart a + i)) from s1]
      refine ev_iload_25 dX5_ends_256 ?_
      refine ev_iload_20 dX5_ends_258 ?_
      refine ev_iload_19 dX5_ends_260 ?_
      refine cl_X5_84 (c_way hp hc hr hc6 hr6 s3 (by rcases hfw with rfl | rfl <;> omega) hh hrc (by omega) (by omega)) dX5_ends_262 rfl (Nat.le_of_ble_eq_true rfl) ?_
      refine ev_land dX5_ends_265 ?_
      refine ev_lor dX5_ends_266 ?_
      refine ev_lstore_13 dX5_ends_267 rfl rfl ?_
      refine ev_iinc_24 (v := 1) dX5_ends_269 (by decide) rfl rfl ?_
      refine ev_goto (tgt := 209) dX5_ends_272 (by decide) ?_
      refine ev_drop_25 ?_
      first
        | exact Ev.to (by rw [nI_1, Nat.add_assoc]) rfl rfl (ih (i + 1) (by omega) (by omega) acc (fun k hk => by rw [hacc k hk, anyF, show stepB c r (fun k => lb (σ.2 p 6 ||| σ.2 p 7) k) X Y fw h rc dm (aStart a + i) k = false by rw [stepB, (bt_test hs32).mp h223]; rfl]; simp))
        | exact Ev.to (by rw [nI_1, Nat.add_assoc]) rfl rfl (ih (i + 1) (by omega) (by omega) _ (fun k hk => by rw [lb_or, lb_and, lb_setL hk, hacc k hk, anyF, stepB, show bt dm (aStart a + i) = true from ts_nf (fun q => h223 ((bt_test hs32).mpr q))]; cases lb wt k <;> simp [Bool.or_assoc]))
set_option maxRecDepth 100000 in
set_option maxHeartbeats 4000000 in
theorem c_ends_73 {ae ad : Nat → Nat} {sh : mSh} {σ : mSt} {p c r : Nat} (hp : mPos ad sh p) (hc : σ.1 p 2 = nI c) (hr : σ.1 p 3 = nI r) (hc6 : c ≤ 6) (hr6 : r ≤ 6) {y0 l : Nat} (hy : mPlay ad sh y0 l) {em ot : Int64} {q0 mm X Y e0 np : Nat} {fw : Int} (hX : X ≤ 5) (hY : Y ≤ 5) (hfw : fw = 1 ∨ fw = -1) (he36 : e0 + np ≤ 36) (hAT : ∀ e, e0 ≤ e → e < e0 + np → σ.1 (l + 2) e = nI (clN (σ.1 (l + 2)) e) ∧ clN (σ.1 (l + 2)) e < 7) (hRC : ∀ e, e0 ≤ e → e < e0 + np → σ.1 (l + 4) e = nI (clN (σ.1 (l + 4)) e) ∧ clN (σ.1 (l + 4)) e ≤ 6) : ∀ (n j : Nat), np - j = n → j ≤ np → ∀ acc : Int64, (∀ k, k < 64 → lb acc k = anyF (fun e => partB c r (fun k => lb (σ.2 p 6 ||| σ.2 p 7) k) (fun k => lb em k) (fun k => lb ot k) X Y fw (σ.1 (l + 3)) (σ.1 (l + 5)) (clN (σ.1 (l + 2))) (clN (σ.1 (l + 4))) e k) e0 j) → Ev RX5 cX5_ends 26 false (some .long) (mRm 1 0 0) ae (mEq (some (.long (setL (fun k => anyF (fun e => partB c r (fun k => lb (σ.2 p 6 ||| σ.2 p 7) k) (fun k => lb em k) (fun k => lb ot k) X Y fw (σ.1 (l + 3)) (σ.1 (l + 5)) (clN (σ.1 (l + 2))) (clN (σ.1 (l + 4))) e k) e0 np)))) ad sh σ) 73 [some (.ref (ad y0)), some (.ref (ad p)), some (.int (nI q0)), some (.long em), none, some (.long ot), none, some (.int (nI mm)), some (.int (iI (X : Int))), some (.int (iI (Y : Int))), some (.int (iI fw)), some (.int (nI e0)), some (.int (nI (e0 + np))), some (.long acc), none, some (.int (nI (e0 + j))), none, none, none, none, none, none, none, none, none, none] [] 0 0 ad sh σ := by
  intro n
  induction n with
  | zero =>
    intro j hn hi acc hacc
    have e9 : j = np := by omega
    subst e9
    refine ev_iload_15 dX5_ends_73 ?_
    refine ev_iload_12 dX5_ends_75 ?_
    refine ev_icmp_ge (tgt := 281) dX5_ends_77 (by decide) (fun h77 => ?_) (fun h77 => absurd (Int32.le_refl _) h77)
    refine ev_lload_13 dX5_ends_281 ?_
    exact ev_lret dX5_ends_283 (setL_of hacc) rfl
  | succ n ih =>
    intro j hn hi acc hacc
    obtain ⟨t1, t2⟩ := hAT (e0 + j) (by omega) (by omega)
    obtain ⟨t3, t4⟩ := hRC (e0 + j) (by omega) (by omega)
    have he : e0 + j < 36 := by omega
    have k275 : ∀ acc2 : Int64, (∀ k, k < 64 → lb acc2 k = (lb acc k || partB c r (fun k => lb (σ.2 p 6 ||| σ.2 p 7) k) (fun k => lb em k) (fun k => lb ot k) X Y fw (σ.1 (l + 3)) (σ.1 (l + 5)) (clN (σ.1 (l + 2))) (clN (σ.1 (l + 4))) (e0 + j) k)) → Ev RX5 cX5_ends 26 false (some .long) (mRm 1 0 0) ae (mEq (some (.long (setL (fun k => anyF (fun e => partB c r (fun k => lb (σ.2 p 6 ||| σ.2 p 7) k) (fun k => lb em k) (fun k => lb ot k) X Y fw (σ.1 (l + 3)) (σ.1 (l + 5)) (clN (σ.1 (l + 2))) (clN (σ.1 (l + 4))) e k) e0 np)))) ad sh σ) 275 [some (.ref (ad y0)), some (.ref (ad p)), some (.int (nI q0)), some (.long em), none, some (.long ot), none, some (.int (nI mm)), some (.int (iI (X : Int))), some (.int (iI (Y : Int))), some (.int (iI fw)), some (.int (nI e0)), some (.int (nI (e0 + np))), some (.long acc2), none, some (.int (nI (e0 + j))), none, none, none, none, none, none, none, none, none, none] [] 0 0 ad sh σ := by
      intro acc2 h2
      refine ev_iinc_15 (v := 1) dX5_ends_275 (by decide) rfl rfl ?_
      refine ev_goto (tgt := 73) dX5_ends_278 (by decide) ?_
      exact Ev.to (by rw [nI_1, Nat.add_assoc]) rfl rfl (ih (j + 1) (by omega) (by omega) acc2 (fun k hk => by rw [h2 k hk, hacc k hk, anyF]))
    have k147 : ∀ (wt : Int64) (hops : Nat), hops = hopN (σ.1 (l + 3) (e0 + j)) → (∀ k, k < 64 → lb wt k = wantB (σ.1 (l + 3) (e0 + j)) (fun k => lb em k) (fun k => lb ot k) k) → Ev RX5 cX5_ends 26 false (some .long) (mRm 1 0 0) ae (mEq (some (.long (setL (fun k => anyF (fun e => partB c r (fun k => lb (σ.2 p 6 ||| σ.2 p 7) k) (fun k => lb em k) (fun k => lb ot k) X Y fw (σ.1 (l + 3)) (σ.1 (l + 5)) (clN (σ.1 (l + 2))) (clN (σ.1 (l + 4))) e k) e0 np)))) ad sh σ) 147 [some (.ref (ad y0)), some (.ref (ad p)), some (.int (nI q0)), some (.long em), none, some (.long ot), none, some (.int (nI mm)), some (.int (iI (X : Int))), some (.int (iI (Y : Int))), some (.int (iI fw)), some (.int (nI e0)), some (.int (nI (e0 + np))), some (.long acc), none, some (.int (nI (e0 + j))), some (.int (σ.1 (l + 3) (e0 + j))), some (.long wt), none, some (.int (nI hops)), none, none, none, none, none, none] [] 0 0 ad sh σ := by
      intro wt hops hhops hwt
      have hops1 : hops ≤ 1 := by rw [hhops, hopN]; split <;> decide
      refine ev_aload_0 dX5_ends_147 ?_
      refine gf_X5_9 dX5_ends_148 hy.1 rfl ?_
      refine gf_X5_63 dX5_ends_151 hy.2.1 rfl ?_
      refine ev_iload_15 dX5_ends_154 ?_
      refine cl_X5_56 (c_cell hy.2.2.2.2.2.1 (by decide)) dX5_ends_156 rfl (Nat.le_of_ble_eq_true rfl) ?_
      rw [cellV_nI (by omega) he]
      rw [t3]
      refine ev_istore_20 dX5_ends_159 rfl rfl ?_
      refine ev_aload_0 dX5_ends_161 ?_
      refine gf_X5_9 dX5_ends_162 hy.1 rfl ?_
      refine gf_X5_66 dX5_ends_165 hy.2.1 rfl ?_
      refine ev_iload_15 dX5_ends_168 ?_
      refine cl_X5_56 (c_cell hy.2.2.2.2.2.2.1 (by decide)) dX5_ends_170 rfl (Nat.le_of_ble_eq_true rfl) ?_
      rw [cellV_nI (by omega) he]
      refine ev_istore_21 dX5_ends_173 rfl rfl ?_
      refine ev_aload_0 dX5_ends_175 ?_
      refine gf_X5_9 dX5_ends_176 hy.1 rfl ?_
      refine gf_X5_69 dX5_ends_179 hy.2.1 rfl ?_
      refine ev_iload_15 dX5_ends_182 ?_
      refine cl_X5_56 (c_cell hy.2.2.2.1 (by decide)) dX5_ends_184 rfl (Nat.le_of_ble_eq_true rfl) ?_
      rw [cellV_nI (by omega) he]
      rw [t1]
      refine ev_istore_22 dX5_ends_187 rfl rfl ?_
      refine ev_gets (j := 3) (by decide) fl_X5_72 dX5_ends_189 ?_
      refine ev_iload_22 dX5_ends_192 ?_
      refine cl_X5_56 (c_cellT (j := 3) (by decide) (by decide)) dX5_ends_194 rfl (Nat.le_of_ble_eq_true rfl) ?_
      rw [cellV_nI (by omega) (show clN (σ.1 (l + 2)) (e0 + j) < (mTab 3).length from t2), show (mTab 3).getD (clN (σ.1 (l + 2)) (e0 + j)) 0 = nI (aEnd (clN (σ.1 (l + 2)) (e0 + j))) from (aS_nI _ t2).2]
      refine ev_istore_23 dX5_ends_197 rfl rfl ?_
      refine ev_gets (j := 2) (by decide) fl_X5_75 dX5_ends_199 ?_
      refine ev_iload_22 dX5_ends_202 ?_
      refine cl_X5_56 (c_cellT (j := 2) (by decide) (by decide)) dX5_ends_204 rfl (Nat.le_of_ble_eq_true rfl) ?_
      rw [cellV_nI (by omega) (show clN (σ.1 (l + 2)) (e0 + j) < (mTab 2).length from t2), show (mTab 2).getD (clN (σ.1 (l + 2)) (e0 + j)) 0 = nI (aStart (clN (σ.1 (l + 2)) (e0 + j))) from (aS_nI _ t2).1]
      refine ev_istore_24 dX5_ends_207 rfl rfl ?_
      exact c_ends_209 (acc0 := acc) (wt := wt) hp hc hr hc6 hr6 hy hX hY hfw hops1 t4 t2 (fun acc2 h2 => k275 acc2 (fun k hk => by rw [h2 k hk, hwt k hk, partB, hhops])) _ 0 rfl (Nat.zero_le _) acc (fun k hk => by simp [anyF])
    have k122 : ∀ (wt : Int64), (∀ k, k < 64 → lb wt k = wantB (σ.1 (l + 3) (e0 + j)) (fun k => lb em k) (fun k => lb ot k) k) → Ev RX5 cX5_ends 26 false (some .long) (mRm 1 0 0) ae (mEq (some (.long (setL (fun k => anyF (fun e => partB c r (fun k => lb (σ.2 p 6 ||| σ.2 p 7) k) (fun k => lb em k) (fun k => lb ot k) X Y fw (σ.1 (l + 3)) (σ.1 (l + 5)) (clN (σ.1 (l + 2))) (clN (σ.1 (l + 4))) e k) e0 np)))) ad sh σ) 122 [some (.ref (ad y0)), some (.ref (ad p)), some (.int (nI q0)), some (.long em), none, some (.long ot), none, some (.int (nI mm)), some (.int (iI (X : Int))), some (.int (iI (Y : Int))), some (.int (iI fw)), some (.int (nI e0)), some (.int (nI (e0 + np))), some (.long acc), none, some (.int (nI (e0 + j))), some (.int (σ.1 (l + 3) (e0 + j))), some (.long wt), none, none, none, none, none, none, none, none] [] 0 0 ad sh σ := by
      intro wt hwt
      refine ev_lload_17 dX5_ends_122 ?_
      refine ev_lconst_0 dX5_ends_124 ?_
      refine ev_lcmp dX5_ends_125 ?_
      refine ev_if_ne (tgt := 132) dX5_ends_126 (by decide) (fun h126 => ?_) (fun h126 => ?_)
      · refine ev_iload_16 dX5_ends_132 ?_
        refine ev_bipush_32 dX5_ends_134 ?_
        refine ev_iand dX5_ends_136 ?_
        refine ev_if_eq (tgt := 144) dX5_ends_137 (by decide) (fun h137 => ?_) (fun h137 => ?_)
        · refine ev_iconst_0 dX5_ends_144 ?_
          refine ev_istore_19 dX5_ends_145 rfl rfl ?_
          first
            | exact k147 wt 1 (by rw [hopN, if_neg h137]) hwt
            | exact k147 wt 0 (by rw [hopN, if_pos h137]) hwt
        · refine ev_iconst_1 dX5_ends_140 ?_
          refine ev_goto (tgt := 145) dX5_ends_141 (by decide) ?_
          refine ev_istore_19 dX5_ends_145 rfl rfl ?_
          first
            | exact k147 wt 1 (by rw [hopN, if_neg h137]) hwt
            | exact k147 wt 0 (by rw [hopN, if_pos h137]) hwt
      · refine ev_goto (tgt := 275) dX5_ends_129 (by decide) ?_
        refine ev_drop_16 ?_
        refine ev_drop_17 ?_
        exact k275 acc (fun k hk => by
          have hz : wt = 0 := by first | exact (lg_cmp_0 _ _).mp h126 | exact (lg_cmp_0 _ _).mp (Decidable.not_not.mp h126)
          have hw := hwt k hk
          rw [hz, lb_0] at hw
          rw [partB, ← hw]; simp)
    refine ev_iload_15 dX5_ends_73 ?_
    refine ev_iload_12 dX5_ends_75 ?_
    refine ev_icmp_ge (tgt := 281) dX5_ends_77 (by decide) (fun h77 => absurd h77 (nI_ge (by omega) (by omega))) (fun h77 => ?_)
    refine ev_aload_0 dX5_ends_80 ?_
    refine gf_X5_9 dX5_ends_81 hy.1 rfl ?_
    refine gf_X5_60 dX5_ends_84 hy.2.1 rfl ?_
    refine ev_iload_15 dX5_ends_87 ?_
    refine cl_X5_56 (c_cell hy.2.2.2.2.1 (by decide)) dX5_ends_89 rfl (Nat.le_of_ble_eq_true rfl) ?_
    rw [cellV_nI (by omega) he]
    refine ev_istore_16 dX5_ends_92 rfl rfl ?_
    refine ev_iload_16 dX5_ends_94 ?_
    refine ev_iconst_1 dX5_ends_96 ?_
    refine ev_iand dX5_ends_97 ?_
    refine ev_if_eq (tgt := 105) dX5_ends_98 (by decide) (fun h98 => ?_) (fun h98 => ?_)
    · refine ev_lconst_0 dX5_ends_105 ?_
      refine ev_iload_16 dX5_ends_106 ?_
      refine ev_iconst_2 dX5_ends_108 ?_
      refine ev_iand dX5_ends_109 ?_
      refine ev_if_eq (tgt := 118) dX5_ends_110 (by decide) (fun h110 => ?_) (fun h110 => ?_)
      · refine ev_lconst_0 dX5_ends_118 ?_
        refine ev_lor dX5_ends_119 ?_
        refine ev_lstore_17 dX5_ends_120 rfl rfl ?_
        first
          | exact k122 _ (fun k hk => by rw [wantB, decide_eq_true h98, decide_eq_true h110, lb_or]; simp)
          | exact k122 _ (fun k hk => by rw [wantB, decide_eq_true h98, decide_eq_false (fun q => q h110), lb_or, lb_0]; simp)
          | exact k122 _ (fun k hk => by rw [wantB, decide_eq_false (fun q => q h98), decide_eq_true h110, lb_or, lb_0]; simp)
          | exact k122 _ (fun k hk => by rw [wantB, decide_eq_false (fun q => q h98), decide_eq_false (fun q => q h110), lb_or, lb_0]; simp)
      · refine ev_lload_5 dX5_ends_113 ?_
        refine ev_goto (tgt := 119) dX5_ends_115 (by decide) ?_
        refine ev_lor dX5_ends_119 ?_
        refine ev_lstore_17 dX5_ends_120 rfl rfl ?_
        first
          | exact k122 _ (fun k hk => by rw [wantB, decide_eq_true h98, decide_eq_true h110, lb_or]; simp)
          | exact k122 _ (fun k hk => by rw [wantB, decide_eq_true h98, decide_eq_false (fun q => q h110), lb_or, lb_0]; simp)
          | exact k122 _ (fun k hk => by rw [wantB, decide_eq_false (fun q => q h98), decide_eq_true h110, lb_or, lb_0]; simp)
          | exact k122 _ (fun k hk => by rw [wantB, decide_eq_false (fun q => q h98), decide_eq_false (fun q => q h110), lb_or, lb_0]; simp)
    · refine ev_lload_3 dX5_ends_101 ?_
      refine ev_goto (tgt := 106) dX5_ends_102 (by decide) ?_
      refine ev_iload_16 dX5_ends_106 ?_
      refine ev_iconst_2 dX5_ends_108 ?_
      refine ev_iand dX5_ends_109 ?_
      refine ev_if_eq (tgt := 118) dX5_ends_110 (by decide) (fun h110 => ?_) (fun h110 => ?_)
      · refine ev_lconst_0 dX5_ends_118 ?_
        refine ev_lor dX5_ends_119 ?_
        refine ev_lstore_17 dX5_ends_120 rfl rfl ?_
        first
          | exact k122 _ (fun k hk => by rw [wantB, decide_eq_true h98, decide_eq_true h110, lb_or]; simp)
          | exact k122 _ (fun k hk => by rw [wantB, decide_eq_true h98, decide_eq_false (fun q => q h110), lb_or, lb_0]; simp)
          | exact k122 _ (fun k hk => by rw [wantB, decide_eq_false (fun q => q h98), decide_eq_true h110, lb_or, lb_0]; simp)
          | exact k122 _ (fun k hk => by rw [wantB, decide_eq_false (fun q => q h98), decide_eq_false (fun q => q h110), lb_or, lb_0]; simp)
      · refine ev_lload_5 dX5_ends_113 ?_
        refine ev_goto (tgt := 119) dX5_ends_115 (by decide) ?_
        refine ev_lor dX5_ends_119 ?_
        refine ev_lstore_17 dX5_ends_120 rfl rfl ?_
        first
          | exact k122 _ (fun k hk => by rw [wantB, decide_eq_true h98, decide_eq_true h110, lb_or]; simp)
          | exact k122 _ (fun k hk => by rw [wantB, decide_eq_true h98, decide_eq_false (fun q => q h110), lb_or, lb_0]; simp)
          | exact k122 _ (fun k hk => by rw [wantB, decide_eq_false (fun q => q h98), decide_eq_true h110, lb_or, lb_0]; simp)
          | exact k122 _ (fun k hk => by rw [wantB, decide_eq_false (fun q => q h98), decide_eq_false (fun q => q h110), lb_or, lb_0]; simp)
def tyN (m : Nat) : Nat := if 6 < m then m - 7 else m - 1
def sdN (m : Nat) : Nat := if 6 < m then 1 else 0
theorem lI6 : (6 : Int32) = nI 6 := rfl
theorem lI1 : (1 : Int32) = nI 1 := rfl
theorem tyR_nI {m : Nat} (h1 : 1 ≤ m) (h2 : m < 2 ^ 31) : tyR (nI m) = nI (tyN m) := by
  unfold tyR tyN
  by_cases h : 6 < m
  · rw [if_neg (by rw [lI6]; exact nI_ge h h2), if_pos h, lI1, lI6, nI_sub h1, nI_sub (by omega)]
    rw [Nat.sub_sub]
  · rw [if_pos (by rw [lI6]; exact nI_le (by omega) (by decide)), if_neg h, lI1, nI_sub h1]
theorem sdR_nI {m : Nat} (h2 : m < 2 ^ 31) : sdR (nI m) = nI (sdN m) := by
  unfold sdR sdN
  by_cases h : 6 < m
  · rw [if_neg (by rw [lI6]; exact nI_ge h h2), if_pos h]; rfl
  · rw [if_pos (by rw [lI6]; exact nI_le (by omega) (by decide)), if_neg h]; rfl
theorem colI {c q : Nat} (h0 : 0 < c) (hc : c < 2 ^ 31) (hq : q < 2 ^ 31) : (if nI c ≤ 0 then 0 else nI q - nI q / nI c * nI c) = iI ((q % c : Nat) : Int) := by
  rw [if_neg (nI_nle h0 hc), pk_rem hq h0 hc, iI_nat]
theorem rowI {c q : Nat} (h0 : 0 < c) (hc : c < 2 ^ 31) (hq : q < 2 ^ 31) : (if nI c ≤ 0 then 0 else nI q / nI c) = iI ((q / c : Nat) : Int) := by
  rw [if_neg (nI_nle h0 hc), pk_div hq h0 hc, iI_nat]
def fwN (m : Nat) : Int := if 6 < m then -1 else 1
theorem tyN_lt {m : Nat} (h1 : 1 ≤ m) (h2 : m ≤ 12) : tyN m < 6 := by unfold tyN; split <;> omega
set_option maxRecDepth 100000 in
set_option maxHeartbeats 4000000 in
theorem c_ends {ae ad : Nat → Nat} {sh : mSh} {σ : mSt} {p c r : Nat} (hp : mPos ad sh p) (hc : σ.1 p 2 = nI c) (hr : σ.1 p 3 = nI r) (hc6 : c ≤ 6) (hr6 : r ≤ 6) {y0 l : Nat} (hy : mPlay ad sh y0 l) {em ot : Int64} {q0 mm np : Nat} (hq : q0 < c * r) (hm : σ.1 (p + 1) q0 = nI mm) (hm1 : 1 ≤ mm) (hm12 : mm ≤ 12) (hnp : σ.1 (l + 1) (tyN mm) = nI np) (hnp6 : np ≤ 6) (hAT : ∀ e, e < 36 → σ.1 (l + 2) e = nI (clN (σ.1 (l + 2)) e) ∧ clN (σ.1 (l + 2)) e < 7) (hRC : ∀ e, e < 36 → σ.1 (l + 4) e = nI (clN (σ.1 (l + 4)) e) ∧ clN (σ.1 (l + 4)) e ≤ 6) : Ct yX5_ends cX5_ends 26 (some .long) 1 0 0 [.ref (ad y0), .ref (ad p), .int (nI q0), .long em, .long ot] ae ad sh σ (mEq (some (.long (setL (fun k => anyF (fun e => partB c r (fun k => lb (σ.2 p 6 ||| σ.2 p 7) k) (fun k => lb em k) (fun k => lb ot k) (q0 % c) (q0 / c) (fwN mm) (σ.1 (l + 3)) (σ.1 (l + 5)) (clN (σ.1 (l + 2))) (clN (σ.1 (l + 4))) e k) (tyN mm * 6) np)))) ad sh σ) := by
  refine Ct.ofL (own := RX5) (ini := false) (ls := [some (.ref (ad y0)), some (.ref (ad p)), some (.int (nI q0)), some (.long em), none, some (.long ot), none, none, none, none, none, none, none, none, none, none, none, none, none, none, none, none, none, none, none, none]) (by decide +kernel) rfl (fun h => by cases h) (Nat.le_of_ble_eq_true rfl) rfl ?_
  have h36 := cr36 hc6 hr6
  have hc0 : 0 < c := Nat.pos_of_ne_zero (fun e => by rw [e, Nat.zero_mul] at hq; omega)
  have hX : q0 % c ≤ 5 := by have := Nat.mod_lt q0 hc0; omega
  have hY : q0 / c ≤ 5 := by have := Nat.div_lt_of_lt_mul hq; omega
  have ht := tyN_lt hm1 hm12
  refine ev_aload_1 dX5_ends_0 ?_
  refine ev_iload_2 dX5_ends_1 ?_
  refine cl_X5_26 (c_manOn hp) hp.1 dX5_ends_2 rfl (Nat.le_of_ble_eq_true rfl) ?_
  rw [cellV_nI (by omega) (show q0 < 36 by omega), hm]
  refine ev_istore_7 dX5_ends_5 rfl rfl ?_
  refine ev_aload_1 dX5_ends_7 ?_
  refine ev_iload_2 dX5_ends_8 ?_
  refine cl_X5_41 (c_columnOf hp) hp.1 dX5_ends_9 rfl (Nat.le_of_ble_eq_true rfl) ?_
  rw [hc, colI hc0 (by omega) (by omega)]
  refine ev_istore_8 dX5_ends_12 rfl rfl ?_
  refine ev_aload_1 dX5_ends_14 ?_
  refine ev_iload_2 dX5_ends_15 ?_
  refine cl_X5_44 (c_rowOf hp) hp.1 dX5_ends_16 rfl (Nat.le_of_ble_eq_true rfl) ?_
  rw [hc, rowI hc0 (by omega) (by omega)]
  refine ev_istore_9 dX5_ends_19 rfl rfl ?_
  refine ev_iload_7 dX5_ends_21 ?_
  refine cl_X5_30 c_sideOf dX5_ends_23 rfl (Nat.le_of_ble_eq_true rfl) ?_
  rw [sdR_nI (by omega)]
  refine ev_if_ne (tgt := 33) dX5_ends_26 (by decide) (fun h26 => ?_) (fun h26 => ?_)
  · refine ev_iconst_m1 dX5_ends_33 ?_
    refine ev_istore_10 dX5_ends_34 rfl rfl ?_
    refine ev_iload_7 dX5_ends_36 ?_
    refine cl_X5_47 c_typeOf dX5_ends_38 rfl (Nat.le_of_ble_eq_true rfl) ?_
    rw [tyR_nI hm1 (by omega)]
    refine ev_bipush_6 dX5_ends_41 ?_
    refine ev_imul dX5_ends_43 ?_
    rw [lI6, nI_mul]
    refine ev_istore_11 dX5_ends_44 rfl rfl ?_
    refine ev_iload_11 dX5_ends_46 ?_
    refine ev_aload_0 dX5_ends_48 ?_
    refine gf_X5_9 dX5_ends_49 hy.1 rfl ?_
    refine gf_X5_50 dX5_ends_52 hy.2.1 rfl ?_
    refine ev_iload_7 dX5_ends_55 ?_
    refine cl_X5_47 c_typeOf dX5_ends_57 rfl (Nat.le_of_ble_eq_true rfl) ?_
    rw [tyR_nI hm1 (by omega)]
    refine cl_X5_56 (c_cell hy.2.2.1 (by decide)) dX5_ends_60 rfl (Nat.le_of_ble_eq_true rfl) ?_
    rw [cellV_nI (by omega) ht, hnp]
    refine ev_iadd dX5_ends_63 ?_
    rw [nI_add]
    refine ev_istore_12 dX5_ends_64 rfl rfl ?_
    refine ev_lconst_0 dX5_ends_66 ?_
    refine ev_lstore_13 dX5_ends_67 rfl rfl ?_
    refine ev_iload_11 dX5_ends_69 ?_
    refine ev_istore_15 dX5_ends_71 rfl rfl ?_
    first
      | exact Ev.to (by rw [iI1, show (1 : Int) = fwN mm by rw [fwN, if_neg (fun g => absurd h26 (by rw [sdN, if_pos g]; decide))]]; rfl) rfl rfl (c_ends_73 hp hc hr hc6 hr6 hy hX hY (by unfold fwN; split <;> simp) (by omega) (fun e h1 h2 => hAT e (by omega)) (fun e h1 h2 => hRC e (by omega)) np 0 rfl (Nat.zero_le _) 0 (fun k hk => lb_0 k))
      | exact Ev.to (by rw [iIm1, show (-1 : Int) = fwN mm by rw [fwN, if_pos (Decidable.byContradiction (fun g => h26 (by rw [sdN, if_neg g]; rfl)))]]; rfl) rfl rfl (c_ends_73 hp hc hr hc6 hr6 hy hX hY (by unfold fwN; split <;> simp) (by omega) (fun e h1 h2 => hAT e (by omega)) (fun e h1 h2 => hRC e (by omega)) np 0 rfl (Nat.zero_le _) 0 (fun k hk => lb_0 k))
  · refine ev_iconst_1 dX5_ends_29 ?_
    refine ev_goto (tgt := 34) dX5_ends_30 (by decide) ?_
    refine ev_istore_10 dX5_ends_34 rfl rfl ?_
    refine ev_iload_7 dX5_ends_36 ?_
    refine cl_X5_47 c_typeOf dX5_ends_38 rfl (Nat.le_of_ble_eq_true rfl) ?_
    rw [tyR_nI hm1 (by omega)]
    refine ev_bipush_6 dX5_ends_41 ?_
    refine ev_imul dX5_ends_43 ?_
    rw [lI6, nI_mul]
    refine ev_istore_11 dX5_ends_44 rfl rfl ?_
    refine ev_iload_11 dX5_ends_46 ?_
    refine ev_aload_0 dX5_ends_48 ?_
    refine gf_X5_9 dX5_ends_49 hy.1 rfl ?_
    refine gf_X5_50 dX5_ends_52 hy.2.1 rfl ?_
    refine ev_iload_7 dX5_ends_55 ?_
    refine cl_X5_47 c_typeOf dX5_ends_57 rfl (Nat.le_of_ble_eq_true rfl) ?_
    rw [tyR_nI hm1 (by omega)]
    refine cl_X5_56 (c_cell hy.2.2.1 (by decide)) dX5_ends_60 rfl (Nat.le_of_ble_eq_true rfl) ?_
    rw [cellV_nI (by omega) ht, hnp]
    refine ev_iadd dX5_ends_63 ?_
    rw [nI_add]
    refine ev_istore_12 dX5_ends_64 rfl rfl ?_
    refine ev_lconst_0 dX5_ends_66 ?_
    refine ev_lstore_13 dX5_ends_67 rfl rfl ?_
    refine ev_iload_11 dX5_ends_69 ?_
    refine ev_istore_15 dX5_ends_71 rfl rfl ?_
    first
      | exact Ev.to (by rw [iI1, show (1 : Int) = fwN mm by rw [fwN, if_neg (fun g => absurd h26 (by rw [sdN, if_pos g]; decide))]]; rfl) rfl rfl (c_ends_73 hp hc hr hc6 hr6 hy hX hY (by unfold fwN; split <;> simp) (by omega) (fun e h1 h2 => hAT e (by omega)) (fun e h1 h2 => hRC e (by omega)) np 0 rfl (Nat.zero_le _) 0 (fun k hk => lb_0 k))
      | exact Ev.to (by rw [iIm1, show (-1 : Int) = fwN mm by rw [fwN, if_pos (Decidable.byContradiction (fun g => h26 (by rw [sdN, if_neg g]; rfl)))]]; rfl) rfl rfl (c_ends_73 hp hc hr hc6 hr6 hy hX hY (by unfold fwN; split <;> simp) (by omega) (fun e h1 h2 => hAT e (by omega)) (fun e h1 h2 => hRC e (by omega)) np 0 rfl (Nat.zero_le _) 0 (fun k hk => lb_0 k))
