/-! THE SPEC: functions of the reference's row g -/
def cN (g : Nat → Int32) : Nat := clN g 53
def rN (g : Nat → Int32) : Nat := clN g 54
def mN (g : Nat → Int32) (q : Nat) : Nat := clN g (1 + q)
def tuN (g : Nat → Int32) : Nat := clN g 0
def hN (g : Nat → Int32) (i : Nat) : Nat := clN g (37 + i)
def riN (g : Nat → Int32) (k : Nat) : Nat := clN g (49 + k)
def exN (g : Nat → Int32) (k : Nat) : Nat := clN g (184 + 6 * k)
def caN (g : Nat → Int32) (k i : Nat) : Nat := clN g (184 + 6 * k + i)
def pcG (g : Nat → Int32) (t : Nat) : Nat := clN g (60 + 21 * t)
def markG (m : Int32) : Int32 := if m &&& 3 = 0 then m ||| 3 else m
def reachG (d : Int32) : Nat := if d = -1 then 1 else if d = 0 then 5 else d.toNatClampNeg
def mkG (g : Nat → Int32) (t j : Nat) : Int32 := markG (g (61 + 21 * t + 3 * j))
def atG (g : Nat → Int32) (t j : Nat) : Nat := clN g (62 + 21 * t + 3 * j)
def rcG (g : Nat → Int32) (t j : Nat) : Nat := reachG (g (63 + 21 * t + 3 * j))
def dmG (g : Nat → Int32) (t j : Nat) : Int32 := dirM (atG g t j) (mkG g t j)
def royG (g : Nat → Int32) (t : Nat) : Bool := decide (¬ g (58 + 21 * t) = 0)
def occG (g : Nat → Int32) (q : Nat) : Bool := decide (q < 36 ∧ 1 ≤ mN g q)
def isOfG (g : Nat → Int32) (q s : Nat) : Bool := decide (q < 36 ∧ 1 ≤ mN g q ∧ sdN (mN g q) = s)
def fwS (s : Nat) : Int := if s = 0 then 1 else -1
/-- a man of a type and a side on a square gets to a square that passes: em if its part moves, ot if it captures -/
def goG (g : Nat → Int32) (t f s : Nat) (em ot : Nat → Bool) (q : Nat) : Bool := anyF (fun j => partB (cN g) (rN g) (occG g) em ot (f % cN g) (f / cN g) (fwS s) (mkG g t) (dmG g t) (atG g t) (rcG g t) j q) 0 (pcG g t)
def atkG (g : Nat → Int32) (f q : Nat) : Bool := goG g (tyN (mN g f)) f (sdN (mN g f)) (fun _ => false) (fun _ => true) q
/-- a side attacks a square -/
def attG (g : Nat → Int32) (s q : Nat) : Bool := anyF (fun f => isOfG g f s && atkG g f q) 0 (cN g * rN g)
def royB (g : Nat → Int32) (s q : Nat) : Bool := isOfG g q s && royG g (tyN (mN g q)) && decide (q < cN g * rN g)
def safeG (g : Nat → Int32) (s : Nat) : Bool :=
  decide (clN g 56 = 2) || !(anyF (royB g s) 0 (cN g * rN g)) || (if clN g 56 = 0 then !(anyF (fun q => royB g s q && attG g (1 - s) q) 0 (cN g * rN g)) else anyF (fun q => royB g s q && !(attG g (1 - s) q)) 0 (cN g * rN g))
/-- where a man of the board goes -/
def tgtG (g : Nat → Int32) (f q : Nat) : Bool := goG g (tyN (mN g f)) f (sdN (mN g f)) (fun q => !(occG g q)) (fun q => isOfG g q (1 - sdN (mN g f))) q
def wfP (g : Nat → Int32) : Prop :=
  (g 53 = nI (cN g) ∧ 2 ≤ cN g ∧ cN g ≤ 6) ∧ (g 54 = nI (rN g) ∧ 2 ≤ rN g ∧ rN g ≤ 6) ∧ (∀ q, q < 36 → g (1 + q) = nI (mN g q) ∧ mN g q ≤ 12 ∧ (cN g * rN g ≤ q → mN g q = 0)) ∧
  (∀ i, i < 12 → g (37 + i) = nI (hN g i) ∧ hN g i ≤ 9) ∧ (∀ k, k < 4 → g (49 + k) = nI (riN g k) ∧ riN g k ≤ 1) ∧ (g 0 = nI (tuN g) ∧ tuN g ≤ 1)
def posR (σ : mSt) (p : Nat) (g : Nat → Int32) : Prop :=
  (∀ q, q < 36 → σ.1 (p + 1) q = g (1 + q)) ∧ (∀ i, i < 12 → σ.1 (p + 2) i = g (37 + i)) ∧ σ.1 p 2 = g 53 ∧ σ.1 p 3 = g 54 ∧ σ.1 p 4 = g 0 ∧ True ∧
  (∀ q, q < 64 → lb (σ.2 p 6) q = isOfG g q 0) ∧ (∀ q, q < 64 → lb (σ.2 p 7) q = isOfG g q 1)
def ritR (σ : mSt) (p : Nat) (g : Nat → Int32) : Prop := ∀ k, k < 32 → bt (σ.1 p 5) k = decide (k < 4 ∧ riN g k = 1)
def lawR (σ : mSt) (l : Nat) (g : Nat → Int32) : Prop :=
  (∀ t, t < 6 → σ.1 (l + 1) t = nI (pcG g t) ∧ pcG g t ≤ 6) ∧
  (∀ t, t < 6 → ∀ j, j < pcG g t → σ.1 (l + 2) (t * 6 + j) = nI (atG g t j) ∧ σ.1 (l + 3) (t * 6 + j) = mkG g t j ∧ σ.1 (l + 4) (t * 6 + j) = nI (rcG g t j) ∧ σ.1 (l + 5) (t * 6 + j) = dmG g t j) ∧
  (∀ e, e < 36 → σ.1 (l + 2) e = nI (clN (σ.1 (l + 2)) e) ∧ clN (σ.1 (l + 2)) e < 7) ∧ (∀ e, e < 36 → σ.1 (l + 4) e = nI (clN (σ.1 (l + 4)) e) ∧ clN (σ.1 (l + 4)) e ≤ 6) ∧
  (∀ t, t < 6 → σ.1 (l + 6) t = g (58 + 21 * t)) ∧ (∀ t, t < 6 → σ.1 (l + 7) t = g (59 + 21 * t) - 1) ∧
  (∀ k, k < 4 → σ.1 (l + 8) k = if g (184 + 6 * k) = 1 then g (185 + 6 * k) else -1) ∧ (∀ k i, k < 4 → i < 4 → σ.1 (l + 9) (4 * k + i) = g (186 + 6 * k + i)) ∧ σ.1 l 9 = g 55 ∧ σ.1 l 10 = g 56
theorem lb_big {x : Int64} {i : Nat} (h : 64 ≤ i) : lb x i = false := BitVec.getLsbD_of_ge _ _ h
theorem clN_nI {f : Nat → Int32} {k m : Nat} (h : f k = nI m) (hm : m < 2 ^ 31) : clN f k = m := by rw [clN, h, nI_clamp hm]
theorem clamp_lt (x : Int32) : x.toNatClampNeg < 2 ^ 31 := by
  have h : x.toNatClampNeg = x.toInt.toNat := rfl
  have := x.toInt_lt
  omega
theorem clN_lt (f : Nat → Int32) (k : Nat) : clN f k < 2 ^ 31 := clamp_lt _
theorem rcG_lt (g : Nat → Int32) (t j : Nat) : rcG g t j < 2 ^ 31 := by
  unfold rcG reachG
  split
  · decide
  · split
    · decide
    · exact clamp_lt _
theorem anyF_shift {f : Nat → Bool} {a n : Nat} : anyF f a n = anyF (fun j => f (a + j)) 0 n := by
  induction n with
  | zero => rfl
  | succ n ih => rw [anyF, anyF, ih, Nat.zero_add]
theorem wf_sq {g : Nat → Int32} (h : wfP g) : cN g * rN g ≤ 36 := cr36 h.1.2.2 h.2.1.2.2
theorem posR.occ {σ : mSt} {p : Nat} {g : Nat → Int32} (hP : posR σ p g) : (fun k => lb (σ.2 p 6 ||| σ.2 p 7) k) = occG g := by
  funext k
  rw [lb_or]
  by_cases hk : k < 64
  · rw [hP.2.2.2.2.2.2.1 k hk, hP.2.2.2.2.2.2.2 k hk]
    unfold isOfG occG sdN
    by_cases h : 6 < mN g k <;> by_cases h2 : k < 36 <;> by_cases h3 : 1 ≤ mN g k <;> simp [h, h2, h3]
  · rw [lb_big (by omega), lb_big (by omega)]
    unfold occG
    exact (decide_eq_false (by omega)).symm
theorem posR.side {σ : mSt} {p : Nat} {g : Nat → Int32} (hP : posR σ p g) {s : Nat} (hs : s ≤ 1) {q : Nat} (hq : q < 64) : lb (if nI s = 0 then σ.2 p 6 else σ.2 p 7) q = isOfG g q s := by
  rcases (show s = 0 ∨ s = 1 by omega) with rfl | rfl
  · rw [if_pos (show nI 0 = 0 from rfl)]; exact hP.2.2.2.2.2.2.1 q hq
  · rw [if_neg (by decide)]; exact hP.2.2.2.2.2.2.2 q hq
theorem fw_eq (m : Nat) : fwN m = fwS (sdN m) := by unfold fwN fwS sdN; by_cases h : 6 < m <;> simp [h]

theorem c_endsG {ae ad : Nat → Nat} {sh : mSh} {σ : mSt} {y0 l p : Nat} {g : Nat → Int32} (hy : mPlay ad sh y0 l) (hp : mPos ad sh p) (hG : wfP g) (hP : posR σ p g) (hL : lawR σ l g) {em ot : Int64} {q0 : Nat} (hq : q0 < cN g * rN g) (hm1 : 1 ≤ mN g q0) : Ct yX5_ends cX5_ends 26 (some .long) 1 0 0 [.ref (ad y0), .ref (ad p), .int (nI q0), .long em, .long ot] ae ad sh σ (mEq (some (.long (setL (goG g (tyN (mN g q0)) q0 (sdN (mN g q0)) (fun k => lb em k) (fun k => lb ot k))))) ad sh σ) := by
  have h36 := wf_sq hG
  obtain ⟨b1, b2, b3⟩ := hG.2.2.1 q0 (by omega)
  have ht := tyN_lt hm1 b2
  refine Ct.to ?_ (c_ends hp (hP.2.2.1.trans hG.1.1) (hP.2.2.2.1.trans hG.2.1.1) hG.1.2.2 hG.2.1.2.2 hy hq ((hP.1 q0 (by omega)).trans b1) hm1 b2 (hL.1 _ ht).1 (hL.1 _ ht).2 hL.2.2.1 hL.2.2.2.1)
  refine congrArg (fun v => mEq (some (.long v)) ad sh σ) (setL_cong (fun k hk => ?_))
  rw [goG, anyF_shift]
  refine anyF_cong (fun j h1 h2 => ?_)
  obtain ⟨l1, l2, l3, l4⟩ := hL.2.1 _ ht j (by omega)
  rw [partB, partB, hP.occ, fw_eq, l2, l4, clN_nI l1 (clN_lt g _), clN_nI l3 (rcG_lt g _ _)]

