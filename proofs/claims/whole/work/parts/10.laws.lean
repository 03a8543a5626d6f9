def cellD (d : Int32) (f : Nat → Int32) (len : Nat) (i : Int32) : Int32 := if i < 0 ∨ len ≤ i.toNatClampNeg then d else f i.toNatClampNeg
theorem cellD_nI {d : Int32} {f : Nat → Int32} {len j : Nat} (hj : j < 2 ^ 31) (h : j < len) : cellD d f len (nI j) = f j := by
  rw [cellD, nI_clamp hj, if_neg]
  rintro (h1 | h1)
  · exact nI_pos hj h1
  · omega
theorem vp_le {i : Int32} {a b : Nat} (h : vp_in i a) (hab : a ≤ b) : vp_in i b := fun q => h (q.elim Or.inl (fun g => Or.inr (Nat.le_trans hab g)))
def popI (x : Int32) : Int32 :=
  let a := x - ((x.toUInt32 >>> ((1 : Int32).toUInt32 &&& Int32.toUInt32 31)).toInt32 &&& 1431655765)
  let b := (a &&& 858993459) + ((a.toUInt32 >>> ((2 : Int32).toUInt32 &&& Int32.toUInt32 31)).toInt32 &&& 858993459)
  let c := b + (b.toUInt32 >>> ((4 : Int32).toUInt32 &&& Int32.toUInt32 31)).toInt32 &&& 252645135
  let d := c + (c.toUInt32 >>> ((8 : Int32).toUInt32 &&& Int32.toUInt32 31)).toInt32
  let e := d + (d.toUInt32 >>> ((16 : Int32).toUInt32 &&& Int32.toUInt32 31)).toInt32
  e &&& 63
def popL (x : Int64) : Int32 :=
  let a := x - ((x.toUInt64 >>> ((1 : Int32).toInt64.toUInt64 &&& Int64.toUInt64 63)).toInt64 &&& 6148914691236517205)
  let b := (a &&& 3689348814741910323) + ((a.toUInt64 >>> ((2 : Int32).toInt64.toUInt64 &&& Int64.toUInt64 63)).toInt64 &&& 3689348814741910323)
  let c := b + (b.toUInt64 >>> ((4 : Int32).toInt64.toUInt64 &&& Int64.toUInt64 63)).toInt64 &&& 1085102592571150095
  let d := c + (c.toUInt64 >>> ((8 : Int32).toInt64.toUInt64 &&& Int64.toUInt64 63)).toInt64
  let e := d + (d.toUInt64 >>> ((16 : Int32).toInt64.toUInt64 &&& Int64.toUInt64 63)).toInt64
  let g := e + (e.toUInt64 >>> ((32 : Int32).toInt64.toUInt64 &&& Int64.toUInt64 63)).toInt64
  g.toInt32 &&& 127
def maxR (x y : Int32) : Int32 := if x < y then y else x
def minR (x y : Int32) : Int32 := if y < x then y else x
theorem mm_noNest (host own : String) (idx : Nat) (y : MethodName) (hy : y = yJ9_max_7cf53 ∨ y = yJ9_min_7cf53) : Cond.methodLinkNest own idx y host ∉ tables_1.filter mNest := by
  have h : (tables_1.filter mNest).all (fun w => match w with | .methodLinkNest _ _ y' _ => y'.cls != "java/lang/Math" | _ => true) = true := by decide +kernel
  intro hm
  have h1 := List.all_eq_true.mp h _ hm
  have h2 : ("java/lang/Math" != "java/lang/Math") = true := by rcases hy with rfl | rfl <;> exact h1
  exact absurd h2 (by decide)
def maskF (c : Nat → Bool) : Nat → Int32
  | 0 => 0
  | n + 1 => if c n then maskF c n ||| 1 <<< (nI n &&& 31) else maskF c n
/-- is a step among those of a mark's modifiers (White's) -/
def dirOk (mark : Int32) (st : Nat) : Bool := decide (¬ mark &&& (if 0 < mSTEPY.getD st 0 then 4 else if mSTEPY.getD st 0 < 0 then 8 else 16) = 0 ∨ mark &&& 28 = 0)
/-- the mask of the steps from a to b -/
def dmF (mark : Int32) (a : Nat) : Nat → Int32
  | 0 => 0
  | n + 1 => if dirOk mark (a + n) then dmF mark a n ||| 1 <<< (nI (a + n) &&& 31) else dmF mark a n
def aStart (a : Nat) : Nat := (mASTART.getD a 0).toNatClampNeg
def aEnd (a : Nat) : Nat := (mAEND.getD a 0).toNatClampNeg
def dirM (a : Nat) (mark : Int32) : Int32 := dmF mark (aStart a) (aEnd a - aStart a)
/-- a row with a part of another laid into it -/
def layF (f g : Nat → Int32) (b n : Nat) : Nat → Int32 := fun k => if b ≤ k ∧ k < b + n then g (k - b) else f k
theorem layF_0 (f g : Nat → Int32) (b : Nat) : layF f g b 0 = f := by funext k; simp only [layF]; rw [if_neg (by omega)]
theorem layF_succ (f g : Nat → Int32) (b n : Nat) : upd (layF f g b n) (b + n) (g n) = layF f g b (n + 1) := by
  funext k
  simp only [upd, layF]
  by_cases h : k = b + n
  · subst h
    rw [if_pos rfl, if_pos (by omega)]
    congr 1; omega
  · rw [if_neg h]
    by_cases h2 : b ≤ k ∧ k < b + n
    · rw [if_pos h2, if_pos (by omega)]
    · rw [if_neg h2, if_neg (by omega)]
theorem setV_nI {f : Nat → Int32} {len j : Nat} {x : Int32} (hj : j < 2 ^ 31) (h : j < len) : setV f len (nI j) x = upd f j x := by
  rw [setV, nI_clamp hj, if_neg]
  rintro (h1 | h1)
  · exact nI_pos hj h1
  · omega

theorem ev_drop_0 {own : String} {cc : ByteArray} {nL : Nat} {ini : Bool} {ret : Option FieldType} {R : Room} {ae ad : Nat → Nat} {Post : mPost} {pc : Nat} {a0 : Option Value} {t : List (Option Value)} {st : List Value} {k n : Nat} {sh : mSh} {σ : mSt} (K : Ev own cc nL ini ret R ae Post pc (none :: t) st k n ad sh σ) : Ev own cc nL ini ret R ae Post pc (a0 :: t) st k n ad sh σ := by
  refine Ev.less (fun j v h => ?_) K
  rcases Nat.lt_trichotomy j 0 with h1 | h1 | h1
  · have e : (a0 :: t).set 0 none = none :: t := rfl
    rw [← e, List.getElem?_set_ne (by omega)] at h
    exact h
  · subst h1; cases h
  · have e : (a0 :: t).set 0 none = none :: t := rfl
    rw [← e, List.getElem?_set_ne (by omega)] at h
    exact h
theorem ev_drop_1 {own : String} {cc : ByteArray} {nL : Nat} {ini : Bool} {ret : Option FieldType} {R : Room} {ae ad : Nat → Nat} {Post : mPost} {pc : Nat} {a0 a1 : Option Value} {t : List (Option Value)} {st : List Value} {k n : Nat} {sh : mSh} {σ : mSt} (K : Ev own cc nL ini ret R ae Post pc (a0 :: none :: t) st k n ad sh σ) : Ev own cc nL ini ret R ae Post pc (a0 :: a1 :: t) st k n ad sh σ := by
  refine Ev.less (fun j v h => ?_) K
  rcases Nat.lt_trichotomy j 1 with h1 | h1 | h1
  · have e : (a0 :: a1 :: t).set 1 none = a0 :: none :: t := rfl
    rw [← e, List.getElem?_set_ne (by omega)] at h
    exact h
  · subst h1; cases h
  · have e : (a0 :: a1 :: t).set 1 none = a0 :: none :: t := rfl
    rw [← e, List.getElem?_set_ne (by omega)] at h
    exact h
theorem ev_drop_2 {own : String} {cc : ByteArray} {nL : Nat} {ini : Bool} {ret : Option FieldType} {R : Room} {ae ad : Nat → Nat} {Post : mPost} {pc : Nat} {a0 a1 a2 : Option Value} {t : List (Option Value)} {st : List Value} {k n : Nat} {sh : mSh} {σ : mSt} (K : Ev own cc nL ini ret R ae Post pc (a0 :: a1 :: none :: t) st k n ad sh σ) : Ev own cc nL ini ret R ae Post pc (a0 :: a1 :: a2 :: t) st k n ad sh σ := by
  refine Ev.less (fun j v h => ?_) K
  rcases Nat.lt_trichotomy j 2 with h1 | h1 | h1
  · have e : (a0 :: a1 :: a2 :: t).set 2 none = a0 :: a1 :: none :: t := rfl
    rw [← e, List.getElem?_set_ne (by omega)] at h
    exact h
  · subst h1; cases h
  · have e : (a0 :: a1 :: a2 :: t).set 2 none = a0 :: a1 :: none :: t := rfl
    rw [← e, List.getElem?_set_ne (by omega)] at h
    exact h
theorem ev_drop_3 {own : String} {cc : ByteArray} {nL : Nat} {ini : Bool} {ret : Option FieldType} {R : Room} {ae ad : Nat → Nat} {Post : mPost} {pc : Nat} {a0 a1 a2 a3 : Option Value} {t : List (Option Value)} {st : List Value} {k n : Nat} {sh : mSh} {σ : mSt} (K : Ev own cc nL ini ret R ae Post pc (a0 :: a1 :: a2 :: none :: t) st k n ad sh σ) : Ev own cc nL ini ret R ae Post pc (a0 :: a1 :: a2 :: a3 :: t) st k n ad sh σ := by
  refine Ev.less (fun j v h => ?_) K
  rcases Nat.lt_trichotomy j 3 with h1 | h1 | h1
  · have e : (a0 :: a1 :: a2 :: a3 :: t).set 3 none = a0 :: a1 :: a2 :: none :: t := rfl
    rw [← e, List.getElem?_set_ne (by omega)] at h
    exact h
  · subst h1; cases h
  · have e : (a0 :: a1 :: a2 :: a3 :: t).set 3 none = a0 :: a1 :: a2 :: none :: t := rfl
    rw [← e, List.getElem?_set_ne (by omega)] at h
    exact h
theorem ev_drop_4 {own : String} {cc : ByteArray} {nL : Nat} {ini : Bool} {ret : Option FieldType} {R : Room} {ae ad : Nat → Nat} {Post : mPost} {pc : Nat} {a0 a1 a2 a3 a4 : Option Value} {t : List (Option Value)} {st : List Value} {k n : Nat} {sh : mSh} {σ : mSt} (K : Ev own cc nL ini ret R ae Post pc (a0 :: a1 :: a2 :: a3 :: none :: t) st k n ad sh σ) : Ev own cc nL ini ret R ae Post pc (a0 :: a1 :: a2 :: a3 :: a4 :: t) st k n ad sh σ := by
  refine Ev.less (fun j v h => ?_) K
  rcases Nat.lt_trichotomy j 4 with h1 | h1 | h1
  · have e : (a0 :: a1 :: a2 :: a3 :: a4 :: t).set 4 none = a0 :: a1 :: a2 :: a3 :: none :: t := rfl
    rw [← e, List.getElem?_set_ne (by omega)] at h
    exact h
  · subst h1; cases h
  · have e : (a0 :: a1 :: a2 :: a3 :: a4 :: t).set 4 none = a0 :: a1 :: a2 :: a3 :: none :: t := rfl
    rw [← e, List.getElem?_set_ne (by omega)] at h
    exact h
theorem ev_drop_5 {own : String} {cc : ByteArray} {nL : Nat} {ini : Bool} {ret : Option FieldType} {R : Room} {ae ad : Nat → Nat} {Post : mPost} {pc : Nat} {a0 a1 a2 a3 a4 a5 : Option Value} {t : List (Option Value)} {st : List Value} {k n : Nat} {sh : mSh} {σ : mSt} (K : Ev own cc nL ini ret R ae Post pc (a0 :: a1 :: a2 :: a3 :: a4 :: none :: t) st k n ad sh σ) : Ev own cc nL ini ret R ae Post pc (a0 :: a1 :: a2 :: a3 :: a4 :: a5 :: t) st k n ad sh σ := by
  refine Ev.less (fun j v h => ?_) K
  rcases Nat.lt_trichotomy j 5 with h1 | h1 | h1
  · have e : (a0 :: a1 :: a2 :: a3 :: a4 :: a5 :: t).set 5 none = a0 :: a1 :: a2 :: a3 :: a4 :: none :: t := rfl
    rw [← e, List.getElem?_set_ne (by omega)] at h
    exact h
  · subst h1; cases h
  · have e : (a0 :: a1 :: a2 :: a3 :: a4 :: a5 :: t).set 5 none = a0 :: a1 :: a2 :: a3 :: a4 :: none :: t := rfl
    rw [← e, List.getElem?_set_ne (by omega)] at h
    exact h
theorem ev_drop_6 {own : String} {cc : ByteArray} {nL : Nat} {ini : Bool} {ret : Option FieldType} {R : Room} {ae ad : Nat → Nat} {Post : mPost} {pc : Nat} {a0 a1 a2 a3 a4 a5 a6 : Option Value} {t : List (Option Value)} {st : List Value} {k n : Nat} {sh : mSh} {σ : mSt} (K : Ev own cc nL ini ret R ae Post pc (a0 :: a1 :: a2 :: a3 :: a4 :: a5 :: none :: t) st k n ad sh σ) : Ev own cc nL ini ret R ae Post pc (a0 :: a1 :: a2 :: a3 :: a4 :: a5 :: a6 :: t) st k n ad sh σ := by
  refine Ev.less (fun j v h => ?_) K
  rcases Nat.lt_trichotomy j 6 with h1 | h1 | h1
  · have e : (a0 :: a1 :: a2 :: a3 :: a4 :: a5 :: a6 :: t).set 6 none = a0 :: a1 :: a2 :: a3 :: a4 :: a5 :: none :: t := rfl
    rw [← e, List.getElem?_set_ne (by omega)] at h
    exact h
  · subst h1; cases h
  · have e : (a0 :: a1 :: a2 :: a3 :: a4 :: a5 :: a6 :: t).set 6 none = a0 :: a1 :: a2 :: a3 :: a4 :: a5 :: none :: t := rfl
    rw [← e, List.getElem?_set_ne (by omega)] at h
    exact h
theorem ev_drop_7 {own : String} {cc : ByteArray} {nL : Nat} {ini : Bool} {ret : Option FieldType} {R : Room} {ae ad : Nat → Nat} {Post : mPost} {pc : Nat} {a0 a1 a2 a3 a4 a5 a6 a7 : Option Value} {t : List (Option Value)} {st : List Value} {k n : Nat} {sh : mSh} {σ : mSt} (K : Ev own cc nL ini ret R ae Post pc (a0 :: a1 :: a2 :: a3 :: a4 :: a5 :: a6 :: none :: t) st k n ad sh σ) : Ev own cc nL ini ret R ae Post pc (a0 :: a1 :: a2 :: a3 :: a4 :: a5 :: a6 :: a7 :: t) st k n ad sh σ := by
  refine Ev.less (fun j v h => ?_) K
  rcases Nat.lt_trichotomy j 7 with h1 | h1 | h1
  · have e : (a0 :: a1 :: a2 :: a3 :: a4 :: a5 :: a6 :: a7 :: t).set 7 none = a0 :: a1 :: a2 :: a3 :: a4 :: a5 :: a6 :: none :: t := rfl
    rw [← e, List.getElem?_set_ne (by omega)] at h
    exact h
  · subst h1; cases h
  · have e : (a0 :: a1 :: a2 :: a3 :: a4 :: a5 :: a6 :: a7 :: t).set 7 none = a0 :: a1 :: a2 :: a3 :: a4 :: a5 :: a6 :: none :: t := rfl
    rw [← e, List.getElem?_set_ne (by omega)] at h
    exact h
theorem ev_drop_8 {own : String} {cc : ByteArray} {nL : Nat} {ini : Bool} {ret : Option FieldType} {R : Room} {ae ad : Nat → Nat} {Post : mPost} {pc : Nat} {a0 a1 a2 a3 a4 a5 a6 a7 a8 : Option Value} {t : List (Option Value)} {st : List Value} {k n : Nat} {sh : mSh} {σ : mSt} (K : Ev own cc nL ini ret R ae Post pc (a0 :: a1 :: a2 :: a3 :: a4 :: a5 :: a6 :: a7 :: none :: t) st k n ad sh σ) : Ev own cc nL ini ret R ae Post pc (a0 :: a1 :: a2 :: a3 :: a4 :: a5 :: a6 :: a7 :: a8 :: t) st k n ad sh σ := by
  refine Ev.less (fun j v h => ?_) K
  rcases Nat.lt_trichotomy j 8 with h1 | h1 | h1
  · have e : (a0 :: a1 :: a2 :: a3 :: a4 :: a5 :: a6 :: a7 :: a8 :: t).set 8 none = a0 :: a1 :: a2 :: a3 :: a4 :: a5 :: a6 :: a7 :: none :: t := rfl
    rw [← e, List.getElem?_set_ne (by omega)] at h
    exact h
  · subst h1; cases h
  · have e : (a0 :: a1 :: a2 :: a3 :: a4 :: a5 :: a6 :: a7 :: a8 :: t).set 8 none = a0 :: a1 :: a2 :: a3 :: a4 :: a5 :: a6 :: a7 :: none :: t := rfl
    rw [← e, List.getElem?_set_ne (by omega)] at h
    exact h
theorem ev_drop_9 {own : String} {cc : ByteArray} {nL : Nat} {ini : Bool} {ret : Option FieldType} {R : Room} {ae ad : Nat → Nat} {Post : mPost} {pc : Nat} {a0 a1 a2 a3 a4 a5 a6 a7 a8 a9 : Option Value} {t : List (Option Value)} {st : List Value} {k n : Nat} {sh : mSh} {σ : mSt} (K : Ev own cc nL ini ret R ae Post pc (a0 :: a1 :: a2 :: a3 :: a4 :: a5 :: a6 :: a7 :: a8 :: none :: t) st k n ad sh σ) : Ev own cc nL ini ret R ae Post pc (a0 :: a1 :: a2 :: a3 :: a4 :: a5 :: a6 :: a7 :: a8 :: a9 :: t) st k n ad sh σ := by
  refine Ev.less (fun j v h => ?_) K
  rcases Nat.lt_trichotomy j 9 with h1 | h1 | h1
  · have e : (a0 :: a1 :: a2 :: a3 :: a4 :: a5 :: a6 :: a7 :: a8 :: a9 :: t).set 9 none = a0 :: a1 :: a2 :: a3 :: a4 :: a5 :: a6 :: a7 :: a8 :: none :: t := rfl
    rw [← e, List.getElem?_set_ne (by omega)] at h
    exact h
  · subst h1; cases h
  · have e : (a0 :: a1 :: a2 :: a3 :: a4 :: a5 :: a6 :: a7 :: a8 :: a9 :: t).set 9 none = a0 :: a1 :: a2 :: a3 :: a4 :: a5 :: a6 :: a7 :: a8 :: none :: t := rfl
    rw [← e, List.getElem?_set_ne (by omega)] at h
    exact h
theorem ev_drop_10 {own : String} {cc : ByteArray} {nL : Nat} {ini : Bool} {ret : Option FieldType} {R : Room} {ae ad : Nat → Nat} {Post : mPost} {pc : Nat} {a0 a1 a2 a3 a4 a5 a6 a7 a8 a9 a10 : Option Value} {t : List (Option Value)} {st : List Value} {k n : Nat} {sh : mSh} {σ : mSt} (K : Ev own cc nL ini ret R ae Post pc (a0 :: a1 :: a2 :: a3 :: a4 :: a5 :: a6 :: a7 :: a8 :: a9 :: none :: t) st k n ad sh σ) : Ev own cc nL ini ret R ae Post pc (a0 :: a1 :: a2 :: a3 :: a4 :: a5 :: a6 :: a7 :: a8 :: a9 :: a10 :: t) st k n ad sh σ := by
  refine Ev.less (fun j v h => ?_) K
  rcases Nat.lt_trichotomy j 10 with h1 | h1 | h1
  · have e : (a0 :: a1 :: a2 :: a3 :: a4 :: a5 :: a6 :: a7 :: a8 :: a9 :: a10 :: t).set 10 none = a0 :: a1 :: a2 :: a3 :: a4 :: a5 :: a6 :: a7 :: a8 :: a9 :: none :: t := rfl
    rw [← e, List.getElem?_set_ne (by omega)] at h
    exact h
  · subst h1; cases h
  · have e : (a0 :: a1 :: a2 :: a3 :: a4 :: a5 :: a6 :: a7 :: a8 :: a9 :: a10 :: t).set 10 none = a0 :: a1 :: a2 :: a3 :: a4 :: a5 :: a6 :: a7 :: a8 :: a9 :: none :: t := rfl
    rw [← e, List.getElem?_set_ne (by omega)] at h
    exact h
theorem ev_drop_11 {own : String} {cc : ByteArray} {nL : Nat} {ini : Bool} {ret : Option FieldType} {R : Room} {ae ad : Nat → Nat} {Post : mPost} {pc : Nat} {a0 a1 a2 a3 a4 a5 a6 a7 a8 a9 a10 a11 : Option Value} {t : List (Option Value)} {st : List Value} {k n : Nat} {sh : mSh} {σ : mSt} (K : Ev own cc nL ini ret R ae Post pc (a0 :: a1 :: a2 :: a3 :: a4 :: a5 :: a6 :: a7 :: a8 :: a9 :: a10 :: none :: t) st k n ad sh σ) : Ev own cc nL ini ret R ae Post pc (a0 :: a1 :: a2 :: a3 :: a4 :: a5 :: a6 :: a7 :: a8 :: a9 :: a10 :: a11 :: t) st k n ad sh σ := by
  refine Ev.less (fun j v h => ?_) K
  rcases Nat.lt_trichotomy j 11 with h1 | h1 | h1
  · have e : (a0 :: a1 :: a2 :: a3 :: a4 :: a5 :: a6 :: a7 :: a8 :: a9 :: a10 :: a11 :: t).set 11 none = a0 :: a1 :: a2 :: a3 :: a4 :: a5 :: a6 :: a7 :: a8 :: a9 :: a10 :: none :: t := rfl
    rw [← e, List.getElem?_set_ne (by omega)] at h
    exact h
  · subst h1; cases h
  · have e : (a0 :: a1 :: a2 :: a3 :: a4 :: a5 :: a6 :: a7 :: a8 :: a9 :: a10 :: a11 :: t).set 11 none = a0 :: a1 :: a2 :: a3 :: a4 :: a5 :: a6 :: a7 :: a8 :: a9 :: a10 :: none :: t := rfl
    rw [← e, List.getElem?_set_ne (by omega)] at h
    exact h
theorem ev_drop_12 {own : String} {cc : ByteArray} {nL : Nat} {ini : Bool} {ret : Option FieldType} {R : Room} {ae ad : Nat → Nat} {Post : mPost} {pc : Nat} {a0 a1 a2 a3 a4 a5 a6 a7 a8 a9 a10 a11 a12 : Option Value} {t : List (Option Value)} {st : List Value} {k n : Nat} {sh : mSh} {σ : mSt} (K : Ev own cc nL ini ret R ae Post pc (a0 :: a1 :: a2 :: a3 :: a4 :: a5 :: a6 :: a7 :: a8 :: a9 :: a10 :: a11 :: none :: t) st k n ad sh σ) : Ev own cc nL ini ret R ae Post pc (a0 :: a1 :: a2 :: a3 :: a4 :: a5 :: a6 :: a7 :: a8 :: a9 :: a10 :: a11 :: a12 :: t) st k n ad sh σ := by
  refine Ev.less (fun j v h => ?_) K
  rcases Nat.lt_trichotomy j 12 with h1 | h1 | h1
  · have e : (a0 :: a1 :: a2 :: a3 :: a4 :: a5 :: a6 :: a7 :: a8 :: a9 :: a10 :: a11 :: a12 :: t).set 12 none = a0 :: a1 :: a2 :: a3 :: a4 :: a5 :: a6 :: a7 :: a8 :: a9 :: a10 :: a11 :: none :: t := rfl
    rw [← e, List.getElem?_set_ne (by omega)] at h
    exact h
  · subst h1; cases h
  · have e : (a0 :: a1 :: a2 :: a3 :: a4 :: a5 :: a6 :: a7 :: a8 :: a9 :: a10 :: a11 :: a12 :: t).set 12 none = a0 :: a1 :: a2 :: a3 :: a4 :: a5 :: a6 :: a7 :: a8 :: a9 :: a10 :: a11 :: none :: t := rfl
    rw [← e, List.getElem?_set_ne (by omega)] at h
    exact h
theorem ev_drop_13 {own : String} {cc : ByteArray} {nL : Nat} {ini : Bool} {ret : Option FieldType} {R : Room} {ae ad : Nat → Nat} {Post : mPost} {pc : Nat} {a0 a1 a2 a3 a4 a5 a6 a7 a8 a9 a10 a11 a12 a13 : Option Value} {t : List (Option Value)} {st : List Value} {k n : Nat} {sh : mSh} {σ : mSt} (K : Ev own cc nL ini ret R ae Post pc (a0 :: a1 :: a2 :: a3 :: a4 :: a5 :: a6 :: a7 :: a8 :: a9 :: a10 :: a11 :: a12 :: none :: t) st k n ad sh σ) : Ev own cc nL ini ret R ae Post pc (a0 :: a1 :: a2 :: a3 :: a4 :: a5 :: a6 :: a7 :: a8 :: a9 :: a10 :: a11 :: a12 :: a13 :: t) st k n ad sh σ := by
  refine Ev.less (fun j v h => ?_) K
  rcases Nat.lt_trichotomy j 13 with h1 | h1 | h1
  · have e : (a0 :: a1 :: a2 :: a3 :: a4 :: a5 :: a6 :: a7 :: a8 :: a9 :: a10 :: a11 :: a12 :: a13 :: t).set 13 none = a0 :: a1 :: a2 :: a3 :: a4 :: a5 :: a6 :: a7 :: a8 :: a9 :: a10 :: a11 :: a12 :: none :: t := rfl
    rw [← e, List.getElem?_set_ne (by omega)] at h
    exact h
  · subst h1; cases h
  · have e : (a0 :: a1 :: a2 :: a3 :: a4 :: a5 :: a6 :: a7 :: a8 :: a9 :: a10 :: a11 :: a12 :: a13 :: t).set 13 none = a0 :: a1 :: a2 :: a3 :: a4 :: a5 :: a6 :: a7 :: a8 :: a9 :: a10 :: a11 :: a12 :: none :: t := rfl
    rw [← e, List.getElem?_set_ne (by omega)] at h
    exact h
theorem ev_drop_14 {own : String} {cc : ByteArray} {nL : Nat} {ini : Bool} {ret : Option FieldType} {R : Room} {ae ad : Nat → Nat} {Post : mPost} {pc : Nat} {a0 a1 a2 a3 a4 a5 a6 a7 a8 a9 a10 a11 a12 a13 a14 : Option Value} {t : List (Option Value)} {st : List Value} {k n : Nat} {sh : mSh} {σ : mSt} (K : Ev own cc nL ini ret R ae Post pc (a0 :: a1 :: a2 :: a3 :: a4 :: a5 :: a6 :: a7 :: a8 :: a9 :: a10 :: a11 :: a12 :: a13 :: none :: t) st k n ad sh σ) : Ev own cc nL ini ret R ae Post pc (a0 :: a1 :: a2 :: a3 :: a4 :: a5 :: a6 :: a7 :: a8 :: a9 :: a10 :: a11 :: a12 :: a13 :: a14 :: t) st k n ad sh σ := by
  refine Ev.less (fun j v h => ?_) K
  rcases Nat.lt_trichotomy j 14 with h1 | h1 | h1
  · have e : (a0 :: a1 :: a2 :: a3 :: a4 :: a5 :: a6 :: a7 :: a8 :: a9 :: a10 :: a11 :: a12 :: a13 :: a14 :: t).set 14 none = a0 :: a1 :: a2 :: a3 :: a4 :: a5 :: a6 :: a7 :: a8 :: a9 :: a10 :: a11 :: a12 :: a13 :: none :: t := rfl
    rw [← e, List.getElem?_set_ne (by omega)] at h
    exact h
  · subst h1; cases h
  · have e : (a0 :: a1 :: a2 :: a3 :: a4 :: a5 :: a6 :: a7 :: a8 :: a9 :: a10 :: a11 :: a12 :: a13 :: a14 :: t).set 14 none = a0 :: a1 :: a2 :: a3 :: a4 :: a5 :: a6 :: a7 :: a8 :: a9 :: a10 :: a11 :: a12 :: a13 :: none :: t := rfl
    rw [← e, List.getElem?_set_ne (by omega)] at h
    exact h
theorem ev_drop_15 {own : String} {cc : ByteArray} {nL : Nat} {ini : Bool} {ret : Option FieldType} {R : Room} {ae ad : Nat → Nat} {Post : mPost} {pc : Nat} {a0 a1 a2 a3 a4 a5 a6 a7 a8 a9 a10 a11 a12 a13 a14 a15 : Option Value} {t : List (Option Value)} {st : List Value} {k n : Nat} {sh : mSh} {σ : mSt} (K : Ev own cc nL ini ret R ae Post pc (a0 :: a1 :: a2 :: a3 :: a4 :: a5 :: a6 :: a7 :: a8 :: a9 :: a10 :: a11 :: a12 :: a13 :: a14 :: none :: t) st k n ad sh σ) : Ev own cc nL ini ret R ae Post pc (a0 :: a1 :: a2 :: a3 :: a4 :: a5 :: a6 :: a7 :: a8 :: a9 :: a10 :: a11 :: a12 :: a13 :: a14 :: a15 :: t) st k n ad sh σ := by
  refine Ev.less (fun j v h => ?_) K
  rcases Nat.lt_trichotomy j 15 with h1 | h1 | h1
  · have e : (a0 :: a1 :: a2 :: a3 :: a4 :: a5 :: a6 :: a7 :: a8 :: a9 :: a10 :: a11 :: a12 :: a13 :: a14 :: a15 :: t).set 15 none = a0 :: a1 :: a2 :: a3 :: a4 :: a5 :: a6 :: a7 :: a8 :: a9 :: a10 :: a11 :: a12 :: a13 :: a14 :: none :: t := rfl
    rw [← e, List.getElem?_set_ne (by omega)] at h
    exact h
  · subst h1; cases h
  · have e : (a0 :: a1 :: a2 :: a3 :: a4 :: a5 :: a6 :: a7 :: a8 :: a9 :: a10 :: a11 :: a12 :: a13 :: a14 :: a15 :: t).set 15 none = a0 :: a1 :: a2 :: a3 :: a4 :: a5 :: a6 :: a7 :: a8 :: a9 :: a10 :: a11 :: a12 :: a13 :: a14 :: none :: t := rfl
    rw [← e, List.getElem?_set_ne (by omega)] at h
    exact h
theorem ev_drop_16 {own : String} {cc : ByteArray} {nL : Nat} {ini : Bool} {ret : Option FieldType} {R : Room} {ae ad : Nat → Nat} {Post : mPost} {pc : Nat} {a0 a1 a2 a3 a4 a5 a6 a7 a8 a9 a10 a11 a12 a13 a14 a15 a16 : Option Value} {t : List (Option Value)} {st : List Value} {k n : Nat} {sh : mSh} {σ : mSt} (K : Ev own cc nL ini ret R ae Post pc (a0 :: a1 :: a2 :: a3 :: a4 :: a5 :: a6 :: a7 :: a8 :: a9 :: a10 :: a11 :: a12 :: a13 :: a14 :: a15 :: none :: t) st k n ad sh σ) : Ev own cc nL ini ret R ae Post pc (a0 :: a1 :: a2 :: a3 :: a4 :: a5 :: a6 :: a7 :: a8 :: a9 :: a10 :: a11 :: a12 :: a13 :: a14 :: a15 :: a16 :: t) st k n ad sh σ := by
  refine Ev.less (fun j v h => ?_) K
  rcases Nat.lt_trichotomy j 16 with h1 | h1 | h1
  · have e : (a0 :: a1 :: a2 :: a3 :: a4 :: a5 :: a6 :: a7 :: a8 :: a9 :: a10 :: a11 :: a12 :: a13 :: a14 :: a15 :: a16 :: t).set 16 none = a0 :: a1 :: a2 :: a3 :: a4 :: a5 :: a6 :: a7 :: a8 :: a9 :: a10 :: a11 :: a12 :: a13 :: a14 :: a15 :: none :: t := rfl
    rw [← e, List.getElem?_set_ne (by omega)] at h
    exact h
  · subst h1; cases h
  · have e : (a0 :: a1 :: a2 :: a3 :: a4 :: a5 :: a6 :: a7 :: a8 :: a9 :: a10 :: a11 :: a12 :: a13 :: a14 :: a15 :: a16 :: t).set 16 none = a0 :: a1 :: a2 :: a3 :: a4 :: a5 :: a6 :: a7 :: a8 :: a9 :: a10 :: a11 :: a12 :: a13 :: a14 :: a15 :: none :: t := rfl
    rw [← e, List.getElem?_set_ne (by omega)] at h
    exact h
theorem ev_drop_17 {own : String} {cc : ByteArray} {nL : Nat} {ini : Bool} {ret : Option FieldType} {R : Room} {ae ad : Nat → Nat} {Post : mPost} {pc : Nat} {a0 a1 a2 a3 a4 a5 a6 a7 a8 a9 a10 a11 a12 a13 a14 a15 a16 a17 : Option Value} {t : List (Option Value)} {st : List Value} {k n : Nat} {sh : mSh} {σ : mSt} (K : Ev own cc nL ini ret R ae Post pc (a0 :: a1 :: a2 :: a3 :: a4 :: a5 :: a6 :: a7 :: a8 :: a9 :: a10 :: a11 :: a12 :: a13 :: a14 :: a15 :: a16 :: none :: t) st k n ad sh σ) : Ev own cc nL ini ret R ae Post pc (a0 :: a1 :: a2 :: a3 :: a4 :: a5 :: a6 :: a7 :: a8 :: a9 :: a10 :: a11 :: a12 :: a13 :: a14 :: a15 :: a16 :: a17 :: t) st k n ad sh σ := by
  refine Ev.less (fun j v h => ?_) K
  rcases Nat.lt_trichotomy j 17 with h1 | h1 | h1
  · have e : (a0 :: a1 :: a2 :: a3 :: a4 :: a5 :: a6 :: a7 :: a8 :: a9 :: a10 :: a11 :: a12 :: a13 :: a14 :: a15 :: a16 :: a17 :: t).set 17 none = a0 :: a1 :: a2 :: a3 :: a4 :: a5 :: a6 :: a7 :: a8 :: a9 :: a10 :: a11 :: a12 :: a13 :: a14 :: a15 :: a16 :: none :: t := rfl
    rw [← e, List.getElem?_set_ne (by omega)] at h
    exact h
  · subst h1; cases h
  · have e : (a0 :: a1 :: a2 :: a3 :: a4 :: a5 :: a6 :: a7 :: a8 :: a9 :: a10 :: a11 :: a12 :: a13 :: a14 :: a15 :: a16 :: a17 :: t).set 17 none = a0 :: a1 :: a2 :: a3 :: a4 :: a5 :: a6 :: a7 :: a8 :: a9 :: a10 :: a11 :: a12 :: a13 :: a14 :: a15 :: a16 :: none :: t := rfl
    rw [← e, List.getElem?_set_ne (by omega)] at h
    exact h
theorem ev_drop_18 {own : String} {cc : ByteArray} {nL : Nat} {ini : Bool} {ret : Option FieldType} {R : Room} {ae ad : Nat → Nat} {Post : mPost} {pc : Nat} {a0 a1 a2 a3 a4 a5 a6 a7 a8 a9 a10 a11 a12 a13 a14 a15 a16 a17 a18 : Option Value} {t : List (Option Value)} {st : List Value} {k n : Nat} {sh : mSh} {σ : mSt} (K : Ev own cc nL ini ret R ae Post pc (a0 :: a1 :: a2 :: a3 :: a4 :: a5 :: a6 :: a7 :: a8 :: a9 :: a10 :: a11 :: a12 :: a13 :: a14 :: a15 :: a16 :: a17 :: none :: t) st k n ad sh σ) : Ev own cc nL ini ret R ae Post pc (a0 :: a1 :: a2 :: a3 :: a4 :: a5 :: a6 :: a7 :: a8 :: a9 :: a10 :: a11 :: a12 :: a13 :: a14 :: a15 :: a16 :: a17 :: a18 :: t) st k n ad sh σ := by
  refine Ev.less (fun j v h => ?_) K
  rcases Nat.lt_trichotomy j 18 with h1 | h1 | h1
  · have e : (a0 :: a1 :: a2 :: a3 :: a4 :: a5 :: a6 :: a7 :: a8 :: a9 :: a10 :: a11 :: a12 :: a13 :: a14 :: a15 :: a16 :: a17 :: a18 :: t).set 18 none = a0 :: a1 :: a2 :: a3 :: a4 :: a5 :: a6 :: a7 :: a8 :: a9 :: a10 :: a11 :: a12 :: a13 :: a14 :: a15 :: a16 :: a17 :: none :: t := rfl
    rw [← e, List.getElem?_set_ne (by omega)] at h
    exact h
  · subst h1; cases h
  · have e : (a0 :: a1 :: a2 :: a3 :: a4 :: a5 :: a6 :: a7 :: a8 :: a9 :: a10 :: a11 :: a12 :: a13 :: a14 :: a15 :: a16 :: a17 :: a18 :: t).set 18 none = a0 :: a1 :: a2 :: a3 :: a4 :: a5 :: a6 :: a7 :: a8 :: a9 :: a10 :: a11 :: a12 :: a13 :: a14 :: a15 :: a16 :: a17 :: none :: t := rfl
    rw [← e, List.getElem?_set_ne (by omega)] at h
    exact h
theorem ev_drop_19 {own : String} {cc : ByteArray} {nL : Nat} {ini : Bool} {ret : Option FieldType} {R : Room} {ae ad : Nat → Nat} {Post : mPost} {pc : Nat} {a0 a1 a2 a3 a4 a5 a6 a7 a8 a9 a10 a11 a12 a13 a14 a15 a16 a17 a18 a19 : Option Value} {t : List (Option Value)} {st : List Value} {k n : Nat} {sh : mSh} {σ : mSt} (K : Ev own cc nL ini ret R ae Post pc (a0 :: a1 :: a2 :: a3 :: a4 :: a5 :: a6 :: a7 :: a8 :: a9 :: a10 :: a11 :: a12 :: a13 :: a14 :: a15 :: a16 :: a17 :: a18 :: none :: t) st k n ad sh σ) : Ev own cc nL ini ret R ae Post pc (a0 :: a1 :: a2 :: a3 :: a4 :: a5 :: a6 :: a7 :: a8 :: a9 :: a10 :: a11 :: a12 :: a13 :: a14 :: a15 :: a16 :: a17 :: a18 :: a19 :: t) st k n ad sh σ := by
  refine Ev.less (fun j v h => ?_) K
  rcases Nat.lt_trichotomy j 19 with h1 | h1 | h1
  · have e : (a0 :: a1 :: a2 :: a3 :: a4 :: a5 :: a6 :: a7 :: a8 :: a9 :: a10 :: a11 :: a12 :: a13 :: a14 :: a15 :: a16 :: a17 :: a18 :: a19 :: t).set 19 none = a0 :: a1 :: a2 :: a3 :: a4 :: a5 :: a6 :: a7 :: a8 :: a9 :: a10 :: a11 :: a12 :: a13 :: a14 :: a15 :: a16 :: a17 :: a18 :: none :: t := rfl
    rw [← e, List.getElem?_set_ne (by omega)] at h
    exact h
  · subst h1; cases h
  · have e : (a0 :: a1 :: a2 :: a3 :: a4 :: a5 :: a6 :: a7 :: a8 :: a9 :: a10 :: a11 :: a12 :: a13 :: a14 :: a15 :: a16 :: a17 :: a18 :: a19 :: t).set 19 none = a0 :: a1 :: a2 :: a3 :: a4 :: a5 :: a6 :: a7 :: a8 :: a9 :: a10 :: a11 :: a12 :: a13 :: a14 :: a15 :: a16 :: a17 :: a18 :: none :: t := rfl
    rw [← e, List.getElem?_set_ne (by omega)] at h
    exact h
theorem ev_drop_20 {own : String} {cc : ByteArray} {nL : Nat} {ini : Bool} {ret : Option FieldType} {R : Room} {ae ad : Nat → Nat} {Post : mPost} {pc : Nat} {a0 a1 a2 a3 a4 a5 a6 a7 a8 a9 a10 a11 a12 a13 a14 a15 a16 a17 a18 a19 a20 : Option Value} {t : List (Option Value)} {st : List Value} {k n : Nat} {sh : mSh} {σ : mSt} (K : Ev own cc nL ini ret R ae Post pc (a0 :: a1 :: a2 :: a3 :: a4 :: a5 :: a6 :: a7 :: a8 :: a9 :: a10 :: a11 :: a12 :: a13 :: a14 :: a15 :: a16 :: a17 :: a18 :: a19 :: none :: t) st k n ad sh σ) : Ev own cc nL ini ret R ae Post pc (a0 :: a1 :: a2 :: a3 :: a4 :: a5 :: a6 :: a7 :: a8 :: a9 :: a10 :: a11 :: a12 :: a13 :: a14 :: a15 :: a16 :: a17 :: a18 :: a19 :: a20 :: t) st k n ad sh σ := by
  refine Ev.less (fun j v h => ?_) K
  rcases Nat.lt_trichotomy j 20 with h1 | h1 | h1
  · have e : (a0 :: a1 :: a2 :: a3 :: a4 :: a5 :: a6 :: a7 :: a8 :: a9 :: a10 :: a11 :: a12 :: a13 :: a14 :: a15 :: a16 :: a17 :: a18 :: a19 :: a20 :: t).set 20 none = a0 :: a1 :: a2 :: a3 :: a4 :: a5 :: a6 :: a7 :: a8 :: a9 :: a10 :: a11 :: a12 :: a13 :: a14 :: a15 :: a16 :: a17 :: a18 :: a19 :: none :: t := rfl
    rw [← e, List.getElem?_set_ne (by omega)] at h
    exact h
  · subst h1; cases h
  · have e : (a0 :: a1 :: a2 :: a3 :: a4 :: a5 :: a6 :: a7 :: a8 :: a9 :: a10 :: a11 :: a12 :: a13 :: a14 :: a15 :: a16 :: a17 :: a18 :: a19 :: a20 :: t).set 20 none = a0 :: a1 :: a2 :: a3 :: a4 :: a5 :: a6 :: a7 :: a8 :: a9 :: a10 :: a11 :: a12 :: a13 :: a14 :: a15 :: a16 :: a17 :: a18 :: a19 :: none :: t := rfl
    rw [← e, List.getElem?_set_ne (by omega)] at h
    exact h
theorem ev_drop_21 {own : String} {cc : ByteArray} {nL : Nat} {ini : Bool} {ret : Option FieldType} {R : Room} {ae ad : Nat → Nat} {Post : mPost} {pc : Nat} {a0 a1 a2 a3 a4 a5 a6 a7 a8 a9 a10 a11 a12 a13 a14 a15 a16 a17 a18 a19 a20 a21 : Option Value} {t : List (Option Value)} {st : List Value} {k n : Nat} {sh : mSh} {σ : mSt} (K : Ev own cc nL ini ret R ae Post pc (a0 :: a1 :: a2 :: a3 :: a4 :: a5 :: a6 :: a7 :: a8 :: a9 :: a10 :: a11 :: a12 :: a13 :: a14 :: a15 :: a16 :: a17 :: a18 :: a19 :: a20 :: none :: t) st k n ad sh σ) : Ev own cc nL ini ret R ae Post pc (a0 :: a1 :: a2 :: a3 :: a4 :: a5 :: a6 :: a7 :: a8 :: a9 :: a10 :: a11 :: a12 :: a13 :: a14 :: a15 :: a16 :: a17 :: a18 :: a19 :: a20 :: a21 :: t) st k n ad sh σ := by
  refine Ev.less (fun j v h => ?_) K
  rcases Nat.lt_trichotomy j 21 with h1 | h1 | h1
  · have e : (a0 :: a1 :: a2 :: a3 :: a4 :: a5 :: a6 :: a7 :: a8 :: a9 :: a10 :: a11 :: a12 :: a13 :: a14 :: a15 :: a16 :: a17 :: a18 :: a19 :: a20 :: a21 :: t).set 21 none = a0 :: a1 :: a2 :: a3 :: a4 :: a5 :: a6 :: a7 :: a8 :: a9 :: a10 :: a11 :: a12 :: a13 :: a14 :: a15 :: a16 :: a17 :: a18 :: a19 :: a20 :: none :: t := rfl
    rw [← e, List.getElem?_set_ne (by omega)] at h
    exact h
  · subst h1; cases h
  · have e : (a0 :: a1 :: a2 :: a3 :: a4 :: a5 :: a6 :: a7 :: a8 :: a9 :: a10 :: a11 :: a12 :: a13 :: a14 :: a15 :: a16 :: a17 :: a18 :: a19 :: a20 :: a21 :: t).set 21 none = a0 :: a1 :: a2 :: a3 :: a4 :: a5 :: a6 :: a7 :: a8 :: a9 :: a10 :: a11 :: a12 :: a13 :: a14 :: a15 :: a16 :: a17 :: a18 :: a19 :: a20 :: none :: t := rfl
    rw [← e, List.getElem?_set_ne (by omega)] at h
    exact h
theorem ev_drop_22 {own : String} {cc : ByteArray} {nL : Nat} {ini : Bool} {ret : Option FieldType} {R : Room} {ae ad : Nat → Nat} {Post : mPost} {pc : Nat} {a0 a1 a2 a3 a4 a5 a6 a7 a8 a9 a10 a11 a12 a13 a14 a15 a16 a17 a18 a19 a20 a21 a22 : Option Value} {t : List (Option Value)} {st : List Value} {k n : Nat} {sh : mSh} {σ : mSt} (K : Ev own cc nL ini ret R ae Post pc (a0 :: a1 :: a2 :: a3 :: a4 :: a5 :: a6 :: a7 :: a8 :: a9 :: a10 :: a11 :: a12 :: a13 :: a14 :: a15 :: a16 :: a17 :: a18 :: a19 :: a20 :: a21 :: none :: t) st k n ad sh σ) : Ev own cc nL ini ret R ae Post pc (a0 :: a1 :: a2 :: a3 :: a4 :: a5 :: a6 :: a7 :: a8 :: a9 :: a10 :: a11 :: a12 :: a13 :: a14 :: a15 :: a16 :: a17 :: a18 :: a19 :: a20 :: a21 :: a22 :: t) st k n ad sh σ := by
  refine Ev.less (fun j v h => ?_) K
  rcases Nat.lt_trichotomy j 22 with h1 | h1 | h1
  · have e : (a0 :: a1 :: a2 :: a3 :: a4 :: a5 :: a6 :: a7 :: a8 :: a9 :: a10 :: a11 :: a12 :: a13 :: a14 :: a15 :: a16 :: a17 :: a18 :: a19 :: a20 :: a21 :: a22 :: t).set 22 none = a0 :: a1 :: a2 :: a3 :: a4 :: a5 :: a6 :: a7 :: a8 :: a9 :: a10 :: a11 :: a12 :: a13 :: a14 :: a15 :: a16 :: a17 :: a18 :: a19 :: a20 :: a21 :: none :: t := rfl
    rw [← e, List.getElem?_set_ne (by omega)] at h
    exact h
  · subst h1; cases h
  · have e : (a0 :: a1 :: a2 :: a3 :: a4 :: a5 :: a6 :: a7 :: a8 :: a9 :: a10 :: a11 :: a12 :: a13 :: a14 :: a15 :: a16 :: a17 :: a18 :: a19 :: a20 :: a21 :: a22 :: t).set 22 none = a0 :: a1 :: a2 :: a3 :: a4 :: a5 :: a6 :: a7 :: a8 :: a9 :: a10 :: a11 :: a12 :: a13 :: a14 :: a15 :: a16 :: a17 :: a18 :: a19 :: a20 :: a21 :: none :: t := rfl
    rw [← e, List.getElem?_set_ne (by omega)] at h
    exact h
theorem ev_drop_23 {own : String} {cc : ByteArray} {nL : Nat} {ini : Bool} {ret : Option FieldType} {R : Room} {ae ad : Nat → Nat} {Post : mPost} {pc : Nat} {a0 a1 a2 a3 a4 a5 a6 a7 a8 a9 a10 a11 a12 a13 a14 a15 a16 a17 a18 a19 a20 a21 a22 a23 : Option Value} {t : List (Option Value)} {st : List Value} {k n : Nat} {sh : mSh} {σ : mSt} (K : Ev own cc nL ini ret R ae Post pc (a0 :: a1 :: a2 :: a3 :: a4 :: a5 :: a6 :: a7 :: a8 :: a9 :: a10 :: a11 :: a12 :: a13 :: a14 :: a15 :: a16 :: a17 :: a18 :: a19 :: a20 :: a21 :: a22 :: none :: t) st k n ad sh σ) : Ev own cc nL ini ret R ae Post pc (a0 :: a1 :: a2 :: a3 :: a4 :: a5 :: a6 :: a7 :: a8 :: a9 :: a10 :: a11 :: a12 :: a13 :: a14 :: a15 :: a16 :: a17 :: a18 :: a19 :: a20 :: a21 :: a22 :: a23 :: t) st k n ad sh σ := by
  refine Ev.less (fun j v h => ?_) K
  rcases Nat.lt_trichotomy j 23 with h1 | h1 | h1
  · have e : (a0 :: a1 :: a2 :: a3 :: a4 :: a5 :: a6 :: a7 :: a8 :: a9 :: a10 :: a11 :: a12 :: a13 :: a14 :: a15 :: a16 :: a17 :: a18 :: a19 :: a20 :: a21 :: a22 :: a23 :: t).set 23 none = a0 :: a1 :: a2 :: a3 :: a4 :: a5 :: a6 :: a7 :: a8 :: a9 :: a10 :: a11 :: a12 :: a13 :: a14 :: a15 :: a16 :: a17 :: a18 :: a19 :: a20 :: a21 :: a22 :: none :: t := rfl
    rw [← e, List.getElem?_set_ne (by omega)] at h
    exact h
  · subst h1; cases h
  · have e : (a0 :: a1 :: a2 :: a3 :: a4 :: a5 :: a6 :: a7 :: a8 :: a9 :: a10 :: a11 :: a12 :: a13 :: a14 :: a15 :: a16 :: a17 :: a18 :: a19 :: a20 :: a21 :: a22 :: a23 :: t).set 23 none = a0 :: a1 :: a2 :: a3 :: a4 :: a5 :: a6 :: a7 :: a8 :: a9 :: a10 :: a11 :: a12 :: a13 :: a14 :: a15 :: a16 :: a17 :: a18 :: a19 :: a20 :: a21 :: a22 :: none :: t := rfl
    rw [← e, List.getElem?_set_ne (by omega)] at h
    exact h
theorem ev_drop_24 {own : String} {cc : ByteArray} {nL : Nat} {ini : Bool} {ret : Option FieldType} {R : Room} {ae ad : Nat → Nat} {Post : mPost} {pc : Nat} {a0 a1 a2 a3 a4 a5 a6 a7 a8 a9 a10 a11 a12 a13 a14 a15 a16 a17 a18 a19 a20 a21 a22 a23 a24 : Option Value} {t : List (Option Value)} {st : List Value} {k n : Nat} {sh : mSh} {σ : mSt} (K : Ev own cc nL ini ret R ae Post pc (a0 :: a1 :: a2 :: a3 :: a4 :: a5 :: a6 :: a7 :: a8 :: a9 :: a10 :: a11 :: a12 :: a13 :: a14 :: a15 :: a16 :: a17 :: a18 :: a19 :: a20 :: a21 :: a22 :: a23 :: none :: t) st k n ad sh σ) : Ev own cc nL ini ret R ae Post pc (a0 :: a1 :: a2 :: a3 :: a4 :: a5 :: a6 :: a7 :: a8 :: a9 :: a10 :: a11 :: a12 :: a13 :: a14 :: a15 :: a16 :: a17 :: a18 :: a19 :: a20 :: a21 :: a22 :: a23 :: a24 :: t) st k n ad sh σ := by
  refine Ev.less (fun j v h => ?_) K
  rcases Nat.lt_trichotomy j 24 with h1 | h1 | h1
  · have e : (a0 :: a1 :: a2 :: a3 :: a4 :: a5 :: a6 :: a7 :: a8 :: a9 :: a10 :: a11 :: a12 :: a13 :: a14 :: a15 :: a16 :: a17 :: a18 :: a19 :: a20 :: a21 :: a22 :: a23 :: a24 :: t).set 24 none = a0 :: a1 :: a2 :: a3 :: a4 :: a5 :: a6 :: a7 :: a8 :: a9 :: a10 :: a11 :: a12 :: a13 :: a14 :: a15 :: a16 :: a17 :: a18 :: a19 :: a20 :: a21 :: a22 :: a23 :: none :: t := rfl
    rw [← e, List.getElem?_set_ne (by omega)] at h
    exact h
  · subst h1; cases h
  · have e : (a0 :: a1 :: a2 :: a3 :: a4 :: a5 :: a6 :: a7 :: a8 :: a9 :: a10 :: a11 :: a12 :: a13 :: a14 :: a15 :: a16 :: a17 :: a18 :: a19 :: a20 :: a21 :: a22 :: a23 :: a24 :: t).set 24 none = a0 :: a1 :: a2 :: a3 :: a4 :: a5 :: a6 :: a7 :: a8 :: a9 :: a10 :: a11 :: a12 :: a13 :: a14 :: a15 :: a16 :: a17 :: a18 :: a19 :: a20 :: a21 :: a22 :: a23 :: none :: t := rfl
    rw [← e, List.getElem?_set_ne (by omega)] at h
    exact h
theorem ev_drop_25 {own : String} {cc : ByteArray} {nL : Nat} {ini : Bool} {ret : Option FieldType} {R : Room} {ae ad : Nat → Nat} {Post : mPost} {pc : Nat} {a0 a1 a2 a3 a4 a5 a6 a7 a8 a9 a10 a11 a12 a13 a14 a15 a16 a17 a18 a19 a20 a21 a22 a23 a24 a25 : Option Value} {t : List (Option Value)} {st : List Value} {k n : Nat} {sh : mSh} {σ : mSt} (K : Ev own cc nL ini ret R ae Post pc (a0 :: a1 :: a2 :: a3 :: a4 :: a5 :: a6 :: a7 :: a8 :: a9 :: a10 :: a11 :: a12 :: a13 :: a14 :: a15 :: a16 :: a17 :: a18 :: a19 :: a20 :: a21 :: a22 :: a23 :: a24 :: none :: t) st k n ad sh σ) : Ev own cc nL ini ret R ae Post pc (a0 :: a1 :: a2 :: a3 :: a4 :: a5 :: a6 :: a7 :: a8 :: a9 :: a10 :: a11 :: a12 :: a13 :: a14 :: a15 :: a16 :: a17 :: a18 :: a19 :: a20 :: a21 :: a22 :: a23 :: a24 :: a25 :: t) st k n ad sh σ := by
  refine Ev.less (fun j v h => ?_) K
  rcases Nat.lt_trichotomy j 25 with h1 | h1 | h1
  · have e : (a0 :: a1 :: a2 :: a3 :: a4 :: a5 :: a6 :: a7 :: a8 :: a9 :: a10 :: a11 :: a12 :: a13 :: a14 :: a15 :: a16 :: a17 :: a18 :: a19 :: a20 :: a21 :: a22 :: a23 :: a24 :: a25 :: t).set 25 none = a0 :: a1 :: a2 :: a3 :: a4 :: a5 :: a6 :: a7 :: a8 :: a9 :: a10 :: a11 :: a12 :: a13 :: a14 :: a15 :: a16 :: a17 :: a18 :: a19 :: a20 :: a21 :: a22 :: a23 :: a24 :: none :: t := rfl
    rw [← e, List.getElem?_set_ne (by omega)] at h
    exact h
  · subst h1; cases h
  · have e : (a0 :: a1 :: a2 :: a3 :: a4 :: a5 :: a6 :: a7 :: a8 :: a9 :: a10 :: a11 :: a12 :: a13 :: a14 :: a15 :: a16 :: a17 :: a18 :: a19 :: a20 :: a21 :: a22 :: a23 :: a24 :: a25 :: t).set 25 none = a0 :: a1 :: a2 :: a3 :: a4 :: a5 :: a6 :: a7 :: a8 :: a9 :: a10 :: a11 :: a12 :: a13 :: a14 :: a15 :: a16 :: a17 :: a18 :: a19 :: a20 :: a21 :: a22 :: a23 :: a24 :: none :: t := rfl
    rw [← e, List.getElem?_set_ne (by omega)] at h
    exact h
section MM
variable {own : String} {cc : ByteArray} {nL : Nat} {ini : Bool} {ret : Option FieldType} {R : Room} {ae ad : Nat → Nat} {Post : mPost} {pc : Nat} {ls : List (Option Value)} {rest : List Value} {k n : Nat} {sh : mSh} {σ : mSt}
theorem ev_max {idx : Nat} {x y : Int32} (hl : mLk own idx yJ9_max_7cf53) (hf : 1 ≤ R.frames) (hlo : 24 ≤ R.locals) (hcat : (rest.map fun v => v.category).sum ≤ 8) (hk : k ≤ R.cells) (hn : n ≤ R.slots) (hd : decode cc pc = .ok (.invokestatic idx, 3)) (K : Ev own cc nL ini ret R ae Post (pc + 3) ls (.int (maxR x y) :: rest) k n ad sh σ) : Ev own cc nL ini ret R ae Post pc ls (.int y :: .int x :: rest) k n ad sh σ := by
  intro p l e s m args below meth c D cy A Q H locs arr hC hE hA hP hD hS hL hR
  rcases hl with h | ⟨host, h⟩
  · exact va_mmax hC.1 hC.2.1 (hC.2.2.1.trans hL.1.symm) hC.2.2.2.1 (hC.2.2.2.2.1 _ h) (hC.2.2.2.2.1 _ ms_J9_max_7cf53) (hC.2.2.2.2.1 _ mm_J9_max_7cf53.2.1) (hC.2.2.2.2.1 _ mm_J9_max_7cf53.1) hf (by omega) hk hn hd (K p l e s m args below meth c D cy A Q H locs arr hC hE hA hP hD hS hL hR)
  · exact absurd (List.mem_filter.mpr ⟨h, by rfl⟩) (mm_noNest host own idx _ (Or.inl rfl))
theorem ev_min {idx : Nat} {x y : Int32} (hl : mLk own idx yJ9_min_7cf53) (hf : 1 ≤ R.frames) (hlo : 24 ≤ R.locals) (hcat : (rest.map fun v => v.category).sum ≤ 8) (hk : k ≤ R.cells) (hn : n ≤ R.slots) (hd : decode cc pc = .ok (.invokestatic idx, 3)) (K : Ev own cc nL ini ret R ae Post (pc + 3) ls (.int (minR x y) :: rest) k n ad sh σ) : Ev own cc nL ini ret R ae Post pc ls (.int y :: .int x :: rest) k n ad sh σ := by
  intro p l e s m args below meth c D cy A Q H locs arr hC hE hA hP hD hS hL hR
  rcases hl with h | ⟨host, h⟩
  · exact va_mmin hC.1 hC.2.1 (hC.2.2.1.trans hL.1.symm) hC.2.2.2.1 (hC.2.2.2.2.1 _ h) (hC.2.2.2.2.1 _ ms_J9_min_7cf53) (hC.2.2.2.2.1 _ mm_J9_min_7cf53.2.1) (hC.2.2.2.2.1 _ mm_J9_min_7cf53.1) hf (by omega) hk hn hd (K p l e s m args below meth c D cy A Q H locs arr hC hE hA hP hD hS hL hR)
  · exact absurd (List.mem_filter.mpr ⟨h, by rfl⟩) (mm_noNest host own idx _ (Or.inr rfl))
end MM
set_option maxRecDepth 100000 in
set_option maxHeartbeats 4000000 in
theorem c_popI {ae ad : Nat → Nat} {sh : mSh} {σ : mSt} {x : Int32} : Ct yJ6_bitCount_0f7a4 cJ6_bitCount_0f7a4 1 (some .int) 0 0 0 [.int x] ae ad sh σ (mEq (some (.int (popI x))) ad sh σ) := by
  refine Ct.ofL (own := RJ6) (ini := false) (ls := [some (.int x)]) (by decide +kernel) rfl (fun h => by cases h) (Nat.le_of_ble_eq_true rfl) rfl ?_
  refine ev_iload_0 dJ6_bitCount_0f7a4_0 ?_
  refine ev_iload_0 dJ6_bitCount_0f7a4_1 ?_
  refine ev_iconst_1 dJ6_bitCount_0f7a4_2 ?_
  refine ev_iushr dJ6_bitCount_0f7a4_3 ?_
  refine ev_ldcw kc_J6_265 dJ6_bitCount_0f7a4_4 ?_
  refine ev_iand dJ6_bitCount_0f7a4_7 ?_
  refine ev_isub dJ6_bitCount_0f7a4_8 ?_
  refine ev_istore_0 dJ6_bitCount_0f7a4_9 rfl ?_
  refine ev_iload_0 dJ6_bitCount_0f7a4_10 ?_
  refine ev_ldcw kc_J6_266 dJ6_bitCount_0f7a4_11 ?_
  refine ev_iand dJ6_bitCount_0f7a4_14 ?_
  refine ev_iload_0 dJ6_bitCount_0f7a4_15 ?_
  refine ev_iconst_2 dJ6_bitCount_0f7a4_16 ?_
  refine ev_iushr dJ6_bitCount_0f7a4_17 ?_
  refine ev_ldcw kc_J6_266 dJ6_bitCount_0f7a4_18 ?_
  refine ev_iand dJ6_bitCount_0f7a4_21 ?_
  refine ev_iadd dJ6_bitCount_0f7a4_22 ?_
  refine ev_istore_0 dJ6_bitCount_0f7a4_23 rfl ?_
  refine ev_iload_0 dJ6_bitCount_0f7a4_24 ?_
  refine ev_iload_0 dJ6_bitCount_0f7a4_25 ?_
  refine ev_iconst_4 dJ6_bitCount_0f7a4_26 ?_
  refine ev_iushr dJ6_bitCount_0f7a4_27 ?_
  refine ev_iadd dJ6_bitCount_0f7a4_28 ?_
  refine ev_ldcw kc_J6_267 dJ6_bitCount_0f7a4_29 ?_
  refine ev_iand dJ6_bitCount_0f7a4_32 ?_
  refine ev_istore_0 dJ6_bitCount_0f7a4_33 rfl ?_
  refine ev_iload_0 dJ6_bitCount_0f7a4_34 ?_
  refine ev_iload_0 dJ6_bitCount_0f7a4_35 ?_
  refine ev_bipush_8 dJ6_bitCount_0f7a4_36 ?_
  refine ev_iushr dJ6_bitCount_0f7a4_38 ?_
  refine ev_iadd dJ6_bitCount_0f7a4_39 ?_
  refine ev_istore_0 dJ6_bitCount_0f7a4_40 rfl ?_
  refine ev_iload_0 dJ6_bitCount_0f7a4_41 ?_
  refine ev_iload_0 dJ6_bitCount_0f7a4_42 ?_
  refine ev_bipush_16 dJ6_bitCount_0f7a4_43 ?_
  refine ev_iushr dJ6_bitCount_0f7a4_45 ?_
  refine ev_iadd dJ6_bitCount_0f7a4_46 ?_
  refine ev_istore_0 dJ6_bitCount_0f7a4_47 rfl ?_
  refine ev_iload_0 dJ6_bitCount_0f7a4_48 ?_
  refine ev_bipush_63 dJ6_bitCount_0f7a4_49 ?_
  refine ev_iand dJ6_bitCount_0f7a4_51 ?_
  exact ev_iret dJ6_bitCount_0f7a4_52 rfl rfl
set_option maxRecDepth 100000 in
set_option maxHeartbeats 4000000 in
theorem c_popL {ae ad : Nat → Nat} {sh : mSh} {σ : mSt} {x : Int64} : Ct yJ13_bitCount_95d88 cJ13_bitCount_95d88 2 (some .int) 0 0 0 [.long x] ae ad sh σ (mEq (some (.int (popL x))) ad sh σ) := by
  refine Ct.ofL (own := RJ13) (ini := false) (ls := [some (.long x), none]) (by decide +kernel) rfl (fun h => by cases h) (Nat.le_of_ble_eq_true rfl) rfl ?_
  refine ev_lload_0 dJ13_bitCount_95d88_0 ?_
  refine ev_lload_0 dJ13_bitCount_95d88_1 ?_
  refine ev_iconst_1 dJ13_bitCount_95d88_2 ?_
  refine ev_lushr dJ13_bitCount_95d88_3 ?_
  refine ev_ldc2 kc_J13_314 dJ13_bitCount_95d88_4 ?_
  refine ev_land dJ13_bitCount_95d88_7 ?_
  refine ev_lsub dJ13_bitCount_95d88_8 ?_
  refine ev_lstore_0 dJ13_bitCount_95d88_9 rfl ?_
  refine ev_lload_0 dJ13_bitCount_95d88_10 ?_
  refine ev_ldc2 kc_J13_316 dJ13_bitCount_95d88_11 ?_
  refine ev_land dJ13_bitCount_95d88_14 ?_
  refine ev_lload_0 dJ13_bitCount_95d88_15 ?_
  refine ev_iconst_2 dJ13_bitCount_95d88_16 ?_
  refine ev_lushr dJ13_bitCount_95d88_17 ?_
  refine ev_ldc2 kc_J13_316 dJ13_bitCount_95d88_18 ?_
  refine ev_land dJ13_bitCount_95d88_21 ?_
  refine ev_ladd dJ13_bitCount_95d88_22 ?_
  refine ev_lstore_0 dJ13_bitCount_95d88_23 rfl ?_
  refine ev_lload_0 dJ13_bitCount_95d88_24 ?_
  refine ev_lload_0 dJ13_bitCount_95d88_25 ?_
  refine ev_iconst_4 dJ13_bitCount_95d88_26 ?_
  refine ev_lushr dJ13_bitCount_95d88_27 ?_
  refine ev_ladd dJ13_bitCount_95d88_28 ?_
  refine ev_ldc2 kc_J13_318 dJ13_bitCount_95d88_29 ?_
  refine ev_land dJ13_bitCount_95d88_32 ?_
  refine ev_lstore_0 dJ13_bitCount_95d88_33 rfl ?_
  refine ev_lload_0 dJ13_bitCount_95d88_34 ?_
  refine ev_lload_0 dJ13_bitCount_95d88_35 ?_
  refine ev_bipush_8 dJ13_bitCount_95d88_36 ?_
  refine ev_lushr dJ13_bitCount_95d88_38 ?_
  refine ev_ladd dJ13_bitCount_95d88_39 ?_
  refine ev_lstore_0 dJ13_bitCount_95d88_40 rfl ?_
  refine ev_lload_0 dJ13_bitCount_95d88_41 ?_
  refine ev_lload_0 dJ13_bitCount_95d88_42 ?_
  refine ev_bipush_16 dJ13_bitCount_95d88_43 ?_
  refine ev_lushr dJ13_bitCount_95d88_45 ?_
  refine ev_ladd dJ13_bitCount_95d88_46 ?_
  refine ev_lstore_0 dJ13_bitCount_95d88_47 rfl ?_
  refine ev_lload_0 dJ13_bitCount_95d88_48 ?_
  refine ev_lload_0 dJ13_bitCount_95d88_49 ?_
  refine ev_bipush_32 dJ13_bitCount_95d88_50 ?_
  refine ev_lushr dJ13_bitCount_95d88_52 ?_
  refine ev_ladd dJ13_bitCount_95d88_53 ?_
  refine ev_lstore_0 dJ13_bitCount_95d88_54 rfl ?_
  refine ev_lload_0 dJ13_bitCount_95d88_55 ?_
  refine ev_l2i dJ13_bitCount_95d88_56 ?_
  refine ev_bipush_127 dJ13_bitCount_95d88_57 ?_
  refine ev_iand dJ13_bitCount_95d88_59 ?_
  exact ev_iret dJ13_bitCount_95d88_60 rfl rfl
set_option maxRecDepth 100000 in
set_option maxHeartbeats 4000000 in
theorem c_menOnBoard {ae ad : Nat → Nat} {sh : mSh} {σ : mSt} {p : Nat} (hp : mPos ad sh p) : Ct yX6_menOnBoard cX6_menOnBoard 1 (some .int) 1 0 0 [.ref (ad p)] ae ad sh σ (mEq (some (.int (popL (σ.2 p 6 ||| σ.2 p 7)))) ad sh σ) := by
  refine Ct.ofL (own := RX6) (ini := false) (ls := [some (.ref (ad p))]) (by decide +kernel) rfl (fun h => by cases h) (Nat.le_of_ble_eq_true rfl) rfl ?_
  refine ev_aload_0 dX6_menOnBoard_0 ?_
  refine gf_X6_35 dX6_menOnBoard_1 hp.1 rfl ?_
  refine ev_aload_0 dX6_menOnBoard_4 ?_
  refine gf_X6_39 dX6_menOnBoard_5 hp.1 rfl ?_
  refine ev_lor dX6_menOnBoard_8 ?_
  refine cl_X6_52 c_popL dX6_menOnBoard_9 rfl (Nat.le_of_ble_eq_true rfl) ?_
  exact ev_ireturn dX6_menOnBoard_12
set_option maxRecDepth 100000 in
set_option maxHeartbeats 4000000 in
theorem c_lineAdd {ae ad : Nat → Nat} {sh : mSh} {σ : mSt} {p L : Nat} (hp : mLine ad sh p) (hL : σ.1 p 1 = nI L) (hL2 : L ≤ 60) {x : Int32} : Ct yX2_add cX2_add 2 (some .boolean) 0 0 0 [.ref (ad p), .int x] ae ad sh σ (mEq (some (.int (b2i (decide (L < 60))))) ad sh (if L < 60 then (mu (mu σ.1 (p + 1) L x) p 1 (nI (L + 1)), σ.2) else σ)) := by
  refine Ct.ofL (own := RX2) (ini := false) (ls := [some (.ref (ad p)), some (.int x)]) (by decide +kernel) rfl (fun h => by cases h) (Nat.le_of_ble_eq_true rfl) rfl ?_
  refine ev_aload_0 dX2_add_0 ?_
  refine gf_X2_15 dX2_add_1 hp.1 rfl ?_
  refine ev_if_lt (tgt := 19) dX2_add_4 (by decide) (fun h4 => absurd h4 (by rw [hL]; exact nI_pos (by omega))) (fun h4 => ?_)
  refine ev_aload_0 dX2_add_7 ?_
  refine gf_X2_15 dX2_add_8 hp.1 rfl ?_
  refine ev_aload_0 dX2_add_11 ?_
  refine gf_X2_9 dX2_add_12 hp.1 rfl ?_
  refine ev_alen hp.2 rfl dX2_add_15 ?_
  refine ev_icmp_lt (tgt := 21) dX2_add_16 (by decide) (fun h16 => ?_) (fun h16 => ?_)
  · have g9 : L < 60 := (by rw [hL] at h16; exact (nI_ltI (b := 60) (by omega) (by decide)).mp h16)
    refine ev_aload_0 dX2_add_21 ?_
    refine gf_X2_9 dX2_add_22 hp.1 rfl ?_
    refine ev_aload_0 dX2_add_25 ?_
    refine gf_X2_15 dX2_add_26 hp.1 rfl ?_
    refine ev_iload_1 dX2_add_29 ?_
    refine ev_iast hp.2 (by rw [hL]; exact vp_in_nI g9 (by decide)) dX2_add_30 ?_
    refine ev_aload_0 dX2_add_31 ?_
    refine ev_dup dX2_add_32 rfl ?_
    refine gf_X2_15 dX2_add_33 hp.1 rfl ?_
    refine ev_iconst_1 dX2_add_36 ?_
    refine ev_iadd dX2_add_37 ?_
    refine pf_X2_15 dX2_add_38 hp.1 rfl ?_
    refine ev_iconst_1 dX2_add_41 ?_
    exact ev_zret (b2i_nar _) dX2_add_42 (by simp [b2i, g9]) (by simp [g9, mu, hL, nI_clamp (show L < 2 ^ 31 by omega), nI_1])
  · have g9 : ¬ L < 60 := (fun g => h16 (by rw [hL]; exact nI_lt (b := 60) g (by decide)))
    refine ev_iconst_0 dX2_add_19 ?_
    exact ev_zret (b2i_nar _) dX2_add_20 (by simp [b2i, g9]) (by simp [g9])
set_option maxRecDepth 100000 in
set_option maxHeartbeats 4000000 in
theorem c_signAt {ae ad : Nat → Nat} {sh : mSh} {σ : mSt} {p L : Nat} (hp : mLine ad sh p) (hL : σ.1 p 1 = nI L) (hL2 : L ≤ 60) {i : Int32} : Ct yX2_signAt cX2_signAt 2 (some .int) 0 0 0 [.ref (ad p), .int i] ae ad sh σ (mEq (some (.int (cellD (-1) (σ.1 (p + 1)) L i))) ad sh σ) := by
  refine Ct.ofL (own := RX2) (ini := false) (ls := [some (.ref (ad p)), some (.int i)]) (by decide +kernel) rfl (fun h => by cases h) (Nat.le_of_ble_eq_true rfl) rfl ?_
  refine ev_iload_1 dX2_signAt_0 ?_
  refine ev_if_lt (tgt := 30) dX2_signAt_1 (by decide) (fun h1 => ?_) (fun h1 => ?_)
  · refine ev_iconst_m1 dX2_signAt_30 ?_
    exact ev_iret dX2_signAt_31 (by first | exact (if_pos (Or.inl h1)).symm | (rw [hL] at h9; exact (if_pos (vp_not (show L < 2 ^ 31 by omega) h1 h9)).symm) | (rw [hL] at h9; exact (if_neg (vp_of (show L < 2 ^ 31 by omega) h1 h9)).symm)) rfl
  · refine ev_iload_1 dX2_signAt_4 ?_
    refine ev_aload_0 dX2_signAt_5 ?_
    refine gf_X2_15 dX2_signAt_6 hp.1 rfl ?_
    refine ev_icmp_ge (tgt := 30) dX2_signAt_9 (by decide) (fun h9 => ?_) (fun h9 => ?_)
    · refine ev_iconst_m1 dX2_signAt_30 ?_
      exact ev_iret dX2_signAt_31 (by first | exact (if_pos (Or.inl h1)).symm | (rw [hL] at h9; exact (if_pos (vp_not (show L < 2 ^ 31 by omega) h1 h9)).symm) | (rw [hL] at h9; exact (if_neg (vp_of (show L < 2 ^ 31 by omega) h1 h9)).symm)) rfl
    · refine ev_iload_1 dX2_signAt_12 ?_
      refine ev_aload_0 dX2_signAt_13 ?_
      refine gf_X2_9 dX2_signAt_14 hp.1 rfl ?_
      refine ev_alen hp.2 rfl dX2_signAt_17 ?_
      refine ev_icmp_ge (tgt := 30) dX2_signAt_18 (by decide) (fun h18 => absurd h18 (fun q => vp_le (vp_of (show L < 2 ^ 31 by omega) h1 (by rw [hL] at h9; exact h9)) hL2 (vp_not (by decide) h1 q))) (fun h18 => ?_)
      refine ev_aload_0 dX2_signAt_21 ?_
      refine gf_X2_9 dX2_signAt_22 hp.1 rfl ?_
      refine ev_iload_1 dX2_signAt_25 ?_
      refine ev_iald hp.2 (vp_le (vp_of (show L < 2 ^ 31 by omega) h1 (by rw [hL] at h9; exact h9)) hL2) dX2_signAt_26 ?_
      refine ev_goto (tgt := 31) dX2_signAt_27 (by decide) ?_
      exact ev_iret dX2_signAt_31 (by first | exact (if_pos (Or.inl h1)).symm | (rw [hL] at h9; exact (if_pos (vp_not (show L < 2 ^ 31 by omega) h1 h9)).symm) | (rw [hL] at h9; exact (if_neg (vp_of (show L < 2 ^ 31 by omega) h1 h9)).symm)) rfl
set_option maxRecDepth 100000 in
set_option maxHeartbeats 4000000 in
theorem c_answer {ae ad : Nat → Nat} {sh : mSh} {σ : mSt} {p L : Nat} (hp : mLine ad sh p) (hL : σ.1 p 1 = nI L) (hL2 : L ≤ 60) {i : Int32} : Ct yX2_answer cX2_answer 2 (some .int) 1 0 0 [.ref (ad p), .int i] ae ad sh σ (mEq (some (.int (if i = -1 then nI L else cellD (-1) (σ.1 (p + 1)) L i))) ad sh σ) := by
  refine Ct.ofL (own := RX2) (ini := false) (ls := [some (.ref (ad p)), some (.int i)]) (by decide +kernel) rfl (fun h => by cases h) (Nat.le_of_ble_eq_true rfl) rfl ?_
  refine ev_iload_1 dX2_answer_0 ?_
  refine ev_iconst_m1 dX2_answer_1 ?_
  refine ev_icmp_ne (tgt := 12) dX2_answer_2 (by decide) (fun h2 => ?_) (fun h2 => ?_)
  · refine ev_aload_0 dX2_answer_12 ?_
    refine ev_iload_1 dX2_answer_13 ?_
    refine cl_X2_19 (c_signAt hp hL hL2) hp.1 dX2_answer_14 rfl (Nat.le_of_ble_eq_true rfl) ?_
    exact ev_iret dX2_answer_17 (by simp [*]) rfl
  · refine ev_aload_0 dX2_answer_5 ?_
    refine gf_X2_15 dX2_answer_6 hp.1 rfl ?_
    refine ev_goto (tgt := 17) dX2_answer_9 (by decide) ?_
    exact ev_iret dX2_answer_17 (by simp [*]) rfl
set_option maxRecDepth 100000 in
set_option maxHeartbeats 4000000 in
theorem c_listAdd {ae ad : Nat → Nat} {sh : mSh} {σ : mSt} {p L : Nat} (hp : mList ad sh p) (hL : σ.1 p 1 = nI L) (hL2 : L < 445) {x : Int32} : Ct yX3_add cX3_add 2 none 0 0 0 [.ref (ad p), .int x] ae ad sh σ (mEq none ad sh (mu (mu σ.1 (p + 1) L x) p 1 (nI (L + 1)), σ.2)) := by
  refine Ct.ofL (own := RX3) (ini := false) (ls := [some (.ref (ad p)), some (.int x)]) (by decide +kernel) rfl (fun h => by cases h) (Nat.le_of_ble_eq_true rfl) rfl ?_
  refine ev_aload_0 dX3_add_0 ?_
  refine gf_X3_15 dX3_add_1 hp.1 rfl ?_
  refine ev_if_lt (tgt := 39) dX3_add_4 (by decide) (fun h4 => absurd h4 (by rw [hL]; exact nI_pos (by omega))) (fun h4 => ?_)
  refine ev_aload_0 dX3_add_7 ?_
  refine gf_X3_15 dX3_add_8 hp.1 rfl ?_
  refine ev_aload_0 dX3_add_11 ?_
  refine gf_X3_9 dX3_add_12 hp.1 rfl ?_
  refine ev_alen hp.2 rfl dX3_add_15 ?_
  refine ev_icmp_ge (tgt := 39) dX3_add_16 (by decide) (fun h16 => absurd h16 (by rw [hL]; exact nI_ge (b := 445) hL2 (by decide))) (fun h16 => ?_)
  refine ev_aload_0 dX3_add_19 ?_
  refine gf_X3_9 dX3_add_20 hp.1 rfl ?_
  refine ev_aload_0 dX3_add_23 ?_
  refine gf_X3_15 dX3_add_24 hp.1 rfl ?_
  refine ev_iload_1 dX3_add_27 ?_
  refine ev_iast hp.2 (by rw [hL]; exact vp_in_nI hL2 (by decide)) dX3_add_28 ?_
  refine ev_aload_0 dX3_add_29 ?_
  refine ev_dup dX3_add_30 rfl ?_
  refine gf_X3_15 dX3_add_31 hp.1 rfl ?_
  refine ev_iconst_1 dX3_add_34 ?_
  refine ev_iadd dX3_add_35 ?_
  refine pf_X3_15 dX3_add_36 hp.1 rfl ?_
  exact ev_vret dX3_add_39 (by simp [mu, hL, nI_clamp (show L < 2 ^ 31 by omega), nI_1])
set_option maxRecDepth 100000 in
set_option maxHeartbeats 4000000 in
theorem c_moveAt {ae ad : Nat → Nat} {sh : mSh} {σ : mSt} {p L : Nat} (hp : mList ad sh p) (hL : σ.1 p 1 = nI L) (hL2 : L ≤ 445) {i : Int32} : Ct yX3_moveAt cX3_moveAt 2 (some .int) 0 0 0 [.ref (ad p), .int i] ae ad sh σ (mEq (some (.int (cellD (-1) (σ.1 (p + 1)) L i))) ad sh σ) := by
  refine Ct.ofL (own := RX3) (ini := false) (ls := [some (.ref (ad p)), some (.int i)]) (by decide +kernel) rfl (fun h => by cases h) (Nat.le_of_ble_eq_true rfl) rfl ?_
  refine ev_iload_1 dX3_moveAt_0 ?_
  refine ev_if_lt (tgt := 30) dX3_moveAt_1 (by decide) (fun h1 => ?_) (fun h1 => ?_)
  · refine ev_iconst_m1 dX3_moveAt_30 ?_
    exact ev_iret dX3_moveAt_31 (by first | exact (if_pos (Or.inl h1)).symm | (rw [hL] at h9; exact (if_pos (vp_not (show L < 2 ^ 31 by omega) h1 h9)).symm) | (rw [hL] at h9; exact (if_neg (vp_of (show L < 2 ^ 31 by omega) h1 h9)).symm)) rfl
  · refine ev_iload_1 dX3_moveAt_4 ?_
    refine ev_aload_0 dX3_moveAt_5 ?_
    refine gf_X3_15 dX3_moveAt_6 hp.1 rfl ?_
    refine ev_icmp_ge (tgt := 30) dX3_moveAt_9 (by decide) (fun h9 => ?_) (fun h9 => ?_)
    · refine ev_iconst_m1 dX3_moveAt_30 ?_
      exact ev_iret dX3_moveAt_31 (by first | exact (if_pos (Or.inl h1)).symm | (rw [hL] at h9; exact (if_pos (vp_not (show L < 2 ^ 31 by omega) h1 h9)).symm) | (rw [hL] at h9; exact (if_neg (vp_of (show L < 2 ^ 31 by omega) h1 h9)).symm)) rfl
    · refine ev_iload_1 dX3_moveAt_12 ?_
      refine ev_aload_0 dX3_moveAt_13 ?_
      refine gf_X3_9 dX3_moveAt_14 hp.1 rfl ?_
      refine ev_alen hp.2 rfl dX3_moveAt_17 ?_
      refine ev_icmp_ge (tgt := 30) dX3_moveAt_18 (by decide) (fun h18 => absurd h18 (fun q => vp_le (vp_of (show L < 2 ^ 31 by omega) h1 (by rw [hL] at h9; exact h9)) hL2 (vp_not (by decide) h1 q))) (fun h18 => ?_)
      refine ev_aload_0 dX3_moveAt_21 ?_
      refine gf_X3_9 dX3_moveAt_22 hp.1 rfl ?_
      refine ev_iload_1 dX3_moveAt_25 ?_
      refine ev_iald hp.2 (vp_le (vp_of (show L < 2 ^ 31 by omega) h1 (by rw [hL] at h9; exact h9)) hL2) dX3_moveAt_26 ?_
      refine ev_goto (tgt := 31) dX3_moveAt_27 (by decide) ?_
      exact ev_iret dX3_moveAt_31 (by first | exact (if_pos (Or.inl h1)).symm | (rw [hL] at h9; exact (if_pos (vp_not (show L < 2 ^ 31 by omega) h1 h9)).symm) | (rw [hL] at h9; exact (if_neg (vp_of (show L < 2 ^ 31 by omega) h1 h9)).symm)) rfl
set_option maxRecDepth 100000 in
set_option maxHeartbeats 4000000 in
theorem c_trBegin {ae ad : Nat → Nat} {sh : mSh} {σ : mSt} {p : Nat} (hp : mTrail ad sh p) {d : Int32} : Ct yX8_begin cX8_begin 2 none 1 0 0 [.ref (ad p), .int d] ae ad sh σ (mEq none ad sh (mu (mu σ.1 p 3 0) (p + 3) 0 d, σ.2)) := by
  refine Ct.ofL (own := RX8) (ini := false) (ls := [some (.ref (ad p)), some (.int d)]) (by decide +kernel) rfl (fun h => by cases h) (Nat.le_of_ble_eq_true rfl) rfl ?_
  refine ev_aload_0 dX8_begin_0 ?_
  refine ev_iconst_0 dX8_begin_1 ?_
  refine pf_X8_25 dX8_begin_2 hp.1 rfl ?_
  refine ev_aload_0 dX8_begin_5 ?_
  refine gf_X8_18 dX8_begin_6 hp.1 rfl ?_
  refine ev_iconst_0 dX8_begin_9 ?_
  refine ev_iload_1 dX8_begin_10 ?_
  refine cl_X8_29 (c_setCell hp.2.2.2 (by decide)) dX8_begin_11 rfl (Nat.le_of_ble_eq_true rfl) ?_
  exact ev_vret dX8_begin_14 (by rw [show (0 : Int32) = nI 0 from rfl, setV_nI (by decide) (by decide)]; rfl)
set_option maxRecDepth 100000 in
set_option maxHeartbeats 4000000 in
theorem c_trAdd {ae ad : Nat → Nat} {sh : mSh} {σ : mSt} {p M : Nat} (hp : mTrail ad sh p) (hM : σ.1 p 3 = nI M) (hM2 : M < 40) {m u d : Int32} : Ct yX8_add cX8_add 4 none 1 0 0 [.ref (ad p), .int m, .int u, .int d] ae ad sh σ (mEq none ad sh (mr (mu (mr (mr σ.1 (p + 1) (upd (σ.1 (p + 1)) M m)) (p + 2) (upd (σ.1 (p + 2)) M u)) p 3 (nI (M + 1))) (p + 3) (upd (σ.1 (p + 3)) (M + 1) d), σ.2)) := by
  refine Ct.ofL (own := RX8) (ini := false) (ls := [some (.ref (ad p)), some (.int m), some (.int u), some (.int d)]) (by decide +kernel) rfl (fun h => by cases h) (Nat.le_of_ble_eq_true rfl) rfl ?_
  refine ev_aload_0 dX8_add_0 ?_
  refine gf_X8_9 dX8_add_1 hp.1 rfl ?_
  refine ev_aload_0 dX8_add_4 ?_
  refine gf_X8_25 dX8_add_5 hp.1 rfl ?_
  rw [hM]
  refine ev_iload_1 dX8_add_8 ?_
  refine cl_X8_29 (c_setCell hp.2.1 (by decide)) dX8_add_9 rfl (Nat.le_of_ble_eq_true rfl) ?_
  rw [setV_nI (show M < 2 ^ 31 by omega) (show M < 40 by omega)]
  refine ev_aload_0 dX8_add_12 ?_
  refine gf_X8_15 dX8_add_13 hp.1 rfl ?_
  refine ev_aload_0 dX8_add_16 ?_
  refine gf_X8_25 dX8_add_17 hp.1 rfl ?_
  rw [show (mr σ.1 (p + 1) (upd (σ.1 (p + 1)) M m), σ.2).1 p 3 = nI M by dsimp only; rw [mr_ne _ _ (by omega), hM]]
  refine ev_iload_2 dX8_add_20 ?_
  refine cl_X8_29 (c_setCell hp.2.2.1 (by decide)) dX8_add_21 rfl (Nat.le_of_ble_eq_true rfl) ?_
  rw [setV_nI (show M < 2 ^ 31 by omega) (show M < 40 by omega)]
  refine ev_aload_0 dX8_add_24 ?_
  refine ev_dup dX8_add_25 rfl ?_
  refine gf_X8_25 dX8_add_26 hp.1 rfl ?_
  refine ev_iconst_1 dX8_add_29 ?_
  refine ev_iadd dX8_add_30 ?_
  refine pf_X8_25 dX8_add_31 hp.1 rfl ?_
  refine ev_aload_0 dX8_add_34 ?_
  refine gf_X8_18 dX8_add_35 hp.1 rfl ?_
  dsimp only
  refine ev_aload_0 dX8_add_38 ?_
  refine gf_X8_25 dX8_add_39 hp.1 rfl ?_
  refine ev_iload_3 dX8_add_42 ?_
  refine cl_X8_29 (c_setCell hp.2.2.2 (by decide)) dX8_add_43 rfl (Nat.le_of_ble_eq_true rfl) ?_
  exact ev_vret dX8_add_46 (by have a1 : M + 1 < 2 ^ 31 := (by omega); have a2 : M + 1 < 41 := (by omega); simp [mu, mr, hM, nI_1, upd, setV_nI a1 a2, show ¬ p = p + 1 by omega, show ¬ p = p + 2 by omega, show ¬ p + 3 = p by omega, show ¬ p + 3 = p + 1 by omega, show ¬ p + 3 = p + 2 by omega, show ¬ p + 2 = p + 1 by omega])
set_option maxRecDepth 100000 in
set_option maxHeartbeats 4000000 in
theorem c_trOcc_16 {ae ad : Nat → Nat} {sh : mSh} {σ : mSt} {p M : Nat} (hp : mTrail ad sh p) (hM : σ.1 p 3 = nI M) (hM2 : M ≤ 40) : ∀ (n i : Nat), (M + 1) - i = n → i ≤ (M + 1) → Ev RX8 cX8_occurrences 4 false (some .int) (mRm 1 0 0) ae (mEq (some (.int (nI (cntF (fun k => decide (σ.1 (p + 3) k = σ.1 (p + 3) M)) (M + 1))))) ad sh σ) 16 [some (.ref (ad p)), some (.int (σ.1 (p + 3) M)), some (.int (nI (cntF (fun k => decide (σ.1 (p + 3) k = σ.1 (p + 3) M)) i))), some (.int (nI i))] [] 0 0 ad sh σ := by
  intro n
  induction n with
  | zero =>
    intro i hn hi
    have e : i = (M + 1) := by omega
    subst e
    refine ev_iload_3 dX8_occurrences_16 ?_
    refine ev_aload_0 dX8_occurrences_17 ?_
    refine gf_X8_25 dX8_occurrences_18 hp.1 rfl ?_
    refine ev_icmp_gt (tgt := 52) dX8_occurrences_21 (by decide) (fun h21 => ?_) (fun h21 => absurd (by rw [hM]; exact nI_lt (by omega) (by omega)) h21)
    refine ev_iload_2 dX8_occurrences_52 ?_
    exact ev_iret dX8_occurrences_53 rfl rfl
  | succ n ih =>
    intro i hn hi
    have hlt : i < (M + 1) := by omega
    refine ev_iload_3 dX8_occurrences_16 ?_
    refine ev_aload_0 dX8_occurrences_17 ?_
    refine gf_X8_25 dX8_occurrences_18 hp.1 rfl ?_
    refine ev_icmp_gt (tgt := 52) dX8_occurrences_21 (by decide) (fun h21 => absurd h21 (by rw [hM]; exact nI_nlt (by omega) (by omega))) (fun h21 => ?_)
    refine ev_iload_3 dX8_occurrences_24 ?_
    refine ev_aload_0 dX8_occurrences_25 ?_
    refine gf_X8_18 dX8_occurrences_26 hp.1 rfl ?_
    refine ev_alen hp.2.2.2 rfl dX8_occurrences_29 ?_
    refine ev_icmp_ge (tgt := 52) dX8_occurrences_30 (by decide) (fun h30 => absurd h30 (nI_ge (b := 41) (by omega) (by decide))) (fun h30 => ?_)
    refine ev_aload_0 dX8_occurrences_33 ?_
    refine gf_X8_18 dX8_occurrences_34 hp.1 rfl ?_
    refine ev_iload_3 dX8_occurrences_37 ?_
    refine ev_iald hp.2.2.2 (vp_in_nI (by omega) (by decide)) dX8_occurrences_38 ?_
    refine ev_iload_1 dX8_occurrences_39 ?_
    refine ev_icmp_ne (tgt := 46) dX8_occurrences_40 (by decide) (fun h40 => ?_) (fun h40 => ?_)
    · refine ev_iinc_3 (v := 1) dX8_occurrences_46 (by decide) rfl rfl ?_
      refine ev_goto (tgt := 16) dX8_occurrences_49 (by decide) ?_
      exact Ev.to (by rw [nI_clamp (by omega)] at *; simp_all [cntF, nI_1]) rfl rfl (ih (i + 1) (by omega) (by omega))
    · refine ev_iinc_2 (v := 1) dX8_occurrences_43 (by decide) rfl rfl ?_
      refine ev_iinc_3 (v := 1) dX8_occurrences_46 (by decide) rfl rfl ?_
      refine ev_goto (tgt := 16) dX8_occurrences_49 (by decide) ?_
      exact Ev.to (by rw [nI_clamp (by omega)] at *; simp_all [cntF, nI_1]) rfl rfl (ih (i + 1) (by omega) (by omega))
set_option maxRecDepth 100000 in
set_option maxHeartbeats 4000000 in
theorem c_trOcc {ae ad : Nat → Nat} {sh : mSh} {σ : mSt} {p M : Nat} (hp : mTrail ad sh p) (hM : σ.1 p 3 = nI M) (hM2 : M ≤ 40) : Ct yX8_occurrences cX8_occurrences 4 (some .int) 1 0 0 [.ref (ad p)] ae ad sh σ (mEq (some (.int (nI (cntF (fun k => decide (σ.1 (p + 3) k = σ.1 (p + 3) M)) (M + 1))))) ad sh σ) := by
  refine Ct.ofL (own := RX8) (ini := false) (ls := [some (.ref (ad p)), none, none, none]) (by decide +kernel) rfl (fun h => by cases h) (Nat.le_of_ble_eq_true rfl) rfl ?_
  refine ev_aload_0 dX8_occurrences_0 ?_
  refine gf_X8_18 dX8_occurrences_1 hp.1 rfl ?_
  refine ev_aload_0 dX8_occurrences_4 ?_
  refine gf_X8_25 dX8_occurrences_5 hp.1 rfl ?_
  refine cl_X8_33 (c_cell hp.2.2.2 (by decide)) dX8_occurrences_8 rfl (Nat.le_of_ble_eq_true rfl) ?_
  rw [hM, cellV_nI (by omega) (by omega)]
  refine ev_istore_1 dX8_occurrences_11 rfl rfl ?_
  refine ev_iconst_0 dX8_occurrences_12 ?_
  refine ev_istore_2 dX8_occurrences_13 rfl rfl ?_
  refine ev_iconst_0 dX8_occurrences_14 ?_
  refine ev_istore_3 dX8_occurrences_15 rfl rfl ?_
  exact c_trOcc_16 hp hM hM2 (M + 1) 0 rfl (Nat.zero_le _)
set_option maxRecDepth 100000 in
set_option maxHeartbeats 4000000 in
theorem c_partsOf {ae ad : Nat → Nat} {sh : mSh} {σ : mSt} {p : Nat} (hp : mLaws ad sh p) {t : Int32} : Ct yX1_partsOf cX1_partsOf 2 (some .int) 1 0 0 [.ref (ad p), .int t] ae ad sh σ (mEq (some (.int (cellV (σ.1 (p + 1)) 6 t))) ad sh σ) := by
  refine Ct.ofL (own := RX1) (ini := false) (ls := [some (.ref (ad p)), some (.int t)]) (by decide +kernel) rfl (fun h => by cases h) (Nat.le_of_ble_eq_true rfl) rfl ?_
  refine ev_aload_0 dX1_partsOf_0 ?_
  refine gf_X1_9 dX1_partsOf_1 hp.1 rfl ?_
  refine ev_iload_1 dX1_partsOf_4 ?_
  refine cl_X1_64 (c_cell hp.2.1 (by decide)) dX1_partsOf_5 rfl (Nat.le_of_ble_eq_true rfl) ?_
  exact ev_ireturn dX1_partsOf_8
set_option maxRecDepth 100000 in
set_option maxHeartbeats 4000000 in
theorem c_isRoyal {ae ad : Nat → Nat} {sh : mSh} {σ : mSt} {p : Nat} (hp : mLaws ad sh p) {t : Int32} : Ct yX1_isRoyal cX1_isRoyal 2 (some .boolean) 1 0 0 [.ref (ad p), .int t] ae ad sh σ (mEq (some (.int (b2i (decide (¬ cellV (σ.1 (p + 6)) 6 t = 0))))) ad sh σ) := by
  refine Ct.ofL (own := RX1) (ini := false) (ls := [some (.ref (ad p)), some (.int t)]) (by decide +kernel) rfl (fun h => by cases h) (Nat.le_of_ble_eq_true rfl) rfl ?_
  refine ev_aload_0 dX1_isRoyal_0 ?_
  refine gf_X1_27 dX1_isRoyal_1 hp.1 rfl ?_
  refine ev_iload_1 dX1_isRoyal_4 ?_
  refine cl_X1_64 (c_cell hp.2.2.2.2.2.2.1 (by decide)) dX1_isRoyal_5 rfl (Nat.le_of_ble_eq_true rfl) ?_
  refine ev_if_eq (tgt := 15) dX1_isRoyal_8 (by decide) (fun h8 => ?_) (fun h8 => ?_)
  · refine ev_iconst_0 dX1_isRoyal_15 ?_
    exact ev_zret (b2i_nar _) dX1_isRoyal_16 (by simp [b2i, *]) rfl
  · refine ev_iconst_1 dX1_isRoyal_11 ?_
    refine ev_goto (tgt := 16) dX1_isRoyal_12 (by decide) ?_
    exact ev_zret (b2i_nar _) dX1_isRoyal_16 (by simp [b2i, *]) rfl
set_option maxRecDepth 100000 in
set_option maxHeartbeats 4000000 in
theorem c_promotionOf {ae ad : Nat → Nat} {sh : mSh} {σ : mSt} {p : Nat} (hp : mLaws ad sh p) {t : Int32} : Ct yX1_promotionOf cX1_promotionOf 2 (some .int) 1 0 0 [.ref (ad p), .int t] ae ad sh σ (mEq (some (.int (if isTy t then cellV (σ.1 (p + 7)) 6 t else -1))) ad sh σ) := by
  refine Ct.ofL (own := RX1) (ini := false) (ls := [some (.ref (ad p)), some (.int t)]) (by decide +kernel) rfl (fun h => by cases h) (Nat.le_of_ble_eq_true rfl) rfl ?_
  refine ev_iload_1 dX1_promotionOf_0 ?_
  refine cl_X1_92 c_isType dX1_promotionOf_1 rfl (Nat.le_of_ble_eq_true rfl) ?_
  refine ev_if_eq (tgt := 18) dX1_promotionOf_4 (by decide) (fun h4 => ?_) (fun h4 => ?_)
  · refine ev_iconst_m1 dX1_promotionOf_18 ?_
    exact ev_iret dX1_promotionOf_19 (by simp_all [b2i_0]) rfl
  · refine ev_aload_0 dX1_promotionOf_7 ?_
    refine gf_X1_30 dX1_promotionOf_8 hp.1 rfl ?_
    refine ev_iload_1 dX1_promotionOf_11 ?_
    refine cl_X1_64 (c_cell hp.2.2.2.2.2.2.2.1 (by decide)) dX1_promotionOf_12 rfl (Nat.le_of_ble_eq_true rfl) ?_
    refine ev_goto (tgt := 19) dX1_promotionOf_15 (by decide) ?_
    exact ev_iret dX1_promotionOf_19 (by simp_all [b2i_0]) rfl
set_option maxRecDepth 100000 in
set_option maxHeartbeats 4000000 in
theorem c_castlingSquare {ae ad : Nat → Nat} {sh : mSh} {σ : mSt} {p : Nat} (hp : mLaws ad sh p) {s w : Int32} : Ct yX1_castlingSquare cX1_castlingSquare 3 (some .int) 1 0 0 [.ref (ad p), .int s, .int w] ae ad sh σ (mEq (some (.int (cellV (σ.1 (p + 9)) 16 (4 * s + w)))) ad sh σ) := by
  refine Ct.ofL (own := RX1) (ini := false) (ls := [some (.ref (ad p)), some (.int s), some (.int w)]) (by decide +kernel) rfl (fun h => by cases h) (Nat.le_of_ble_eq_true rfl) rfl ?_
  refine ev_aload_0 dX1_castlingSquare_0 ?_
  refine gf_X1_36 dX1_castlingSquare_1 hp.1 rfl ?_
  refine ev_iconst_4 dX1_castlingSquare_4 ?_
  refine ev_iload_1 dX1_castlingSquare_5 ?_
  refine ev_imul dX1_castlingSquare_6 ?_
  refine ev_iload_2 dX1_castlingSquare_7 ?_
  refine ev_iadd dX1_castlingSquare_8 ?_
  refine cl_X1_64 (c_cell hp.2.2.2.2.2.2.2.2.2 (by decide)) dX1_castlingSquare_9 rfl (Nat.le_of_ble_eq_true rfl) ?_
  exact ev_ireturn dX1_castlingSquare_12
set_option maxRecDepth 100000 in
set_option maxHeartbeats 4000000 in
theorem c_removeCastlings {ae ad : Nat → Nat} {sh : mSh} {σ : mSt} {p : Nat} (hp : mLaws ad sh p) : Ct yX1_removeCastlings cX1_removeCastlings 1 none 1 0 0 [.ref (ad p)] ae ad sh σ (mEq none ad sh (mr σ.1 (p + 8) (fa_fill (fun _ => -1) (σ.1 (p + 8)) 4), σ.2)) := by
  refine Ct.ofL (own := RX1) (ini := false) (ls := [some (.ref (ad p))]) (by decide +kernel) rfl (fun h => by cases h) (Nat.le_of_ble_eq_true rfl) rfl ?_
  refine ev_aload_0 dX1_removeCastlings_0 ?_
  refine gf_X1_33 dX1_removeCastlings_1 hp.1 rfl ?_
  refine ev_iconst_m1 dX1_removeCastlings_4 ?_
  refine cl_X1_39 (c_fill hp.2.2.2.2.2.2.2.2.1 (by decide)) dX1_removeCastlings_5 rfl (Nat.le_of_ble_eq_true rfl) ?_
  exact ev_return dX1_removeCastlings_8
set_option maxRecDepth 100000 in
set_option maxHeartbeats 4000000 in
theorem c_castlings_4 {ae ad : Nat → Nat} {sh : mSh} {σ : mSt} {p : Nat} (hp : mLaws ad sh p) : ∀ (n i : Nat), 4 - i = n → i ≤ 4 → Ev RX1 cX1_castlings 3 false (some .int) (mRm 0 0 0) ae (mEq (some (.int (maskF (fun k => decide (¬ σ.1 (p + 8) k < 0)) 4))) ad sh σ) 4 [some (.ref (ad p)), some (.int (maskF (fun k => decide (¬ σ.1 (p + 8) k < 0)) i)), some (.int (nI i))] [] 0 0 ad sh σ := by
  intro n
  induction n with
  | zero =>
    intro i hn hi
    have e : i = 4 := by omega
    subst e
    refine ev_iload_2 dX1_castlings_4 ?_
    refine ev_aload_0 dX1_castlings_5 ?_
    refine gf_X1_33 dX1_castlings_6 hp.1 rfl ?_
    refine ev_alen hp.2.2.2.2.2.2.2.2.1 rfl dX1_castlings_9 ?_
    refine ev_icmp_ge (tgt := 34) dX1_castlings_10 (by decide) (fun h10 => ?_) (fun h10 => absurd (by decide) h10)
    refine ev_iload_1 dX1_castlings_34 ?_
    exact ev_iret dX1_castlings_35 rfl rfl
  | succ n ih =>
    intro i hn hi
    have hlt : i < 4 := by omega
    refine ev_iload_2 dX1_castlings_4 ?_
    refine ev_aload_0 dX1_castlings_5 ?_
    refine gf_X1_33 dX1_castlings_6 hp.1 rfl ?_
    refine ev_alen hp.2.2.2.2.2.2.2.2.1 rfl dX1_castlings_9 ?_
    refine ev_icmp_ge (tgt := 34) dX1_castlings_10 (by decide) (fun h10 => absurd h10 (nI_ge (b := 4) hlt (by decide))) (fun h10 => ?_)
    refine ev_aload_0 dX1_castlings_13 ?_
    refine gf_X1_33 dX1_castlings_14 hp.1 rfl ?_
    refine ev_iload_2 dX1_castlings_17 ?_
    refine ev_iald hp.2.2.2.2.2.2.2.2.1 (vp_in_nI hlt (by decide)) dX1_castlings_18 ?_
    refine ev_if_lt (tgt := 28) dX1_castlings_19 (by decide) (fun h19 => ?_) (fun h19 => ?_)
    · refine ev_iinc_2 (v := 1) dX1_castlings_28 (by decide) rfl rfl ?_
      refine ev_goto (tgt := 4) dX1_castlings_31 (by decide) ?_
      exact Ev.to (by rw [nI_clamp (by omega)] at *; simp_all [maskF, nI_1]) rfl rfl (ih (i + 1) (by omega) (by omega))
    · refine ev_iload_1 dX1_castlings_22 ?_
      refine ev_iconst_1 dX1_castlings_23 ?_
      refine ev_iload_2 dX1_castlings_24 ?_
      refine ev_ishl dX1_castlings_25 ?_
      refine ev_ior dX1_castlings_26 ?_
      refine ev_istore_1 dX1_castlings_27 rfl rfl ?_
      refine ev_iinc_2 (v := 1) dX1_castlings_28 (by decide) rfl rfl ?_
      refine ev_goto (tgt := 4) dX1_castlings_31 (by decide) ?_
      exact Ev.to (by rw [nI_clamp (by omega)] at *; simp_all [maskF, nI_1]) rfl rfl (ih (i + 1) (by omega) (by omega))
set_option maxRecDepth 100000 in
set_option maxHeartbeats 4000000 in
theorem c_castlings {ae ad : Nat → Nat} {sh : mSh} {σ : mSt} {p : Nat} (hp : mLaws ad sh p) : Ct yX1_castlings cX1_castlings 3 (some .int) 0 0 0 [.ref (ad p)] ae ad sh σ (mEq (some (.int (maskF (fun k => decide (¬ σ.1 (p + 8) k < 0)) 4))) ad sh σ) := by
  refine Ct.ofL (own := RX1) (ini := false) (ls := [some (.ref (ad p)), none, none]) (by decide +kernel) rfl (fun h => by cases h) (Nat.le_of_ble_eq_true rfl) rfl ?_
  refine ev_iconst_0 dX1_castlings_0 ?_
  refine ev_istore_1 dX1_castlings_1 rfl rfl ?_
  refine ev_iconst_0 dX1_castlings_2 ?_
  refine ev_istore_2 dX1_castlings_3 rfl rfl ?_
  exact c_castlings_4 hp 4 0 rfl (by decide)
theorem aEnd_le : ∀ a, a < 7 → aStart a ≤ aEnd a ∧ aEnd a ≤ 32 := by decide +kernel
theorem aS_nI : ∀ a, a < 7 → mASTART.getD a 0 = nI (aStart a) ∧ mAEND.getD a 0 = nI (aEnd a) := by decide +kernel
set_option maxRecDepth 100000 in
set_option maxHeartbeats 4000000 in
theorem c_directionsOf_10 {ae ad : Nat → Nat} {sh : mSh} {σ : mSt} {a : Nat} {mark : Int32} (ha : a < 7) : ∀ (n i : Nat), (aEnd a - aStart a) - i = n → i ≤ (aEnd a - aStart a) → Ev RX1 cX1_directionsOf 6 false (some .int) (mRm 1 0 0) ae (mEq (some (.int (dirM a mark))) ad sh σ) 10 [some (.int (nI a)), some (.int mark), some (.int (dmF mark (aStart a) i)), some (.int (nI (aStart a + i))), none, none] [] 0 0 ad sh σ := by
  intro n
  induction n with
  | zero =>
    intro i hn hi
    have e : i = (aEnd a - aStart a) := by omega
    subst e
    refine ev_iload_3 dX1_directionsOf_10 ?_
    refine ev_gets (j := 3) (by decide) fl_X1_77 dX1_directionsOf_11 ?_
    refine ev_iload_0 dX1_directionsOf_14 ?_
    refine cl_X1_64 (c_cellT (j := 3) (by decide) (by decide)) dX1_directionsOf_15 rfl (Nat.le_of_ble_eq_true rfl) ?_
    rw [cellV_nI (by omega) (show a < (mTab 3).length from ha), show (mTab 3).getD a 0 = nI (aEnd a) from (aS_nI a ha).2]
    refine ev_icmp_ge (tgt := 79) dX1_directionsOf_18 (by decide) (fun h18 => ?_) (fun h18 => absurd (nI_le (by have := aEnd_le a ha; omega) (by have := aEnd_le a ha; omega)) h18)
    refine ev_iload_2 dX1_directionsOf_79 ?_
    exact ev_iret dX1_directionsOf_80 rfl rfl
  | succ n ih =>
    intro i hn hi
    have hlt : i < (aEnd a - aStart a) := by omega
    refine ev_iload_3 dX1_directionsOf_10 ?_
    refine ev_gets (j := 3) (by decide) fl_X1_77 dX1_directionsOf_11 ?_
    refine ev_iload_0 dX1_directionsOf_14 ?_
    refine cl_X1_64 (c_cellT (j := 3) (by decide) (by decide)) dX1_directionsOf_15 rfl (Nat.le_of_ble_eq_true rfl) ?_
    rw [cellV_nI (by omega) (show a < (mTab 3).length from ha), show (mTab 3).getD a 0 = nI (aEnd a) from (aS_nI a ha).2]
    refine ev_icmp_ge (tgt := 79) dX1_directionsOf_18 (by decide) (fun h18 => absurd h18 (by have := aEnd_le a ha; exact nI_ge (by omega) (by omega))) (fun h18 => ?_)
    refine ev_gets (j := 1) (by decide) fl_X1_80 dX1_directionsOf_21 ?_
    refine ev_iload_3 dX1_directionsOf_24 ?_
    refine cl_X1_64 (c_cellT (j := 1) (by decide) (by decide)) dX1_directionsOf_25 rfl (Nat.le_of_ble_eq_true rfl) ?_
    have h99 := aEnd_le a ha
    rw [cellV_nI (j := aStart a + i) (by omega) (show aStart a + i < (mTab 1).length by show _ < 32; omega), show (mTab 1).getD (aStart a + i) 0 = mSTEPY.getD (aStart a + i) 0 from rfl]
    refine ev_istore_4 dX1_directionsOf_28 rfl rfl ?_
    refine ev_iload_4 dX1_directionsOf_30 ?_
    refine ev_if_le (tgt := 39) dX1_directionsOf_32 (by decide) (fun h32 => ?_) (fun h32 => ?_)
    · refine ev_iload_4 dX1_directionsOf_39 ?_
      refine ev_if_ge (tgt := 49) dX1_directionsOf_41 (by decide) (fun h41 => ?_) (fun h41 => ?_)
      · refine ev_bipush_16 dX1_directionsOf_49 ?_
        refine ev_istore_5 dX1_directionsOf_51 rfl rfl ?_
        refine ev_iload_1 dX1_directionsOf_53 ?_
        refine ev_iload_5 dX1_directionsOf_54 ?_
        refine ev_iand dX1_directionsOf_56 ?_
        refine ev_if_ne (tgt := 67) dX1_directionsOf_57 (by decide) (fun h57 => ?_) (fun h57 => ?_)
        · refine ev_iload_2 dX1_directionsOf_67 ?_
          refine ev_iconst_1 dX1_directionsOf_68 ?_
          refine ev_iload_3 dX1_directionsOf_69 ?_
          refine ev_ishl dX1_directionsOf_70 ?_
          refine ev_ior dX1_directionsOf_71 ?_
          refine ev_istore_2 dX1_directionsOf_72 rfl rfl ?_
          refine ev_iinc_3 (v := 1) dX1_directionsOf_73 (by decide) rfl rfl ?_
          refine ev_goto (tgt := 10) dX1_directionsOf_76 (by decide) ?_
          refine ev_drop_4 ?_
          refine ev_drop_5 ?_
          exact Ev.to (by simp_all [dmF, dirOk, nI_1, Nat.add_assoc, ← Int32.not_lt]) rfl rfl (ih (i + 1) (by omega) (by omega))
        · refine ev_iload_1 dX1_directionsOf_60 ?_
          refine ev_bipush_28 dX1_directionsOf_61 ?_
          refine ev_iand dX1_directionsOf_63 ?_
          refine ev_if_ne (tgt := 73) dX1_directionsOf_64 (by decide) (fun h64 => ?_) (fun h64 => ?_)
          · refine ev_iinc_3 (v := 1) dX1_directionsOf_73 (by decide) rfl rfl ?_
            refine ev_goto (tgt := 10) dX1_directionsOf_76 (by decide) ?_
            refine ev_drop_4 ?_
            refine ev_drop_5 ?_
            exact Ev.to (by simp_all [dmF, dirOk, nI_1, Nat.add_assoc, ← Int32.not_lt]) rfl rfl (ih (i + 1) (by omega) (by omega))
          · refine ev_iload_2 dX1_directionsOf_67 ?_
            refine ev_iconst_1 dX1_directionsOf_68 ?_
            refine ev_iload_3 dX1_directionsOf_69 ?_
            refine ev_ishl dX1_directionsOf_70 ?_
            refine ev_ior dX1_directionsOf_71 ?_
            refine ev_istore_2 dX1_directionsOf_72 rfl rfl ?_
            refine ev_iinc_3 (v := 1) dX1_directionsOf_73 (by decide) rfl rfl ?_
            refine ev_goto (tgt := 10) dX1_directionsOf_76 (by decide) ?_
            refine ev_drop_4 ?_
            refine ev_drop_5 ?_
            exact Ev.to (by simp_all [dmF, dirOk, nI_1, Nat.add_assoc, ← Int32.not_lt]) rfl rfl (ih (i + 1) (by omega) (by omega))
      · refine ev_bipush_8 dX1_directionsOf_44 ?_
        refine ev_goto (tgt := 51) dX1_directionsOf_46 (by decide) ?_
        refine ev_istore_5 dX1_directionsOf_51 rfl rfl ?_
        refine ev_iload_1 dX1_directionsOf_53 ?_
        refine ev_iload_5 dX1_directionsOf_54 ?_
        refine ev_iand dX1_directionsOf_56 ?_
        refine ev_if_ne (tgt := 67) dX1_directionsOf_57 (by decide) (fun h57 => ?_) (fun h57 => ?_)
        · refine ev_iload_2 dX1_directionsOf_67 ?_
          refine ev_iconst_1 dX1_directionsOf_68 ?_
          refine ev_iload_3 dX1_directionsOf_69 ?_
          refine ev_ishl dX1_directionsOf_70 ?_
          refine ev_ior dX1_directionsOf_71 ?_
          refine ev_istore_2 dX1_directionsOf_72 rfl rfl ?_
          refine ev_iinc_3 (v := 1) dX1_directionsOf_73 (by decide) rfl rfl ?_
          refine ev_goto (tgt := 10) dX1_directionsOf_76 (by decide) ?_
          refine ev_drop_4 ?_
          refine ev_drop_5 ?_
          exact Ev.to (by simp_all [dmF, dirOk, nI_1, Nat.add_assoc, ← Int32.not_lt]) rfl rfl (ih (i + 1) (by omega) (by omega))
        · refine ev_iload_1 dX1_directionsOf_60 ?_
          refine ev_bipush_28 dX1_directionsOf_61 ?_
          refine ev_iand dX1_directionsOf_63 ?_
          refine ev_if_ne (tgt := 73) dX1_directionsOf_64 (by decide) (fun h64 => ?_) (fun h64 => ?_)
          · refine ev_iinc_3 (v := 1) dX1_directionsOf_73 (by decide) rfl rfl ?_
            refine ev_goto (tgt := 10) dX1_directionsOf_76 (by decide) ?_
            refine ev_drop_4 ?_
            refine ev_drop_5 ?_
            exact Ev.to (by simp_all [dmF, dirOk, nI_1, Nat.add_assoc, ← Int32.not_lt]) rfl rfl (ih (i + 1) (by omega) (by omega))
          · refine ev_iload_2 dX1_directionsOf_67 ?_
            refine ev_iconst_1 dX1_directionsOf_68 ?_
            refine ev_iload_3 dX1_directionsOf_69 ?_
            refine ev_ishl dX1_directionsOf_70 ?_
            refine ev_ior dX1_directionsOf_71 ?_
            refine ev_istore_2 dX1_directionsOf_72 rfl rfl ?_
            refine ev_iinc_3 (v := 1) dX1_directionsOf_73 (by decide) rfl rfl ?_
            refine ev_goto (tgt := 10) dX1_directionsOf_76 (by decide) ?_
            refine ev_drop_4 ?_
            refine ev_drop_5 ?_
            exact Ev.to (by simp_all [dmF, dirOk, nI_1, Nat.add_assoc, ← Int32.not_lt]) rfl rfl (ih (i + 1) (by omega) (by omega))
    · refine ev_iconst_4 dX1_directionsOf_35 ?_
      refine ev_goto (tgt := 51) dX1_directionsOf_36 (by decide) ?_
      refine ev_istore_5 dX1_directionsOf_51 rfl rfl ?_
      refine ev_iload_1 dX1_directionsOf_53 ?_
      refine ev_iload_5 dX1_directionsOf_54 ?_
      refine ev_iand dX1_directionsOf_56 ?_
      refine ev_if_ne (tgt := 67) dX1_directionsOf_57 (by decide) (fun h57 => ?_) (fun h57 => ?_)
      · refine ev_iload_2 dX1_directionsOf_67 ?_
        refine ev_iconst_1 dX1_directionsOf_68 ?_
        refine ev_iload_3 dX1_directionsOf_69 ?_
        refine ev_ishl dX1_directionsOf_70 ?_
        refine ev_ior dX1_directionsOf_71 ?_
        refine ev_istore_2 dX1_directionsOf_72 rfl rfl ?_
        refine ev_iinc_3 (v := 1) dX1_directionsOf_73 (by decide) rfl rfl ?_
        refine ev_goto (tgt := 10) dX1_directionsOf_76 (by decide) ?_
        refine ev_drop_4 ?_
        refine ev_drop_5 ?_
        exact Ev.to (by simp_all [dmF, dirOk, nI_1, Nat.add_assoc, ← Int32.not_lt]) rfl rfl (ih (i + 1) (by omega) (by omega))
      · refine ev_iload_1 dX1_directionsOf_60 ?_
        refine ev_bipush_28 dX1_directionsOf_61 ?_
        refine ev_iand dX1_directionsOf_63 ?_
        refine ev_if_ne (tgt := 73) dX1_directionsOf_64 (by decide) (fun h64 => ?_) (fun h64 => ?_)
        · refine ev_iinc_3 (v := 1) dX1_directionsOf_73 (by decide) rfl rfl ?_
          refine ev_goto (tgt := 10) dX1_directionsOf_76 (by decide) ?_
          refine ev_drop_4 ?_
          refine ev_drop_5 ?_
          exact Ev.to (by simp_all [dmF, dirOk, nI_1, Nat.add_assoc, ← Int32.not_lt]) rfl rfl (ih (i + 1) (by omega) (by omega))
        · refine ev_iload_2 dX1_directionsOf_67 ?_
          refine ev_iconst_1 dX1_directionsOf_68 ?_
          refine ev_iload_3 dX1_directionsOf_69 ?_
          refine ev_ishl dX1_directionsOf_70 ?_
          refine ev_ior dX1_directionsOf_71 ?_
          refine ev_istore_2 dX1_directionsOf_72 rfl rfl ?_
          refine ev_iinc_3 (v := 1) dX1_directionsOf_73 (by decide) rfl rfl ?_
          refine ev_goto (tgt := 10) dX1_directionsOf_76 (by decide) ?_
          refine ev_drop_4 ?_
          refine ev_drop_5 ?_
          exact Ev.to (by simp_all [dmF, dirOk, nI_1, Nat.add_assoc, ← Int32.not_lt]) rfl rfl (ih (i + 1) (by omega) (by omega))
