/-! the arguments as locals -/
def mArgs : List Value → List (Option Value)
  | [] => []
  | v :: vs => some v :: (match v.category with
    | 2 => none :: mArgs vs
    | _ => mArgs vs)
theorem mArgs_ok : ∀ (av : List Value) (j i : Nat) (v : Value), (mArgs av)[i]? = some (some v) → (i + j, v) ∈ lv_args j av := by
  intro av
  induction av with
  | nil => intro j i v h; simp [mArgs] at h
  | cons a av ih =>
    intro j i v h
    rcases lv_cat a with hc | hc
    · rw [mArgs] at h
      simp only [hc] at h
      rw [lv_args]
      cases i with
      | zero =>
        simp at h
        subst h
        simp
      | succ i =>
        rw [List.getElem?_cons_succ] at h
        have h1 := ih (j + 1) i v h
        rw [if_neg (by omega)]
        refine List.mem_cons_of_mem _ ?_
        rw [show i + 1 + j = i + (j + 1) by omega]
        exact h1
    · rw [mArgs] at h
      simp only [hc] at h
      rw [lv_args]
      cases i with
      | zero =>
        simp at h
        subst h
        simp
      | succ i =>
        rw [List.getElem?_cons_succ] at h
        cases i with
        | zero => simp at h
        | succ i =>
          rw [List.getElem?_cons_succ] at h
          have h1 := ih (j + 2) i v h
          rw [if_pos hc]
          refine List.mem_cons_of_mem _ ?_
          rw [show i + 1 + 1 + j = i + (j + 2) by omega]
          exact h1
theorem Ct.ofL {y : MethodName} {own : String} {cc : ByteArray} {nL : Nat} {ini : Bool} {ret : Option FieldType} {d mc ms : Nat} {av : List Value} {ae ad : Nat → Nat} {sh : mSh} {σ : mSt} {Post : mPost} {ls : List (Option Value)} (hy : plainName y.cls = true) (hown : own = y.cls) (hini : ini = true → y.name = "<init>") (hn : (lg_sl av).length ≤ nL)
    (hls : mArgs av ++ List.replicate (nL - (mArgs av).length) none = ls)
    (K : Ev own cc nL ini ret (mRm d mc ms) ae Post 0 ls [] 0 0 ad sh σ) : Ct y cc nL ret d mc ms av ae ad sh σ Post := by
  refine Ct.of hy hown hini hn (fun i v h => ?_) K
  rw [← hls] at h
  by_cases hi : i < (mArgs av).length
  · rw [List.getElem?_append_left hi] at h
    exact mArgs_ok av 0 i v h
  · rw [List.getElem?_append_right (by omega)] at h
    rw [List.getElem?_replicate] at h
    split at h <;> cases h
section EVR2
variable {own : String} {cc : ByteArray} {nL : Nat} {ini : Bool} {R : Room} {ae ad : Nat → Nat} {pc : Nat} {ls : List (Option Value)} {rest : List Value} {sh : mSh} {σ σ' : mSt}
theorem ev_iret {x y : Int32} (hd : decode cc pc = .ok (.ireturn, 1)) (h : x = y) (hs : σ = σ') : Ev own cc nL ini (some .int) R ae (mEq (some (.int y)) ad sh σ') pc ls [.int x] 0 0 ad sh σ := by
  subst h; subst hs; exact ev_ireturn hd
theorem ev_zret {x y : Int32} {ty : FieldType} (hx : narrow ty (.int y) = .int y) (hd : decode cc pc = .ok (.ireturn, 1)) (h : x = y) (hs : σ = σ') : Ev own cc nL ini (some ty) R ae (mEq (some (.int y)) ad sh σ') pc ls [.int x] 0 0 ad sh σ := by
  subst h; subst hs; exact ev_zreturn hx hd
theorem ev_lret {x y : Int64} (hd : decode cc pc = .ok (.lreturn, 1)) (h : x = y) (hs : σ = σ') : Ev own cc nL ini (some .long) R ae (mEq (some (.long y)) ad sh σ') pc ls [.long x] 0 0 ad sh σ := by
  subst h; subst hs; exact ev_lreturn hd
theorem ev_vret (hd : decode cc pc = .ok (.return_, 1)) (hs : σ = σ') : Ev own cc nL ini none R ae (mEq none ad sh σ') pc ls [] 0 0 ad sh σ := by
  subst hs; exact ev_return hd
end EVR2
def b2i (b : Bool) : Int32 := if b then 1 else 0
theorem b2i_nar (b : Bool) : narrow .boolean (.int (b2i b)) = .int (b2i b) := by cases b <;> decide +kernel
theorem b2i_0 (b : Bool) : b2i b = 0 ↔ b = false := by cases b <;> simp [b2i]
def cellV (f : Nat → Int32) (len : Nat) (i : Int32) : Int32 := if i < 0 ∨ len ≤ i.toNatClampNeg then 0 else f i.toNatClampNeg
theorem cellV_nI {f : Nat → Int32} {len j : Nat} (hj : j < 2 ^ 31) (h : j < len) : cellV f len (nI j) = f j := by
  rw [cellV, nI_clamp hj, if_neg]
  rintro (h1 | h1)
  · exact nI_pos hj h1
  · omega
theorem vp_of {i : Int32} {len : Nat} (hl : len < 2 ^ 31) (h0 : ¬ i < 0) (h : ¬ Int32.ofNat len ≤ i) : vp_in i len := by
  obtain ⟨j, hj, rfl⟩ := nI_of h0
  intro q
  rcases q with q | q
  · exact h0 q
  · rw [nI_clamp hj] at q
    exact h (nI_le q hj)
theorem vp_not {i : Int32} {len : Nat} (hl : len < 2 ^ 31) (h0 : ¬ i < 0) (h : Int32.ofNat len ≤ i) : i < 0 ∨ len ≤ i.toNatClampNeg := by
  obtain ⟨j, hj, rfl⟩ := nI_of h0
  right
  rw [nI_clamp hj]
  exact (nI_leI hl hj).mp h

theorem Ev.to {own : String} {cc : ByteArray} {nL : Nat} {ini : Bool} {ret : Option FieldType} {R : Room} {ae ad : Nat → Nat} {Post : mPost} {pc : Nat} {ls ls' : List (Option Value)} {st st' : List Value} {k n : Nat} {sh : mSh} {σ σ' : mSt} (hl : ls = ls') (hs : st = st') (hσ : σ = σ') (K : Ev own cc nL ini ret R ae Post pc ls' st' k n ad sh σ') : Ev own cc nL ini ret R ae Post pc ls st k n ad sh σ := by
  subst hl; subst hs; subst hσ; exact K
theorem Ev.post {own : String} {cc : ByteArray} {nL : Nat} {ini : Bool} {ret : Option FieldType} {R : Room} {ae ad : Nat → Nat} {Post Post' : mPost} {pc : Nat} {ls : List (Option Value)} {st : List Value} {k n : Nat} {sh : mSh} {σ : mSt} (h : Post' = Post) (K : Ev own cc nL ini ret R ae Post' pc ls st k n ad sh σ) : Ev own cc nL ini ret R ae Post pc ls st k n ad sh σ := h ▸ K
/-- fewer locals known -/
theorem Ev.less {own : String} {cc : ByteArray} {nL : Nat} {ini : Bool} {ret : Option FieldType} {R : Room} {ae ad : Nat → Nat} {Post : mPost} {pc : Nat} {ls ls' : List (Option Value)} {st : List Value} {k n : Nat} {sh : mSh} {σ : mSt} (h : ∀ (i : Nat) (v : Value), ls'[i]? = some (some v) → ls[i]? = some (some v)) (K : Ev own cc nL ini ret R ae Post pc ls' st k n ad sh σ) : Ev own cc nL ini ret R ae Post pc ls st k n ad sh σ :=
  fun p l e s m args below meth c D cy A Q H locs arr hC hE hA hP hD hS hL hR => K p l e s m args below meth c D cy A Q H locs arr hC hE hA hP hD hS ⟨hL.1, hL.2.1, fun i v hv => hL.2.2 i v (h i v hv)⟩ hR
/-- a fact of the world that a walk may use: the places' addresses are apart -/
theorem Ct.to {y : MethodName} {cc : ByteArray} {nL : Nat} {ret : Option FieldType} {d mc ms : Nat} {av : List Value} {ae ad : Nat → Nat} {sh : mSh} {σ : mSt} {Post Post' : mPost} (h : Post' = Post) (K : Ct y cc nL ret d mc ms av ae ad sh σ Post') : Ct y cc nL ret d mc ms av ae ad sh σ Post := h ▸ K
theorem mr_self (h : Nat → Nat → Int32) (q : Nat) : mr h q (h q) = h := by funext k; simp only [mr]; split <;> simp_all
theorem mr_at (h : Nat → Nat → Int32) (q : Nat) (f : Nat → Int32) : mr h q f q = f := if_pos rfl
theorem mr_ne (h : Nat → Nat → Int32) {q k : Nat} (f : Nat → Int32) (hk : k ≠ q) : mr h q f k = h k := if_neg hk
theorem mr_mr (h : Nat → Nat → Int32) (q : Nat) (f g : Nat → Int32) : mr (mr h q f) q g = mr h q g := by funext k; simp only [mr]; split <;> rfl
theorem mu_mr (h : Nat → Nat → Int32) (q j : Nat) (f : Nat → Int32) (x : Int32) : mu (mr h q f) q j x = mr h q (upd f j x) := by funext k; simp only [mr, mu]; split <;> simp
theorem mu_eq (h : Nat → Nat → Int32) (q j : Nat) (x : Int32) : mu h q j x = mr h q (upd (h q) j x) := rfl
theorem mSt_eta (σ : mSt) : (σ.1, σ.2) = σ := rfl

