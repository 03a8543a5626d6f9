/-- nothing stands from the place N on -/
def mZ (σ : mSt) (N : Nat) : Prop := ∀ k, N ≤ k → σ.1 k = (fun _ => 0) ∧ σ.2 k = (fun _ => 0)
theorem mZ_eq {σ : mSt} {N : Nat} (h : mZ σ N) : ((mr σ.1 N (fun _ => 0), mrl σ.2 N (fun _ => 0)) : mSt) = σ := by
  obtain ⟨a, b⟩ := σ
  have h0 := h N (Nat.le_refl _)
  refine Prod.ext (funext fun k => ?_) (funext fun k => ?_)
  · show (if k = N then _ else a k) = a k
    by_cases z : k = N
    · rw [if_pos z, z]; exact h0.1.symm
    · rw [if_neg z]
  · show (if k = N then _ else b k) = b k
    by_cases z : k = N
    · rw [if_pos z, z]; exact h0.2.symm
    · rw [if_neg z]
theorem mZ_le {σ : mSt} {N M : Nat} (h : mZ σ N) (hm : N ≤ M) : mZ σ M := fun k hk => h k (Nat.le_trans hm hk)
theorem mZ_mu {σ : mSt} {N i j : Nat} {x : Int32} (h : mZ σ N) (hi : i < N) : mZ (mu σ.1 i j x, σ.2) N := fun k hk => ⟨(mu_ne _ (by omega)).trans (h k hk).1, (h k hk).2⟩
theorem mZ_mr {σ : mSt} {N i : Nat} {f : Nat → Int32} (h : mZ σ N) (hi : i < N) : mZ (mr σ.1 i f, σ.2) N := fun k hk => ⟨(mr_ne _ _ (by omega)).trans (h k hk).1, (h k hk).2⟩
theorem ap_at {S L : mSh} {N i : Nat} (hS : S.length = N) : (S ++ L)[N + i]? = L[i]? := by
  subst hS
  rw [List.getElem?_append_right (Nat.le_add_right _ _), Nat.add_sub_cancel_left]
theorem ap_set {S L : mSh} {N : Nat} {x : Nat ⊕ (Nat × List Value)} (hS : S.length = N) : (S ++ L).set N x = S ++ L.set 0 x := by
  subst hS
  rw [List.set_append_right _ _ (Nat.le_refl _), Nat.sub_self]
/-- a constructor has laid its cells -/
def mCt (q : Nat) (ad : Nat → Nat) (S : mSh) (F : (Nat → Nat) → mSh) (σ1 : mSt) : mPost := fun v ad' sh' σ' => v = none ∧ (∀ j, j < q + 1 → ad' j = ad j) ∧ sh' = S ++ F ad' ∧ σ' = σ1
section CN
variable {own : String} {cc : ByteArray} {nL : Nat} {ini : Bool} {ret : Option FieldType} {R : Room} {ae ad : Nat → Nat} {Post : mPost} {pc : Nat} {ls : List (Option Value)} {rest : List Value} {k n : Nat} {σ : mSt}
theorem cn_newa {S L : mSh} {T N : Nat} {x : Int32} (hT : (S ++ L).length = T) (hz : mZ σ T) (hx : ¬ x < 0) (hN : x.toNatClampNeg = N) (hb : N * componentBytes .int ≤ 536870912) (hk : k + 1 ≤ R.cells) (hn : n + N ≤ R.slots) (hd : decode cc pc = .ok (.newarray .int, 2)) (K : ∀ ad1 : Nat → Nat, (∀ j, j < T → ad1 j = ad j) → Ev own cc nL ini ret R ae Post (pc + 2) ls (.ref (ad1 T) :: rest) (k + 1) (n + N) ad1 (S ++ (L ++ [.inl N])) σ) : Ev own cc nL ini ret R ae Post pc ls (.int x :: rest) k n ad (S ++ L) σ := by
  subst hT
  refine ev_newa hx hN hb hk hn hd k_arrI (fun ad1 ha => ?_)
  rw [mZ_eq hz, List.append_assoc]
  exact K ad1 ha
theorem cn_putr {ci kf idx N M a : Nat} {C : String} {T : u_T} {ty : Nat → FieldType} {fs : List Value} {S L : mSh} (hc : mCls ci C T M ty) (hl : Cond.fieldLink own idx C (T kf).2.1 (T kf).2.2.1 ∈ mTs) (hT : (T kf).1 = C) (hfin : (T kf).2.2.2 = true) (hk : kf < M) (hn : narrow (ty kf) (.ref a) = .ref a) (hf : fits (ty kf) (.ref a) = true) (hd : decode cc pc = .ok (.putfield idx, 3)) (hown : C = own) (hS : S.length = N) (he : L[0]? = some (.inr (ci, fs))) (hlen : kf < fs.length) (K : Ev own cc nL true ret R ae Post (pc + 3) ls rest k n ad (S ++ L.set 0 (.inr (ci, fs.set kf (.ref a)))) σ) : Ev own cc nL true ret R ae Post pc ls (.ref a :: .ref (ad N) :: rest) k n ad (S ++ L) σ := by
  refine ev_putfr hc hl hT hown rfl hfin hk hn hf hd ((ap_at (i := 0) hS).trans he) hlen ?_
  rw [ap_set hS]
  exact K
theorem cn_call {y : MethodName} {cc' : ByteArray} {nL' na d mc ms idx q : Nat} {As st : List Value} {S : mSh} {o : Nat ⊕ (Nat × List Value)} {F : (Nat → Nat) → mSh} {σ1 : mSt} (hM : Ct y cc' nL' none d mc ms (.ref (ad q) :: As) ae ad (S ++ [o]) σ (mCt q ad S F σ1)) (hm : mMth y cc' nL' none na) (hl : mLk own idx y) (hi : Cond.instanceMethod y ∈ mTs) (hn1 : y.name = "<init>") (hst : st = As.reverse ++ .ref (ad q) :: rest) (hna : As.length = na) (hd : decode cc pc = .ok (.invokespecial idx, 3)) (hR0 : mRoomOk R d nL' = true) (hk : k + mc ≤ R.cells) (hn : n + ms ≤ R.slots) (hcat : (rest.map fun v => v.category).sum ≤ 8) (K : ∀ ad' : Nat → Nat, (∀ j, j < q + 1 → ad' j = ad j) → Ev own cc nL ini ret R ae Post (pc + 3) ls rest (k + mc) (n + ms) ad' (S ++ F ad') σ1) : Ev own cc nL ini ret R ae Post pc ls st k n ad (S ++ [o]) σ :=
  ev_callI (ret' := none) hM hm hl hi hn1 hst hna hd hR0 hk hn hcat (fun v ad2 sh2 σ2 ⟨e1, e2, e3, e4⟩ => by subst e1; subst e3; subst e4; exact K ad2 e2)
theorem oi_in : Cond.instanceMethod Lib.objectInit ∈ mTs := mTs_i 97 (by decide +kernel) (by decide +kernel)
theorem oi_co : Cond.code Lib.objectInit ⟨#[0xb1]⟩ 1 none ∈ mTs := mTs_i 98 (by decide +kernel) (by decide +kernel)

theorem ow_X0_1 : Cond.methodLink RX0 1 Lib.objectInit ∈ mTs := mTs_i 292 (by decide +kernel) (by decide +kernel)
theorem nw_X0_7 {T : Nat} {sh : mSh} (hT : sh.length = T) (hz : mZ σ T) (hk : k + 1 ≤ R.cells) (hn : n + 2 ≤ R.slots) (hd : decode cc pc = .ok (.new 7, 3)) (K : ∀ ad1 : Nat → Nat, (∀ j, j < T → ad1 j = ad j) → Ev RX0 cc nL ini ret R ae Post (pc + 3) ls (.ref (ad1 T) :: rest) (k + 1) (n + 2) ad1 (sh ++ [.inr (3, [.null, .int 0])]) σ) : Ev RX0 cc nL ini ret R ae Post pc ls rest k n ad sh σ := by
  subst hT
  refine ev_new (fs := [.null, .int 0]) mk_X3 (mTs_i 293 (by decide +kernel) (by decide +kernel)) (mTs_i 271 (by decide +kernel) (by decide +kernel)) (mTs_i 79 (by decide +kernel) (by decide +kernel)) (fun j hj => ?_) (fun q σ => ?_) hk hn hd (fun ad1 ha => ?_)
  · have : j = 0 ∨ j = 1 := by omega
    rcases this with e | e <;> subst e <;> rfl
  · simp [mVal, mr, mrl, List.mapIdx_cons]
  · rw [mZ_eq hz]; exact K ad1 ha
theorem pr_X0_10 {N a : Nat} {fs : List Value} {S L : mSh} (hS : S.length = N) (hd : decode cc pc = .ok (.putfield 10, 3)) (he : L[0]? = some (.inr (0, fs))) (hlen : 1 < fs.length) (K : Ev RX0 cc nL true ret R ae Post (pc + 3) ls rest k n ad (S ++ L.set 0 (.inr (0, fs.set 1 (.ref a)))) σ) : Ev RX0 cc nL true ret R ae Post pc ls (.ref a :: .ref (ad N) :: rest) k n ad (S ++ L) σ := cn_putr (T := TX0) (kf := 1) mk_X0 (mTs_i 298 (by decide +kernel) (by decide +kernel)) rfl rfl (by decide) rfl rfl hd rfl hS he hlen K
theorem pr_X0_16 {N a : Nat} {fs : List Value} {S L : mSh} (hS : S.length = N) (hd : decode cc pc = .ok (.putfield 16, 3)) (he : L[0]? = some (.inr (0, fs))) (hlen : 2 < fs.length) (K : Ev RX0 cc nL true ret R ae Post (pc + 3) ls rest k n ad (S ++ L.set 0 (.inr (0, fs.set 2 (.ref a)))) σ) : Ev RX0 cc nL true ret R ae Post pc ls (.ref a :: .ref (ad N) :: rest) k n ad (S ++ L) σ := cn_putr (T := TX0) (kf := 2) mk_X0 (mTs_i 299 (by decide +kernel) (by decide +kernel)) rfl rfl (by decide) rfl rfl hd rfl hS he hlen K
theorem nw_X0_19 {T : Nat} {sh : mSh} (hT : sh.length = T) (hz : mZ σ T) (hk : k + 1 ≤ R.cells) (hn : n + 8 ≤ R.slots) (hd : decode cc pc = .ok (.new 19, 3)) (K : ∀ ad1 : Nat → Nat, (∀ j, j < T → ad1 j = ad j) → Ev RX0 cc nL ini ret R ae Post (pc + 3) ls (.ref (ad1 T) :: rest) (k + 1) (n + 8) ad1 (sh ++ [.inr (6, [.null, .null, .int 0, .int 0, .int 0, .int 0, .long 0, .long 0])]) σ) : Ev RX0 cc nL ini ret R ae Post pc ls rest k n ad sh σ := by
  subst hT
  refine ev_new (fs := [.null, .null, .int 0, .int 0, .int 0, .int 0, .long 0, .long 0]) mk_X6 (mTs_i 295 (by decide +kernel) (by decide +kernel)) (mTs_i 206 (by decide +kernel) (by decide +kernel)) (mTs_i 77 (by decide +kernel) (by decide +kernel)) (fun j hj => ?_) (fun q σ => ?_) hk hn hd (fun ad1 ha => ?_)
  · have : j = 0 ∨ j = 1 ∨ j = 2 ∨ j = 3 ∨ j = 4 ∨ j = 5 ∨ j = 6 ∨ j = 7 := by omega
    rcases this with e | e | e | e | e | e | e | e <;> subst e <;> rfl
  · simp [mVal, mr, mrl, List.mapIdx_cons]
  · rw [mZ_eq hz]; exact K ad1 ha
theorem pr_X0_22 {N a : Nat} {fs : List Value} {S L : mSh} (hS : S.length = N) (hd : decode cc pc = .ok (.putfield 22, 3)) (he : L[0]? = some (.inr (0, fs))) (hlen : 3 < fs.length) (K : Ev RX0 cc nL true ret R ae Post (pc + 3) ls rest k n ad (S ++ L.set 0 (.inr (0, fs.set 3 (.ref a)))) σ) : Ev RX0 cc nL true ret R ae Post pc ls (.ref a :: .ref (ad N) :: rest) k n ad (S ++ L) σ := cn_putr (T := TX0) (kf := 3) mk_X0 (mTs_i 300 (by decide +kernel) (by decide +kernel)) rfl rfl (by decide) rfl rfl hd rfl hS he hlen K
theorem pr_X0_26 {N a : Nat} {fs : List Value} {S L : mSh} (hS : S.length = N) (hd : decode cc pc = .ok (.putfield 26, 3)) (he : L[0]? = some (.inr (0, fs))) (hlen : 4 < fs.length) (K : Ev RX0 cc nL true ret R ae Post (pc + 3) ls rest k n ad (S ++ L.set 0 (.inr (0, fs.set 4 (.ref a)))) σ) : Ev RX0 cc nL true ret R ae Post pc ls (.ref a :: .ref (ad N) :: rest) k n ad (S ++ L) σ := cn_putr (T := TX0) (kf := 4) mk_X0 (mTs_i 301 (by decide +kernel) (by decide +kernel)) rfl rfl (by decide) rfl rfl hd rfl hS he hlen K
theorem pr_X0_29 {N a : Nat} {fs : List Value} {S L : mSh} (hS : S.length = N) (hd : decode cc pc = .ok (.putfield 29, 3)) (he : L[0]? = some (.inr (0, fs))) (hlen : 0 < fs.length) (K : Ev RX0 cc nL true ret R ae Post (pc + 3) ls rest k n ad (S ++ L.set 0 (.inr (0, fs.set 0 (.ref a)))) σ) : Ev RX0 cc nL true ret R ae Post pc ls (.ref a :: .ref (ad N) :: rest) k n ad (S ++ L) σ := cn_putr (T := TX0) (kf := 0) mk_X0 (mTs_i 297 (by decide +kernel) (by decide +kernel)) rfl rfl (by decide) rfl rfl hd rfl hS he hlen K
theorem ow_X1_3 : Cond.methodLink RX1 3 Lib.objectInit ∈ mTs := mTs_i 120 (by decide +kernel) (by decide +kernel)
theorem pr_X1_9 {N a : Nat} {fs : List Value} {S L : mSh} (hS : S.length = N) (hd : decode cc pc = .ok (.putfield 9, 3)) (he : L[0]? = some (.inr (1, fs))) (hlen : 0 < fs.length) (K : Ev RX1 cc nL true ret R ae Post (pc + 3) ls rest k n ad (S ++ L.set 0 (.inr (1, fs.set 0 (.ref a)))) σ) : Ev RX1 cc nL true ret R ae Post pc ls (.ref a :: .ref (ad N) :: rest) k n ad (S ++ L) σ := cn_putr (T := TX1) (kf := 0) mk_X1 (mTs_i 124 (by decide +kernel) (by decide +kernel)) rfl rfl (by decide) rfl rfl hd rfl hS he hlen K
theorem pr_X1_15 {N a : Nat} {fs : List Value} {S L : mSh} (hS : S.length = N) (hd : decode cc pc = .ok (.putfield 15, 3)) (he : L[0]? = some (.inr (1, fs))) (hlen : 1 < fs.length) (K : Ev RX1 cc nL true ret R ae Post (pc + 3) ls rest k n ad (S ++ L.set 0 (.inr (1, fs.set 1 (.ref a)))) σ) : Ev RX1 cc nL true ret R ae Post pc ls (.ref a :: .ref (ad N) :: rest) k n ad (S ++ L) σ := cn_putr (T := TX1) (kf := 1) mk_X1 (mTs_i 126 (by decide +kernel) (by decide +kernel)) rfl rfl (by decide) rfl rfl hd rfl hS he hlen K
theorem pr_X1_18 {N a : Nat} {fs : List Value} {S L : mSh} (hS : S.length = N) (hd : decode cc pc = .ok (.putfield 18, 3)) (he : L[0]? = some (.inr (1, fs))) (hlen : 2 < fs.length) (K : Ev RX1 cc nL true ret R ae Post (pc + 3) ls rest k n ad (S ++ L.set 0 (.inr (1, fs.set 2 (.ref a)))) σ) : Ev RX1 cc nL true ret R ae Post pc ls (.ref a :: .ref (ad N) :: rest) k n ad (S ++ L) σ := cn_putr (T := TX1) (kf := 2) mk_X1 (mTs_i 128 (by decide +kernel) (by decide +kernel)) rfl rfl (by decide) rfl rfl hd rfl hS he hlen K
theorem pr_X1_21 {N a : Nat} {fs : List Value} {S L : mSh} (hS : S.length = N) (hd : decode cc pc = .ok (.putfield 21, 3)) (he : L[0]? = some (.inr (1, fs))) (hlen : 3 < fs.length) (K : Ev RX1 cc nL true ret R ae Post (pc + 3) ls rest k n ad (S ++ L.set 0 (.inr (1, fs.set 3 (.ref a)))) σ) : Ev RX1 cc nL true ret R ae Post pc ls (.ref a :: .ref (ad N) :: rest) k n ad (S ++ L) σ := cn_putr (T := TX1) (kf := 3) mk_X1 (mTs_i 130 (by decide +kernel) (by decide +kernel)) rfl rfl (by decide) rfl rfl hd rfl hS he hlen K
theorem pr_X1_24 {N a : Nat} {fs : List Value} {S L : mSh} (hS : S.length = N) (hd : decode cc pc = .ok (.putfield 24, 3)) (he : L[0]? = some (.inr (1, fs))) (hlen : 4 < fs.length) (K : Ev RX1 cc nL true ret R ae Post (pc + 3) ls rest k n ad (S ++ L.set 0 (.inr (1, fs.set 4 (.ref a)))) σ) : Ev RX1 cc nL true ret R ae Post pc ls (.ref a :: .ref (ad N) :: rest) k n ad (S ++ L) σ := cn_putr (T := TX1) (kf := 4) mk_X1 (mTs_i 132 (by decide +kernel) (by decide +kernel)) rfl rfl (by decide) rfl rfl hd rfl hS he hlen K
theorem pr_X1_27 {N a : Nat} {fs : List Value} {S L : mSh} (hS : S.length = N) (hd : decode cc pc = .ok (.putfield 27, 3)) (he : L[0]? = some (.inr (1, fs))) (hlen : 5 < fs.length) (K : Ev RX1 cc nL true ret R ae Post (pc + 3) ls rest k n ad (S ++ L.set 0 (.inr (1, fs.set 5 (.ref a)))) σ) : Ev RX1 cc nL true ret R ae Post pc ls (.ref a :: .ref (ad N) :: rest) k n ad (S ++ L) σ := cn_putr (T := TX1) (kf := 5) mk_X1 (mTs_i 134 (by decide +kernel) (by decide +kernel)) rfl rfl (by decide) rfl rfl hd rfl hS he hlen K
theorem pr_X1_30 {N a : Nat} {fs : List Value} {S L : mSh} (hS : S.length = N) (hd : decode cc pc = .ok (.putfield 30, 3)) (he : L[0]? = some (.inr (1, fs))) (hlen : 6 < fs.length) (K : Ev RX1 cc nL true ret R ae Post (pc + 3) ls rest k n ad (S ++ L.set 0 (.inr (1, fs.set 6 (.ref a)))) σ) : Ev RX1 cc nL true ret R ae Post pc ls (.ref a :: .ref (ad N) :: rest) k n ad (S ++ L) σ := cn_putr (T := TX1) (kf := 6) mk_X1 (mTs_i 136 (by decide +kernel) (by decide +kernel)) rfl rfl (by decide) rfl rfl hd rfl hS he hlen K
theorem pr_X1_33 {N a : Nat} {fs : List Value} {S L : mSh} (hS : S.length = N) (hd : decode cc pc = .ok (.putfield 33, 3)) (he : L[0]? = some (.inr (1, fs))) (hlen : 7 < fs.length) (K : Ev RX1 cc nL true ret R ae Post (pc + 3) ls rest k n ad (S ++ L.set 0 (.inr (1, fs.set 7 (.ref a)))) σ) : Ev RX1 cc nL true ret R ae Post pc ls (.ref a :: .ref (ad N) :: rest) k n ad (S ++ L) σ := cn_putr (T := TX1) (kf := 7) mk_X1 (mTs_i 138 (by decide +kernel) (by decide +kernel)) rfl rfl (by decide) rfl rfl hd rfl hS he hlen K
theorem pr_X1_36 {N a : Nat} {fs : List Value} {S L : mSh} (hS : S.length = N) (hd : decode cc pc = .ok (.putfield 36, 3)) (he : L[0]? = some (.inr (1, fs))) (hlen : 8 < fs.length) (K : Ev RX1 cc nL true ret R ae Post (pc + 3) ls rest k n ad (S ++ L.set 0 (.inr (1, fs.set 8 (.ref a)))) σ) : Ev RX1 cc nL true ret R ae Post pc ls (.ref a :: .ref (ad N) :: rest) k n ad (S ++ L) σ := cn_putr (T := TX1) (kf := 8) mk_X1 (mTs_i 141 (by decide +kernel) (by decide +kernel)) rfl rfl (by decide) rfl rfl hd rfl hS he hlen K
theorem ow_X2_3 : Cond.methodLink RX2 3 Lib.objectInit ∈ mTs := mTs_i 104 (by decide +kernel) (by decide +kernel)
theorem pr_X2_9 {N a : Nat} {fs : List Value} {S L : mSh} (hS : S.length = N) (hd : decode cc pc = .ok (.putfield 9, 3)) (he : L[0]? = some (.inr (2, fs))) (hlen : 0 < fs.length) (K : Ev RX2 cc nL true ret R ae Post (pc + 3) ls rest k n ad (S ++ L.set 0 (.inr (2, fs.set 0 (.ref a)))) σ) : Ev RX2 cc nL true ret R ae Post pc ls (.ref a :: .ref (ad N) :: rest) k n ad (S ++ L) σ := cn_putr (T := TX2) (kf := 0) mk_X2 (mTs_i 105 (by decide +kernel) (by decide +kernel)) rfl rfl (by decide) rfl rfl hd rfl hS he hlen K
theorem ow_X3_3 : Cond.methodLink RX3 3 Lib.objectInit ∈ mTs := mTs_i 275 (by decide +kernel) (by decide +kernel)
theorem pr_X3_9 {N a : Nat} {fs : List Value} {S L : mSh} (hS : S.length = N) (hd : decode cc pc = .ok (.putfield 9, 3)) (he : L[0]? = some (.inr (3, fs))) (hlen : 0 < fs.length) (K : Ev RX3 cc nL true ret R ae Post (pc + 3) ls rest k n ad (S ++ L.set 0 (.inr (3, fs.set 0 (.ref a)))) σ) : Ev RX3 cc nL true ret R ae Post pc ls (.ref a :: .ref (ad N) :: rest) k n ad (S ++ L) σ := cn_putr (T := TX3) (kf := 0) mk_X3 (mTs_i 276 (by decide +kernel) (by decide +kernel)) rfl rfl (by decide) rfl rfl hd rfl hS he hlen K
theorem ow_X4_3 : Cond.methodLink RX4 3 Lib.objectInit ∈ mTs := mTs_i 187 (by decide +kernel) (by decide +kernel)
theorem pr_X4_9 {N a : Nat} {fs : List Value} {S L : mSh} (hS : S.length = N) (hd : decode cc pc = .ok (.putfield 9, 3)) (he : L[0]? = some (.inr (4, fs))) (hlen : 0 < fs.length) (K : Ev RX4 cc nL true ret R ae Post (pc + 3) ls rest k n ad (S ++ L.set 0 (.inr (4, fs.set 0 (.ref a)))) σ) : Ev RX4 cc nL true ret R ae Post pc ls (.ref a :: .ref (ad N) :: rest) k n ad (S ++ L) σ := cn_putr (T := TX4) (kf := 0) mk_X4 (mTs_i 188 (by decide +kernel) (by decide +kernel)) rfl rfl (by decide) rfl rfl hd rfl hS he hlen K
theorem pr_X4_15 {N a : Nat} {fs : List Value} {S L : mSh} (hS : S.length = N) (hd : decode cc pc = .ok (.putfield 15, 3)) (he : L[0]? = some (.inr (4, fs))) (hlen : 1 < fs.length) (K : Ev RX4 cc nL true ret R ae Post (pc + 3) ls rest k n ad (S ++ L.set 0 (.inr (4, fs.set 1 (.ref a)))) σ) : Ev RX4 cc nL true ret R ae Post pc ls (.ref a :: .ref (ad N) :: rest) k n ad (S ++ L) σ := cn_putr (T := TX4) (kf := 1) mk_X4 (mTs_i 190 (by decide +kernel) (by decide +kernel)) rfl rfl (by decide) rfl rfl hd rfl hS he hlen K
theorem pr_X4_18 {N a : Nat} {fs : List Value} {S L : mSh} (hS : S.length = N) (hd : decode cc pc = .ok (.putfield 18, 3)) (he : L[0]? = some (.inr (4, fs))) (hlen : 2 < fs.length) (K : Ev RX4 cc nL true ret R ae Post (pc + 3) ls rest k n ad (S ++ L.set 0 (.inr (4, fs.set 2 (.ref a)))) σ) : Ev RX4 cc nL true ret R ae Post pc ls (.ref a :: .ref (ad N) :: rest) k n ad (S ++ L) σ := cn_putr (T := TX4) (kf := 2) mk_X4 (mTs_i 192 (by decide +kernel) (by decide +kernel)) rfl rfl (by decide) rfl rfl hd rfl hS he hlen K
theorem ow_X5_3 : Cond.methodLink RX5 3 Lib.objectInit ∈ mTs := mTs_i 177 (by decide +kernel) (by decide +kernel)
theorem pr_X5_9 {N a : Nat} {fs : List Value} {S L : mSh} (hS : S.length = N) (hd : decode cc pc = .ok (.putfield 9, 3)) (he : L[0]? = some (.inr (5, fs))) (hlen : 0 < fs.length) (K : Ev RX5 cc nL true ret R ae Post (pc + 3) ls rest k n ad (S ++ L.set 0 (.inr (5, fs.set 0 (.ref a)))) σ) : Ev RX5 cc nL true ret R ae Post pc ls (.ref a :: .ref (ad N) :: rest) k n ad (S ++ L) σ := cn_putr (T := TX5) (kf := 0) mk_X5 (mTs_i 178 (by decide +kernel) (by decide +kernel)) rfl rfl (by decide) rfl rfl hd rfl hS he hlen K
theorem ow_X6_3 : Cond.methodLink RX6 3 Lib.objectInit ∈ mTs := mTs_i 210 (by decide +kernel) (by decide +kernel)
theorem pr_X6_9 {N a : Nat} {fs : List Value} {S L : mSh} (hS : S.length = N) (hd : decode cc pc = .ok (.putfield 9, 3)) (he : L[0]? = some (.inr (6, fs))) (hlen : 0 < fs.length) (K : Ev RX6 cc nL true ret R ae Post (pc + 3) ls rest k n ad (S ++ L.set 0 (.inr (6, fs.set 0 (.ref a)))) σ) : Ev RX6 cc nL true ret R ae Post pc ls (.ref a :: .ref (ad N) :: rest) k n ad (S ++ L) σ := cn_putr (T := TX6) (kf := 0) mk_X6 (mTs_i 211 (by decide +kernel) (by decide +kernel)) rfl rfl (by decide) rfl rfl hd rfl hS he hlen K
theorem pr_X6_15 {N a : Nat} {fs : List Value} {S L : mSh} (hS : S.length = N) (hd : decode cc pc = .ok (.putfield 15, 3)) (he : L[0]? = some (.inr (6, fs))) (hlen : 1 < fs.length) (K : Ev RX6 cc nL true ret R ae Post (pc + 3) ls rest k n ad (S ++ L.set 0 (.inr (6, fs.set 1 (.ref a)))) σ) : Ev RX6 cc nL true ret R ae Post pc ls (.ref a :: .ref (ad N) :: rest) k n ad (S ++ L) σ := cn_putr (T := TX6) (kf := 1) mk_X6 (mTs_i 212 (by decide +kernel) (by decide +kernel)) rfl rfl (by decide) rfl rfl hd rfl hS he hlen K
theorem ow_X7_1 : Cond.methodLink RX7 1 Lib.objectInit ∈ mTs := mTs_i 318 (by decide +kernel) (by decide +kernel)
theorem nw_X7_7 {T : Nat} {sh : mSh} (hT : sh.length = T) (hz : mZ σ T) (hk : k + 1 ≤ R.cells) (hn : n + 11 ≤ R.slots) (hd : decode cc pc = .ok (.new 7, 3)) (K : ∀ ad1 : Nat → Nat, (∀ j, j < T → ad1 j = ad j) → Ev RX7 cc nL ini ret R ae Post (pc + 3) ls (.ref (ad1 T) :: rest) (k + 1) (n + 11) ad1 (sh ++ [.inr (1, [.null, .null, .null, .null, .null, .null, .null, .null, .null, .int 0, .int 0])]) σ) : Ev RX7 cc nL ini ret R ae Post pc ls rest k n ad sh σ := by
  subst hT
  refine ev_new (fs := [.null, .null, .null, .null, .null, .null, .null, .null, .null, .int 0, .int 0]) mk_X1 (mTs_i 319 (by decide +kernel) (by decide +kernel)) (mTs_i 116 (by decide +kernel) (by decide +kernel)) (mTs_i 74 (by decide +kernel) (by decide +kernel)) (fun j hj => ?_) (fun q σ => ?_) hk hn hd (fun ad1 ha => ?_)
  · have : j = 0 ∨ j = 1 ∨ j = 2 ∨ j = 3 ∨ j = 4 ∨ j = 5 ∨ j = 6 ∨ j = 7 ∨ j = 8 ∨ j = 9 ∨ j = 10 := by omega
    rcases this with e | e | e | e | e | e | e | e | e | e | e <;> subst e <;> rfl
  · simp [mVal, mr, mrl, List.mapIdx_cons]
  · rw [mZ_eq hz]; exact K ad1 ha
theorem pr_X7_10 {N a : Nat} {fs : List Value} {S L : mSh} (hS : S.length = N) (hd : decode cc pc = .ok (.putfield 10, 3)) (he : L[0]? = some (.inr (7, fs))) (hlen : 0 < fs.length) (K : Ev RX7 cc nL true ret R ae Post (pc + 3) ls rest k n ad (S ++ L.set 0 (.inr (7, fs.set 0 (.ref a)))) σ) : Ev RX7 cc nL true ret R ae Post pc ls (.ref a :: .ref (ad N) :: rest) k n ad (S ++ L) σ := cn_putr (T := TX7) (kf := 0) mk_X7 (mTs_i 325 (by decide +kernel) (by decide +kernel)) rfl rfl (by decide) rfl rfl hd rfl hS he hlen K
theorem nw_X7_16 {T : Nat} {sh : mSh} (hT : sh.length = T) (hz : mZ σ T) (hk : k + 1 ≤ R.cells) (hn : n + 8 ≤ R.slots) (hd : decode cc pc = .ok (.new 16, 3)) (K : ∀ ad1 : Nat → Nat, (∀ j, j < T → ad1 j = ad j) → Ev RX7 cc nL ini ret R ae Post (pc + 3) ls (.ref (ad1 T) :: rest) (k + 1) (n + 8) ad1 (sh ++ [.inr (6, [.null, .null, .int 0, .int 0, .int 0, .int 0, .long 0, .long 0])]) σ) : Ev RX7 cc nL ini ret R ae Post pc ls rest k n ad sh σ := by
  subst hT
  refine ev_new (fs := [.null, .null, .int 0, .int 0, .int 0, .int 0, .long 0, .long 0]) mk_X6 (mTs_i 321 (by decide +kernel) (by decide +kernel)) (mTs_i 206 (by decide +kernel) (by decide +kernel)) (mTs_i 77 (by decide +kernel) (by decide +kernel)) (fun j hj => ?_) (fun q σ => ?_) hk hn hd (fun ad1 ha => ?_)
  · have : j = 0 ∨ j = 1 ∨ j = 2 ∨ j = 3 ∨ j = 4 ∨ j = 5 ∨ j = 6 ∨ j = 7 := by omega
    rcases this with e | e | e | e | e | e | e | e <;> subst e <;> rfl
  · simp [mVal, mr, mrl, List.mapIdx_cons]
  · rw [mZ_eq hz]; exact K ad1 ha
theorem pr_X7_19 {N a : Nat} {fs : List Value} {S L : mSh} (hS : S.length = N) (hd : decode cc pc = .ok (.putfield 19, 3)) (he : L[0]? = some (.inr (7, fs))) (hlen : 1 < fs.length) (K : Ev RX7 cc nL true ret R ae Post (pc + 3) ls rest k n ad (S ++ L.set 0 (.inr (7, fs.set 1 (.ref a)))) σ) : Ev RX7 cc nL true ret R ae Post pc ls (.ref a :: .ref (ad N) :: rest) k n ad (S ++ L) σ := cn_putr (T := TX7) (kf := 1) mk_X7 (mTs_i 327 (by decide +kernel) (by decide +kernel)) rfl rfl (by decide) rfl rfl hd rfl hS he hlen K
theorem nw_X7_23 {T : Nat} {sh : mSh} (hT : sh.length = T) (hz : mZ σ T) (hk : k + 1 ≤ R.cells) (hn : n + 4 ≤ R.slots) (hd : decode cc pc = .ok (.new 23, 3)) (K : ∀ ad1 : Nat → Nat, (∀ j, j < T → ad1 j = ad j) → Ev RX7 cc nL ini ret R ae Post (pc + 3) ls (.ref (ad1 T) :: rest) (k + 1) (n + 4) ad1 (sh ++ [.inr (8, [.null, .null, .null, .int 0])]) σ) : Ev RX7 cc nL ini ret R ae Post pc ls rest k n ad sh σ := by
  subst hT
  refine ev_new (fs := [.null, .null, .null, .int 0]) mk_X8 (mTs_i 323 (by decide +kernel) (by decide +kernel)) (mTs_i 249 (by decide +kernel) (by decide +kernel)) (mTs_i 78 (by decide +kernel) (by decide +kernel)) (fun j hj => ?_) (fun q σ => ?_) hk hn hd (fun ad1 ha => ?_)
  · have : j = 0 ∨ j = 1 ∨ j = 2 ∨ j = 3 := by omega
    rcases this with e | e | e | e <;> subst e <;> rfl
  · simp [mVal, mr, mrl, List.mapIdx_cons]
  · rw [mZ_eq hz]; exact K ad1 ha
theorem pr_X7_26 {N a : Nat} {fs : List Value} {S L : mSh} (hS : S.length = N) (hd : decode cc pc = .ok (.putfield 26, 3)) (he : L[0]? = some (.inr (7, fs))) (hlen : 2 < fs.length) (K : Ev RX7 cc nL true ret R ae Post (pc + 3) ls rest k n ad (S ++ L.set 0 (.inr (7, fs.set 2 (.ref a)))) σ) : Ev RX7 cc nL true ret R ae Post pc ls (.ref a :: .ref (ad N) :: rest) k n ad (S ++ L) σ := cn_putr (T := TX7) (kf := 2) mk_X7 (mTs_i 329 (by decide +kernel) (by decide +kernel)) rfl rfl (by decide) rfl rfl hd rfl hS he hlen K
theorem ow_X8_3 : Cond.methodLink RX8 3 Lib.objectInit ∈ mTs := mTs_i 253 (by decide +kernel) (by decide +kernel)
theorem pr_X8_9 {N a : Nat} {fs : List Value} {S L : mSh} (hS : S.length = N) (hd : decode cc pc = .ok (.putfield 9, 3)) (he : L[0]? = some (.inr (8, fs))) (hlen : 0 < fs.length) (K : Ev RX8 cc nL true ret R ae Post (pc + 3) ls rest k n ad (S ++ L.set 0 (.inr (8, fs.set 0 (.ref a)))) σ) : Ev RX8 cc nL true ret R ae Post pc ls (.ref a :: .ref (ad N) :: rest) k n ad (S ++ L) σ := cn_putr (T := TX8) (kf := 0) mk_X8 (mTs_i 254 (by decide +kernel) (by decide +kernel)) rfl rfl (by decide) rfl rfl hd rfl hS he hlen K
theorem pr_X8_15 {N a : Nat} {fs : List Value} {S L : mSh} (hS : S.length = N) (hd : decode cc pc = .ok (.putfield 15, 3)) (he : L[0]? = some (.inr (8, fs))) (hlen : 1 < fs.length) (K : Ev RX8 cc nL true ret R ae Post (pc + 3) ls rest k n ad (S ++ L.set 0 (.inr (8, fs.set 1 (.ref a)))) σ) : Ev RX8 cc nL true ret R ae Post pc ls (.ref a :: .ref (ad N) :: rest) k n ad (S ++ L) σ := cn_putr (T := TX8) (kf := 1) mk_X8 (mTs_i 256 (by decide +kernel) (by decide +kernel)) rfl rfl (by decide) rfl rfl hd rfl hS he hlen K
theorem pr_X8_18 {N a : Nat} {fs : List Value} {S L : mSh} (hS : S.length = N) (hd : decode cc pc = .ok (.putfield 18, 3)) (he : L[0]? = some (.inr (8, fs))) (hlen : 2 < fs.length) (K : Ev RX8 cc nL true ret R ae Post (pc + 3) ls rest k n ad (S ++ L.set 0 (.inr (8, fs.set 2 (.ref a)))) σ) : Ev RX8 cc nL true ret R ae Post pc ls (.ref a :: .ref (ad N) :: rest) k n ad (S ++ L) σ := cn_putr (T := TX8) (kf := 2) mk_X8 (mTs_i 258 (by decide +kernel) (by decide +kernel)) rfl rfl (by decide) rfl rfl hd rfl hS he hlen K
theorem ow_X9_5 : Cond.methodLink RX9 5 Lib.objectInit ∈ mTs := mTs_i 96 (by decide +kernel) (by decide +kernel)
theorem nw_X9_11 {T : Nat} {sh : mSh} (hT : sh.length = T) (hz : mZ σ T) (hk : k + 1 ≤ R.cells) (hn : n + 2 ≤ R.slots) (hd : decode cc pc = .ok (.new 11, 3)) (K : ∀ ad1 : Nat → Nat, (∀ j, j < T → ad1 j = ad j) → Ev RX9 cc nL ini ret R ae Post (pc + 3) ls (.ref (ad1 T) :: rest) (k + 1) (n + 2) ad1 (sh ++ [.inr (2, [.null, .int 0])]) σ) : Ev RX9 cc nL ini ret R ae Post pc ls rest k n ad sh σ := by
  subst hT
  refine ev_new (fs := [.null, .int 0]) mk_X2 (mTs_i 99 (by decide +kernel) (by decide +kernel)) (mTs_i 100 (by decide +kernel) (by decide +kernel)) (mTs_i 73 (by decide +kernel) (by decide +kernel)) (fun j hj => ?_) (fun q σ => ?_) hk hn hd (fun ad1 ha => ?_)
  · have : j = 0 ∨ j = 1 := by omega
    rcases this with e | e <;> subst e <;> rfl
  · simp [mVal, mr, mrl, List.mapIdx_cons]
  · rw [mZ_eq hz]; exact K ad1 ha
theorem pr_X9_14 {N a : Nat} {fs : List Value} {S L : mSh} (hS : S.length = N) (hd : decode cc pc = .ok (.putfield 14, 3)) (he : L[0]? = some (.inr (9, fs))) (hlen : 0 < fs.length) (K : Ev RX9 cc nL true ret R ae Post (pc + 3) ls rest k n ad (S ++ L.set 0 (.inr (9, fs.set 0 (.ref a)))) σ) : Ev RX9 cc nL true ret R ae Post pc ls (.ref a :: .ref (ad N) :: rest) k n ad (S ++ L) σ := cn_putr (T := TX9) (kf := 0) mk_X9 (mTs_i 364 (by decide +kernel) (by decide +kernel)) rfl rfl (by decide) rfl rfl hd rfl hS he hlen K
theorem pr_X9_18 {N a : Nat} {fs : List Value} {S L : mSh} (hS : S.length = N) (hd : decode cc pc = .ok (.putfield 18, 3)) (he : L[0]? = some (.inr (9, fs))) (hlen : 1 < fs.length) (K : Ev RX9 cc nL true ret R ae Post (pc + 3) ls rest k n ad (S ++ L.set 0 (.inr (9, fs.set 1 (.ref a)))) σ) : Ev RX9 cc nL true ret R ae Post pc ls (.ref a :: .ref (ad N) :: rest) k n ad (S ++ L) σ := cn_putr (T := TX9) (kf := 1) mk_X9 (mTs_i 365 (by decide +kernel) (by decide +kernel)) rfl rfl (by decide) rfl rfl hd rfl hS he hlen K
theorem nw_X9_21 {T : Nat} {sh : mSh} (hT : sh.length = T) (hz : mZ σ T) (hk : k + 1 ≤ R.cells) (hn : n + 11 ≤ R.slots) (hd : decode cc pc = .ok (.new 21, 3)) (K : ∀ ad1 : Nat → Nat, (∀ j, j < T → ad1 j = ad j) → Ev RX9 cc nL ini ret R ae Post (pc + 3) ls (.ref (ad1 T) :: rest) (k + 1) (n + 11) ad1 (sh ++ [.inr (1, [.null, .null, .null, .null, .null, .null, .null, .null, .null, .int 0, .int 0])]) σ) : Ev RX9 cc nL ini ret R ae Post pc ls rest k n ad sh σ := by
  subst hT
  refine ev_new (fs := [.null, .null, .null, .null, .null, .null, .null, .null, .null, .int 0, .int 0]) mk_X1 (mTs_i 115 (by decide +kernel) (by decide +kernel)) (mTs_i 116 (by decide +kernel) (by decide +kernel)) (mTs_i 74 (by decide +kernel) (by decide +kernel)) (fun j hj => ?_) (fun q σ => ?_) hk hn hd (fun ad1 ha => ?_)
  · have : j = 0 ∨ j = 1 ∨ j = 2 ∨ j = 3 ∨ j = 4 ∨ j = 5 ∨ j = 6 ∨ j = 7 ∨ j = 8 ∨ j = 9 ∨ j = 10 := by omega
    rcases this with e | e | e | e | e | e | e | e | e | e | e <;> subst e <;> rfl
  · simp [mVal, mr, mrl, List.mapIdx_cons]
  · rw [mZ_eq hz]; exact K ad1 ha
theorem pr_X9_24 {N a : Nat} {fs : List Value} {S L : mSh} (hS : S.length = N) (hd : decode cc pc = .ok (.putfield 24, 3)) (he : L[0]? = some (.inr (9, fs))) (hlen : 2 < fs.length) (K : Ev RX9 cc nL true ret R ae Post (pc + 3) ls rest k n ad (S ++ L.set 0 (.inr (9, fs.set 2 (.ref a)))) σ) : Ev RX9 cc nL true ret R ae Post pc ls (.ref a :: .ref (ad N) :: rest) k n ad (S ++ L) σ := cn_putr (T := TX9) (kf := 2) mk_X9 (mTs_i 366 (by decide +kernel) (by decide +kernel)) rfl rfl (by decide) rfl rfl hd rfl hS he hlen K
theorem nw_X9_28 {T : Nat} {sh : mSh} (hT : sh.length = T) (hz : mZ σ T) (hk : k + 1 ≤ R.cells) (hn : n + 1 ≤ R.slots) (hd : decode cc pc = .ok (.new 28, 3)) (K : ∀ ad1 : Nat → Nat, (∀ j, j < T → ad1 j = ad j) → Ev RX9 cc nL ini ret R ae Post (pc + 3) ls (.ref (ad1 T) :: rest) (k + 1) (n + 1) ad1 (sh ++ [.inr (5, [.null])]) σ) : Ev RX9 cc nL ini ret R ae Post pc ls rest k n ad sh σ := by
  subst hT
  refine ev_new (fs := [.null]) mk_X5 (mTs_i 172 (by decide +kernel) (by decide +kernel)) (mTs_i 173 (by decide +kernel) (by decide +kernel)) (mTs_i 75 (by decide +kernel) (by decide +kernel)) (fun j hj => ?_) (fun q σ => ?_) hk hn hd (fun ad1 ha => ?_)
  · have : j = 0 := by omega
    subst this; rfl
  · simp [mVal, mr, mrl, List.mapIdx_cons]
  · rw [mZ_eq hz]; exact K ad1 ha
theorem pr_X9_33 {N a : Nat} {fs : List Value} {S L : mSh} (hS : S.length = N) (hd : decode cc pc = .ok (.putfield 33, 3)) (he : L[0]? = some (.inr (9, fs))) (hlen : 3 < fs.length) (K : Ev RX9 cc nL true ret R ae Post (pc + 3) ls rest k n ad (S ++ L.set 0 (.inr (9, fs.set 3 (.ref a)))) σ) : Ev RX9 cc nL true ret R ae Post pc ls (.ref a :: .ref (ad N) :: rest) k n ad (S ++ L) σ := cn_putr (T := TX9) (kf := 3) mk_X9 (mTs_i 367 (by decide +kernel) (by decide +kernel)) rfl rfl (by decide) rfl rfl hd rfl hS he hlen K
theorem nw_X9_37 {T : Nat} {sh : mSh} (hT : sh.length = T) (hz : mZ σ T) (hk : k + 1 ≤ R.cells) (hn : n + 4 ≤ R.slots) (hd : decode cc pc = .ok (.new 37, 3)) (K : ∀ ad1 : Nat → Nat, (∀ j, j < T → ad1 j = ad j) → Ev RX9 cc nL ini ret R ae Post (pc + 3) ls (.ref (ad1 T) :: rest) (k + 1) (n + 4) ad1 (sh ++ [.inr (4, [.null, .null, .null, .int 0])]) σ) : Ev RX9 cc nL ini ret R ae Post pc ls rest k n ad sh σ := by
  subst hT
  refine ev_new (fs := [.null, .null, .null, .int 0]) mk_X4 (mTs_i 182 (by decide +kernel) (by decide +kernel)) (mTs_i 183 (by decide +kernel) (by decide +kernel)) (mTs_i 76 (by decide +kernel) (by decide +kernel)) (fun j hj => ?_) (fun q σ => ?_) hk hn hd (fun ad1 ha => ?_)
  · have : j = 0 ∨ j = 1 ∨ j = 2 ∨ j = 3 := by omega
    rcases this with e | e | e | e <;> subst e <;> rfl
  · simp [mVal, mr, mrl, List.mapIdx_cons]
  · rw [mZ_eq hz]; exact K ad1 ha
theorem pr_X9_40 {N a : Nat} {fs : List Value} {S L : mSh} (hS : S.length = N) (hd : decode cc pc = .ok (.putfield 40, 3)) (he : L[0]? = some (.inr (9, fs))) (hlen : 4 < fs.length) (K : Ev RX9 cc nL true ret R ae Post (pc + 3) ls rest k n ad (S ++ L.set 0 (.inr (9, fs.set 4 (.ref a)))) σ) : Ev RX9 cc nL true ret R ae Post pc ls (.ref a :: .ref (ad N) :: rest) k n ad (S ++ L) σ := cn_putr (T := TX9) (kf := 4) mk_X9 (mTs_i 368 (by decide +kernel) (by decide +kernel)) rfl rfl (by decide) rfl rfl hd rfl hS he hlen K
theorem nw_X9_44 {T : Nat} {sh : mSh} (hT : sh.length = T) (hz : mZ σ T) (hk : k + 1 ≤ R.cells) (hn : n + 8 ≤ R.slots) (hd : decode cc pc = .ok (.new 44, 3)) (K : ∀ ad1 : Nat → Nat, (∀ j, j < T → ad1 j = ad j) → Ev RX9 cc nL ini ret R ae Post (pc + 3) ls (.ref (ad1 T) :: rest) (k + 1) (n + 8) ad1 (sh ++ [.inr (6, [.null, .null, .int 0, .int 0, .int 0, .int 0, .long 0, .long 0])]) σ) : Ev RX9 cc nL ini ret R ae Post pc ls rest k n ad sh σ := by
  subst hT
  refine ev_new (fs := [.null, .null, .int 0, .int 0, .int 0, .int 0, .long 0, .long 0]) mk_X6 (mTs_i 205 (by decide +kernel) (by decide +kernel)) (mTs_i 206 (by decide +kernel) (by decide +kernel)) (mTs_i 77 (by decide +kernel) (by decide +kernel)) (fun j hj => ?_) (fun q σ => ?_) hk hn hd (fun ad1 ha => ?_)
  · have : j = 0 ∨ j = 1 ∨ j = 2 ∨ j = 3 ∨ j = 4 ∨ j = 5 ∨ j = 6 ∨ j = 7 := by omega
    rcases this with e | e | e | e | e | e | e | e <;> subst e <;> rfl
  · simp [mVal, mr, mrl, List.mapIdx_cons]
  · rw [mZ_eq hz]; exact K ad1 ha
theorem pr_X9_47 {N a : Nat} {fs : List Value} {S L : mSh} (hS : S.length = N) (hd : decode cc pc = .ok (.putfield 47, 3)) (he : L[0]? = some (.inr (9, fs))) (hlen : 5 < fs.length) (K : Ev RX9 cc nL true ret R ae Post (pc + 3) ls rest k n ad (S ++ L.set 0 (.inr (9, fs.set 5 (.ref a)))) σ) : Ev RX9 cc nL true ret R ae Post pc ls (.ref a :: .ref (ad N) :: rest) k n ad (S ++ L) σ := cn_putr (T := TX9) (kf := 5) mk_X9 (mTs_i 369 (by decide +kernel) (by decide +kernel)) rfl rfl (by decide) rfl rfl hd rfl hS he hlen K
theorem pr_X9_51 {N a : Nat} {fs : List Value} {S L : mSh} (hS : S.length = N) (hd : decode cc pc = .ok (.putfield 51, 3)) (he : L[0]? = some (.inr (9, fs))) (hlen : 6 < fs.length) (K : Ev RX9 cc nL true ret R ae Post (pc + 3) ls rest k n ad (S ++ L.set 0 (.inr (9, fs.set 6 (.ref a)))) σ) : Ev RX9 cc nL true ret R ae Post pc ls (.ref a :: .ref (ad N) :: rest) k n ad (S ++ L) σ := cn_putr (T := TX9) (kf := 6) mk_X9 (mTs_i 370 (by decide +kernel) (by decide +kernel)) rfl rfl (by decide) rfl rfl hd rfl hS he hlen K
theorem nw_X9_54 {T : Nat} {sh : mSh} (hT : sh.length = T) (hz : mZ σ T) (hk : k + 1 ≤ R.cells) (hn : n + 4 ≤ R.slots) (hd : decode cc pc = .ok (.new 54, 3)) (K : ∀ ad1 : Nat → Nat, (∀ j, j < T → ad1 j = ad j) → Ev RX9 cc nL ini ret R ae Post (pc + 3) ls (.ref (ad1 T) :: rest) (k + 1) (n + 4) ad1 (sh ++ [.inr (8, [.null, .null, .null, .int 0])]) σ) : Ev RX9 cc nL ini ret R ae Post pc ls rest k n ad sh σ := by
  subst hT
  refine ev_new (fs := [.null, .null, .null, .int 0]) mk_X8 (mTs_i 248 (by decide +kernel) (by decide +kernel)) (mTs_i 249 (by decide +kernel) (by decide +kernel)) (mTs_i 78 (by decide +kernel) (by decide +kernel)) (fun j hj => ?_) (fun q σ => ?_) hk hn hd (fun ad1 ha => ?_)
  · have : j = 0 ∨ j = 1 ∨ j = 2 ∨ j = 3 := by omega
    rcases this with e | e | e | e <;> subst e <;> rfl
  · simp [mVal, mr, mrl, List.mapIdx_cons]
  · rw [mZ_eq hz]; exact K ad1 ha
theorem pr_X9_57 {N a : Nat} {fs : List Value} {S L : mSh} (hS : S.length = N) (hd : decode cc pc = .ok (.putfield 57, 3)) (he : L[0]? = some (.inr (9, fs))) (hlen : 7 < fs.length) (K : Ev RX9 cc nL true ret R ae Post (pc + 3) ls rest k n ad (S ++ L.set 0 (.inr (9, fs.set 7 (.ref a)))) σ) : Ev RX9 cc nL true ret R ae Post pc ls (.ref a :: .ref (ad N) :: rest) k n ad (S ++ L) σ := cn_putr (T := TX9) (kf := 7) mk_X9 (mTs_i 371 (by decide +kernel) (by decide +kernel)) rfl rfl (by decide) rfl rfl hd rfl hS he hlen K
theorem nw_X9_61 {T : Nat} {sh : mSh} (hT : sh.length = T) (hz : mZ σ T) (hk : k + 1 ≤ R.cells) (hn : n + 2 ≤ R.slots) (hd : decode cc pc = .ok (.new 61, 3)) (K : ∀ ad1 : Nat → Nat, (∀ j, j < T → ad1 j = ad j) → Ev RX9 cc nL ini ret R ae Post (pc + 3) ls (.ref (ad1 T) :: rest) (k + 1) (n + 2) ad1 (sh ++ [.inr (3, [.null, .int 0])]) σ) : Ev RX9 cc nL ini ret R ae Post pc ls rest k n ad sh σ := by
  subst hT
  refine ev_new (fs := [.null, .int 0]) mk_X3 (mTs_i 270 (by decide +kernel) (by decide +kernel)) (mTs_i 271 (by decide +kernel) (by decide +kernel)) (mTs_i 79 (by decide +kernel) (by decide +kernel)) (fun j hj => ?_) (fun q σ => ?_) hk hn hd (fun ad1 ha => ?_)
  · have : j = 0 ∨ j = 1 := by omega
    rcases this with e | e <;> subst e <;> rfl
  · simp [mVal, mr, mrl, List.mapIdx_cons]
  · rw [mZ_eq hz]; exact K ad1 ha
theorem pr_X9_64 {N a : Nat} {fs : List Value} {S L : mSh} (hS : S.length = N) (hd : decode cc pc = .ok (.putfield 64, 3)) (he : L[0]? = some (.inr (9, fs))) (hlen : 8 < fs.length) (K : Ev RX9 cc nL true ret R ae Post (pc + 3) ls rest k n ad (S ++ L.set 0 (.inr (9, fs.set 8 (.ref a)))) σ) : Ev RX9 cc nL true ret R ae Post pc ls (.ref a :: .ref (ad N) :: rest) k n ad (S ++ L) σ := cn_putr (T := TX9) (kf := 8) mk_X9 (mTs_i 372 (by decide +kernel) (by decide +kernel)) rfl rfl (by decide) rfl rfl hd rfl hS he hlen K
theorem nw_X9_68 {T : Nat} {sh : mSh} (hT : sh.length = T) (hz : mZ σ T) (hk : k + 1 ≤ R.cells) (hn : n + 5 ≤ R.slots) (hd : decode cc pc = .ok (.new 68, 3)) (K : ∀ ad1 : Nat → Nat, (∀ j, j < T → ad1 j = ad j) → Ev RX9 cc nL ini ret R ae Post (pc + 3) ls (.ref (ad1 T) :: rest) (k + 1) (n + 5) ad1 (sh ++ [.inr (0, [.null, .null, .null, .null, .null])]) σ) : Ev RX9 cc nL ini ret R ae Post pc ls rest k n ad sh σ := by
  subst hT
  refine ev_new (fs := [.null, .null, .null, .null, .null]) mk_X0 (mTs_i 287 (by decide +kernel) (by decide +kernel)) (mTs_i 288 (by decide +kernel) (by decide +kernel)) (mTs_i 80 (by decide +kernel) (by decide +kernel)) (fun j hj => ?_) (fun q σ => ?_) hk hn hd (fun ad1 ha => ?_)
  · have : j = 0 ∨ j = 1 ∨ j = 2 ∨ j = 3 ∨ j = 4 := by omega
    rcases this with e | e | e | e | e <;> subst e <;> rfl
  · simp [mVal, mr, mrl, List.mapIdx_cons]
  · rw [mZ_eq hz]; exact K ad1 ha
theorem pr_X9_73 {N a : Nat} {fs : List Value} {S L : mSh} (hS : S.length = N) (hd : decode cc pc = .ok (.putfield 73, 3)) (he : L[0]? = some (.inr (9, fs))) (hlen : 9 < fs.length) (K : Ev RX9 cc nL true ret R ae Post (pc + 3) ls rest k n ad (S ++ L.set 0 (.inr (9, fs.set 9 (.ref a)))) σ) : Ev RX9 cc nL true ret R ae Post pc ls (.ref a :: .ref (ad N) :: rest) k n ad (S ++ L) σ := cn_putr (T := TX9) (kf := 9) mk_X9 (mTs_i 373 (by decide +kernel) (by decide +kernel)) rfl rfl (by decide) rfl rfl hd rfl hS he hlen K
theorem nw_X9_77 {T : Nat} {sh : mSh} (hT : sh.length = T) (hz : mZ σ T) (hk : k + 1 ≤ R.cells) (hn : n + 4 ≤ R.slots) (hd : decode cc pc = .ok (.new 77, 3)) (K : ∀ ad1 : Nat → Nat, (∀ j, j < T → ad1 j = ad j) → Ev RX9 cc nL ini ret R ae Post (pc + 3) ls (.ref (ad1 T) :: rest) (k + 1) (n + 4) ad1 (sh ++ [.inr (7, [.null, .null, .null, .int 0])]) σ) : Ev RX9 cc nL ini ret R ae Post pc ls rest k n ad sh σ := by
  subst hT
  refine ev_new (fs := [.null, .null, .null, .int 0]) mk_X7 (mTs_i 313 (by decide +kernel) (by decide +kernel)) (mTs_i 314 (by decide +kernel) (by decide +kernel)) (mTs_i 81 (by decide +kernel) (by decide +kernel)) (fun j hj => ?_) (fun q σ => ?_) hk hn hd (fun ad1 ha => ?_)
  · have : j = 0 ∨ j = 1 ∨ j = 2 ∨ j = 3 := by omega
    rcases this with e | e | e | e <;> subst e <;> rfl
  · simp [mVal, mr, mrl, List.mapIdx_cons]
  · rw [mZ_eq hz]; exact K ad1 ha
theorem pr_X9_80 {N a : Nat} {fs : List Value} {S L : mSh} (hS : S.length = N) (hd : decode cc pc = .ok (.putfield 80, 3)) (he : L[0]? = some (.inr (9, fs))) (hlen : 10 < fs.length) (K : Ev RX9 cc nL true ret R ae Post (pc + 3) ls rest k n ad (S ++ L.set 0 (.inr (9, fs.set 10 (.ref a)))) σ) : Ev RX9 cc nL true ret R ae Post pc ls (.ref a :: .ref (ad N) :: rest) k n ad (S ++ L) σ := cn_putr (T := TX9) (kf := 10) mk_X9 (mTs_i 374 (by decide +kernel) (by decide +kernel)) rfl rfl (by decide) rfl rfl hd rfl hS he hlen K
theorem ow_X10_5 : Cond.methodLink RX10 5 Lib.objectInit ∈ mTs := mTs_i 1065 (by decide +kernel) (by decide +kernel)
theorem pr_X10_11 {N a : Nat} {fs : List Value} {S L : mSh} (hS : S.length = N) (hd : decode cc pc = .ok (.putfield 11, 3)) (he : L[0]? = some (.inr (10, fs))) (hlen : 0 < fs.length) (K : Ev RX10 cc nL true ret R ae Post (pc + 3) ls rest k n ad (S ++ L.set 0 (.inr (10, fs.set 0 (.ref a)))) σ) : Ev RX10 cc nL true ret R ae Post pc ls (.ref a :: .ref (ad N) :: rest) k n ad (S ++ L) σ := cn_putr (T := TX10) (kf := 0) mk_X10 (mTs_i 1088 (by decide +kernel) (by decide +kernel)) rfl rfl (by decide) rfl rfl hd rfl hS he hlen K
theorem pr_X10_15 {N a : Nat} {fs : List Value} {S L : mSh} (hS : S.length = N) (hd : decode cc pc = .ok (.putfield 15, 3)) (he : L[0]? = some (.inr (10, fs))) (hlen : 1 < fs.length) (K : Ev RX10 cc nL true ret R ae Post (pc + 3) ls rest k n ad (S ++ L.set 0 (.inr (10, fs.set 1 (.ref a)))) σ) : Ev RX10 cc nL true ret R ae Post pc ls (.ref a :: .ref (ad N) :: rest) k n ad (S ++ L) σ := cn_putr (T := TX10) (kf := 1) mk_X10 (mTs_i 1089 (by decide +kernel) (by decide +kernel)) rfl rfl (by decide) rfl rfl hd rfl hS he hlen K
theorem pr_X10_18 {N a : Nat} {fs : List Value} {S L : mSh} (hS : S.length = N) (hd : decode cc pc = .ok (.putfield 18, 3)) (he : L[0]? = some (.inr (10, fs))) (hlen : 3 < fs.length) (K : Ev RX10 cc nL true ret R ae Post (pc + 3) ls rest k n ad (S ++ L.set 0 (.inr (10, fs.set 3 (.ref a)))) σ) : Ev RX10 cc nL true ret R ae Post pc ls (.ref a :: .ref (ad N) :: rest) k n ad (S ++ L) σ := cn_putr (T := TX10) (kf := 3) mk_X10 (mTs_i 1091 (by decide +kernel) (by decide +kernel)) rfl rfl (by decide) rfl rfl hd rfl hS he hlen K
theorem pr_X10_21 {N a : Nat} {fs : List Value} {S L : mSh} (hS : S.length = N) (hd : decode cc pc = .ok (.putfield 21, 3)) (he : L[0]? = some (.inr (10, fs))) (hlen : 6 < fs.length) (K : Ev RX10 cc nL true ret R ae Post (pc + 3) ls rest k n ad (S ++ L.set 0 (.inr (10, fs.set 6 (.ref a)))) σ) : Ev RX10 cc nL true ret R ae Post pc ls (.ref a :: .ref (ad N) :: rest) k n ad (S ++ L) σ := cn_putr (T := TX10) (kf := 6) mk_X10 (mTs_i 1094 (by decide +kernel) (by decide +kernel)) rfl rfl (by decide) rfl rfl hd rfl hS he hlen K
theorem pr_X10_24 {N a : Nat} {fs : List Value} {S L : mSh} (hS : S.length = N) (hd : decode cc pc = .ok (.putfield 24, 3)) (he : L[0]? = some (.inr (10, fs))) (hlen : 7 < fs.length) (K : Ev RX10 cc nL true ret R ae Post (pc + 3) ls rest k n ad (S ++ L.set 0 (.inr (10, fs.set 7 (.ref a)))) σ) : Ev RX10 cc nL true ret R ae Post pc ls (.ref a :: .ref (ad N) :: rest) k n ad (S ++ L) σ := cn_putr (T := TX10) (kf := 7) mk_X10 (mTs_i 1095 (by decide +kernel) (by decide +kernel)) rfl rfl (by decide) rfl rfl hd rfl hS he hlen K
theorem pr_X10_27 {N a : Nat} {fs : List Value} {S L : mSh} (hS : S.length = N) (hd : decode cc pc = .ok (.putfield 27, 3)) (he : L[0]? = some (.inr (10, fs))) (hlen : 8 < fs.length) (K : Ev RX10 cc nL true ret R ae Post (pc + 3) ls rest k n ad (S ++ L.set 0 (.inr (10, fs.set 8 (.ref a)))) σ) : Ev RX10 cc nL true ret R ae Post pc ls (.ref a :: .ref (ad N) :: rest) k n ad (S ++ L) σ := cn_putr (T := TX10) (kf := 8) mk_X10 (mTs_i 1096 (by decide +kernel) (by decide +kernel)) rfl rfl (by decide) rfl rfl hd rfl hS he hlen K
theorem pr_X10_30 {N a : Nat} {fs : List Value} {S L : mSh} (hS : S.length = N) (hd : decode cc pc = .ok (.putfield 30, 3)) (he : L[0]? = some (.inr (10, fs))) (hlen : 9 < fs.length) (K : Ev RX10 cc nL true ret R ae Post (pc + 3) ls rest k n ad (S ++ L.set 0 (.inr (10, fs.set 9 (.ref a)))) σ) : Ev RX10 cc nL true ret R ae Post pc ls (.ref a :: .ref (ad N) :: rest) k n ad (S ++ L) σ := cn_putr (T := TX10) (kf := 9) mk_X10 (mTs_i 1097 (by decide +kernel) (by decide +kernel)) rfl rfl (by decide) rfl rfl hd rfl hS he hlen K
theorem pr_X10_33 {N a : Nat} {fs : List Value} {S L : mSh} (hS : S.length = N) (hd : decode cc pc = .ok (.putfield 33, 3)) (he : L[0]? = some (.inr (10, fs))) (hlen : 10 < fs.length) (K : Ev RX10 cc nL true ret R ae Post (pc + 3) ls rest k n ad (S ++ L.set 0 (.inr (10, fs.set 10 (.ref a)))) σ) : Ev RX10 cc nL true ret R ae Post pc ls (.ref a :: .ref (ad N) :: rest) k n ad (S ++ L) σ := cn_putr (T := TX10) (kf := 10) mk_X10 (mTs_i 1098 (by decide +kernel) (by decide +kernel)) rfl rfl (by decide) rfl rfl hd rfl hS he hlen K
theorem pr_X10_36 {N a : Nat} {fs : List Value} {S L : mSh} (hS : S.length = N) (hd : decode cc pc = .ok (.putfield 36, 3)) (he : L[0]? = some (.inr (10, fs))) (hlen : 11 < fs.length) (K : Ev RX10 cc nL true ret R ae Post (pc + 3) ls rest k n ad (S ++ L.set 0 (.inr (10, fs.set 11 (.ref a)))) σ) : Ev RX10 cc nL true ret R ae Post pc ls (.ref a :: .ref (ad N) :: rest) k n ad (S ++ L) σ := cn_putr (T := TX10) (kf := 11) mk_X10 (mTs_i 1099 (by decide +kernel) (by decide +kernel)) rfl rfl (by decide) rfl rfl hd rfl hS he hlen K
theorem pr_X10_39 {N a : Nat} {fs : List Value} {S L : mSh} (hS : S.length = N) (hd : decode cc pc = .ok (.putfield 39, 3)) (he : L[0]? = some (.inr (10, fs))) (hlen : 12 < fs.length) (K : Ev RX10 cc nL true ret R ae Post (pc + 3) ls rest k n ad (S ++ L.set 0 (.inr (10, fs.set 12 (.ref a)))) σ) : Ev RX10 cc nL true ret R ae Post pc ls (.ref a :: .ref (ad N) :: rest) k n ad (S ++ L) σ := cn_putr (T := TX10) (kf := 12) mk_X10 (mTs_i 1100 (by decide +kernel) (by decide +kernel)) rfl rfl (by decide) rfl rfl hd rfl hS he hlen K
theorem pr_X10_42 {N a : Nat} {fs : List Value} {S L : mSh} (hS : S.length = N) (hd : decode cc pc = .ok (.putfield 42, 3)) (he : L[0]? = some (.inr (10, fs))) (hlen : 14 < fs.length) (K : Ev RX10 cc nL true ret R ae Post (pc + 3) ls rest k n ad (S ++ L.set 0 (.inr (10, fs.set 14 (.ref a)))) σ) : Ev RX10 cc nL true ret R ae Post pc ls (.ref a :: .ref (ad N) :: rest) k n ad (S ++ L) σ := cn_putr (T := TX10) (kf := 14) mk_X10 (mTs_i 1102 (by decide +kernel) (by decide +kernel)) rfl rfl (by decide) rfl rfl hd rfl hS he hlen K
theorem pr_X10_45 {N a : Nat} {fs : List Value} {S L : mSh} (hS : S.length = N) (hd : decode cc pc = .ok (.putfield 45, 3)) (he : L[0]? = some (.inr (10, fs))) (hlen : 15 < fs.length) (K : Ev RX10 cc nL true ret R ae Post (pc + 3) ls rest k n ad (S ++ L.set 0 (.inr (10, fs.set 15 (.ref a)))) σ) : Ev RX10 cc nL true ret R ae Post pc ls (.ref a :: .ref (ad N) :: rest) k n ad (S ++ L) σ := cn_putr (T := TX10) (kf := 15) mk_X10 (mTs_i 1103 (by decide +kernel) (by decide +kernel)) rfl rfl (by decide) rfl rfl hd rfl hS he hlen K
theorem pr_X10_48 {N a : Nat} {fs : List Value} {S L : mSh} (hS : S.length = N) (hd : decode cc pc = .ok (.putfield 48, 3)) (he : L[0]? = some (.inr (10, fs))) (hlen : 16 < fs.length) (K : Ev RX10 cc nL true ret R ae Post (pc + 3) ls rest k n ad (S ++ L.set 0 (.inr (10, fs.set 16 (.ref a)))) σ) : Ev RX10 cc nL true ret R ae Post pc ls (.ref a :: .ref (ad N) :: rest) k n ad (S ++ L) σ := cn_putr (T := TX10) (kf := 16) mk_X10 (mTs_i 1104 (by decide +kernel) (by decide +kernel)) rfl rfl (by decide) rfl rfl hd rfl hS he hlen K
theorem pr_X10_51 {N a : Nat} {fs : List Value} {S L : mSh} (hS : S.length = N) (hd : decode cc pc = .ok (.putfield 51, 3)) (he : L[0]? = some (.inr (10, fs))) (hlen : 18 < fs.length) (K : Ev RX10 cc nL true ret R ae Post (pc + 3) ls rest k n ad (S ++ L.set 0 (.inr (10, fs.set 18 (.ref a)))) σ) : Ev RX10 cc nL true ret R ae Post pc ls (.ref a :: .ref (ad N) :: rest) k n ad (S ++ L) σ := cn_putr (T := TX10) (kf := 18) mk_X10 (mTs_i 1106 (by decide +kernel) (by decide +kernel)) rfl rfl (by decide) rfl rfl hd rfl hS he hlen K
end CN
section KK
variable {cc : ByteArray} {nL : Nat} {ini : Bool} {ret : Option FieldType} {R : Room} {ae ad : Nat → Nat} {Post : mPost} {pc : Nat} {ls : List (Option Value)} {rest : List Value} {k n : Nat} {sh : mSh} {σ : mSt}
theorem kl_X1_39 {d : Nat} {a1 a2 : Value} {σ' : mSt} (hM : Ct yX9_fill cX9_fill 3 none d 0 0 ([a1, a2]) ae ad sh σ (mEq none ad sh σ')) (hd : decode cc pc = .ok (.invokestatic 39, 3)) (hR0 : mRoomOk R d 3 = true) (hcat : (rest.map fun v => v.category).sum ≤ 8) {kk nn : Nat} (hkk : kk ≤ R.cells) (hnn : nn ≤ R.slots) (K : Ev RX1 cc nL ini ret R ae Post (pc + 3) ls (rest) kk nn ad sh σ') : Ev RX1 cc nL ini ret R ae Post (pc) ls (a2 :: a1 :: rest) kk nn ad sh σ :=
  ev_callS (As := [a1, a2]) hM mm_X9_fill lk_X1_39 ms_X9_fill rfl rfl hd hR0 hkk hnn hcat (fun v ad2 sh2 σ2 ⟨e1, e2, e3, e4⟩ => by subst e1; subst e2; subst e3; subst e4; exact K)
end KK
def lawZ (σ : mSt) (N : Nat) : mSt := (mr (mr σ.1 (N + 7) (fa_fill (fun _ => -1) (σ.1 (N + 7)) 6)) (N + 8) (fa_fill (fun _ => -1) (mr σ.1 (N + 7) (fa_fill (fun _ => -1) (σ.1 (N + 7)) 6) (N + 8)) 4), σ.2)
def posZ (σ : mSt) (N : Nat) : mSt := (mu (mu σ.1 N 2 5) N 3 5, σ.2)
theorem mZ_law {σ : mSt} {N M : Nat} (h : mZ σ M) (hm : N + 8 < M) : mZ (lawZ σ N) M := mZ_mr (mZ_mr h (by omega)) hm
theorem mZ_pos {σ : mSt} {N M : Nat} (h : mZ σ M) (hm : N < M) : mZ (posZ σ N) M := mZ_mu (mZ_mu h hm) hm
set_option maxRecDepth 100000 in
set_option maxHeartbeats 4000000 in
theorem c_X2_init {ae ad : Nat → Nat} {σ : mSt} {S : mSh} {N : Nat} (hS : S.length = N) (hz : mZ σ (N + 1)) : Ct yX2_init cX2_init 1 none 1 1 60 [.ref (ad N)] ae ad (S ++ [.inr (2, [.null, .int 0])]) σ (mCt N ad S (fun ad' => [.inr (2, [.ref (ad' (N + 1)), .int 0]), .inl 60]) (σ)) := by
  refine Ct.ofL (own := RX2) (ini := true) (ls := [some (.ref (ad N))]) (by decide +kernel) rfl (fun _ => rfl) (Nat.le_of_ble_eq_true rfl) rfl ?_
  refine ev_aload_0 dX2_init_0 ?_
  refine ev_objInit ow_X2_3 oi_in oi_co (Nat.le_of_ble_eq_true rfl) (Nat.le_of_ble_eq_true rfl) (Nat.le_of_ble_eq_true rfl) dX2_init_1 ?_
  refine ev_aload_0 dX2_init_4 ?_
  refine ev_bipush_60 dX2_init_5 ?_
  refine cn_newa (T := (N + 1)) (N := 60) (by rw [List.length_append, hS]; rfl) (mZ_le hz (by omega)) (by decide) rfl (by decide) (Nat.le_of_ble_eq_true rfl) (Nat.le_of_ble_eq_true rfl) dX2_init_7 (fun ad1 ha1 => ?_)
  rw [← ha1 N (by omega)]
  refine pr_X2_9 hS dX2_init_9 rfl (Nat.le_of_ble_eq_true rfl) ?_
  exact ev_ret (v := none) dX2_init_12 (Nat.le_of_ble_eq_true rfl) (Nat.le_of_ble_eq_true rfl) (Or.inl ⟨rfl, rfl, rfl⟩) ⟨rfl, fun j hj => by simp (disch := omega) only [ha1], (by simp (disch := omega) only [ha1]; rfl), rfl⟩
set_option maxRecDepth 100000 in
set_option maxHeartbeats 4000000 in
theorem c_X3_init {ae ad : Nat → Nat} {σ : mSt} {S : mSh} {N : Nat} (hS : S.length = N) (hz : mZ σ (N + 1)) : Ct yX3_init cX3_init 1 none 1 1 445 [.ref (ad N)] ae ad (S ++ [.inr (3, [.null, .int 0])]) σ (mCt N ad S (fun ad' => [.inr (3, [.ref (ad' (N + 1)), .int 0]), .inl 445]) (σ)) := by
  refine Ct.ofL (own := RX3) (ini := true) (ls := [some (.ref (ad N))]) (by decide +kernel) rfl (fun _ => rfl) (Nat.le_of_ble_eq_true rfl) rfl ?_
  refine ev_aload_0 dX3_init_0 ?_
  refine ev_objInit ow_X3_3 oi_in oi_co (Nat.le_of_ble_eq_true rfl) (Nat.le_of_ble_eq_true rfl) (Nat.le_of_ble_eq_true rfl) dX3_init_1 ?_
  refine ev_aload_0 dX3_init_4 ?_
  refine ev_sipush_445 dX3_init_5 ?_
  refine cn_newa (T := (N + 1)) (N := 445) (by rw [List.length_append, hS]; rfl) (mZ_le hz (by omega)) (by decide) rfl (by decide) (Nat.le_of_ble_eq_true rfl) (Nat.le_of_ble_eq_true rfl) dX3_init_8 (fun ad1 ha1 => ?_)
  rw [← ha1 N (by omega)]
  refine pr_X3_9 hS dX3_init_10 rfl (Nat.le_of_ble_eq_true rfl) ?_
  exact ev_ret (v := none) dX3_init_13 (Nat.le_of_ble_eq_true rfl) (Nat.le_of_ble_eq_true rfl) (Or.inl ⟨rfl, rfl, rfl⟩) ⟨rfl, fun j hj => by simp (disch := omega) only [ha1], (by simp (disch := omega) only [ha1]; rfl), rfl⟩
set_option maxRecDepth 100000 in
set_option maxHeartbeats 4000000 in
theorem c_X4_init {ae ad : Nat → Nat} {σ : mSt} {S : mSh} {N : Nat} (hS : S.length = N) (hz : mZ σ (N + 1)) : Ct yX4_init cX4_init 1 none 1 3 18 [.ref (ad N)] ae ad (S ++ [.inr (4, [.null, .null, .null, .int 0])]) σ (mCt N ad S (fun ad' => [.inr (4, [.ref (ad' (N + 1)), .ref (ad' (N + 2)), .ref (ad' (N + 3)), .int 0]), .inl 6, .inl 6, .inl 6]) (σ)) := by
  refine Ct.ofL (own := RX4) (ini := true) (ls := [some (.ref (ad N))]) (by decide +kernel) rfl (fun _ => rfl) (Nat.le_of_ble_eq_true rfl) rfl ?_
  refine ev_aload_0 dX4_init_0 ?_
  refine ev_objInit ow_X4_3 oi_in oi_co (Nat.le_of_ble_eq_true rfl) (Nat.le_of_ble_eq_true rfl) (Nat.le_of_ble_eq_true rfl) dX4_init_1 ?_
  refine ev_aload_0 dX4_init_4 ?_
  refine ev_bipush_6 dX4_init_5 ?_
  refine cn_newa (T := (N + 1)) (N := 6) (by rw [List.length_append, hS]; rfl) (mZ_le hz (by omega)) (by decide) rfl (by decide) (Nat.le_of_ble_eq_true rfl) (Nat.le_of_ble_eq_true rfl) dX4_init_7 (fun ad1 ha1 => ?_)
  rw [← ha1 N (by omega)]
  refine pr_X4_9 hS dX4_init_9 rfl (Nat.le_of_ble_eq_true rfl) ?_
  refine ev_aload_0 dX4_init_12 ?_
  refine ev_bipush_6 dX4_init_13 ?_
  refine cn_newa (T := (N + 2)) (N := 6) (by rw [List.length_append, hS]; rfl) (mZ_le hz (by omega)) (by decide) rfl (by decide) (Nat.le_of_ble_eq_true rfl) (Nat.le_of_ble_eq_true rfl) dX4_init_15 (fun ad2 ha2 => ?_)
  rw [← ha2 N (by omega)]
  refine pr_X4_15 hS dX4_init_17 rfl (Nat.le_of_ble_eq_true rfl) ?_
  refine ev_aload_0 dX4_init_20 ?_
  refine ev_bipush_6 dX4_init_21 ?_
  refine cn_newa (T := (N + 3)) (N := 6) (by rw [List.length_append, hS]; rfl) (mZ_le hz (by omega)) (by decide) rfl (by decide) (Nat.le_of_ble_eq_true rfl) (Nat.le_of_ble_eq_true rfl) dX4_init_23 (fun ad3 ha3 => ?_)
  rw [← ha3 N (by omega)]
  refine pr_X4_18 hS dX4_init_25 rfl (Nat.le_of_ble_eq_true rfl) ?_
  exact ev_ret (v := none) dX4_init_28 (Nat.le_of_ble_eq_true rfl) (Nat.le_of_ble_eq_true rfl) (Or.inl ⟨rfl, rfl, rfl⟩) ⟨rfl, fun j hj => by simp (disch := omega) only [ha1, ha2, ha3], (by simp (disch := omega) only [ha1, ha2, ha3]; rfl), rfl⟩
set_option maxRecDepth 100000 in
set_option maxHeartbeats 4000000 in
theorem c_X5_init {ae ad : Nat → Nat} {σ : mSt} {S : mSh} {N a : Nat} (hS : S.length = N) (hz : mZ σ (N + 1)) : Ct yX5_init cX5_init 2 none 1 0 0 [.ref (ad N), .ref a] ae ad (S ++ [.inr (5, [.null])]) σ (mCt N ad S (fun ad' => [.inr (5, [.ref a])]) (σ)) := by
  refine Ct.ofL (own := RX5) (ini := true) (ls := [some (.ref (ad N)), some (.ref a)]) (by decide +kernel) rfl (fun _ => rfl) (Nat.le_of_ble_eq_true rfl) rfl ?_
  refine ev_aload_0 dX5_init_0 ?_
  refine ev_objInit ow_X5_3 oi_in oi_co (Nat.le_of_ble_eq_true rfl) (Nat.le_of_ble_eq_true rfl) (Nat.le_of_ble_eq_true rfl) dX5_init_1 ?_
  refine ev_aload_0 dX5_init_4 ?_
  refine ev_aload_1 dX5_init_5 ?_
  refine pr_X5_9 hS dX5_init_6 rfl (Nat.le_of_ble_eq_true rfl) ?_
  exact ev_ret (v := none) dX5_init_9 (Nat.le_of_ble_eq_true rfl) (Nat.le_of_ble_eq_true rfl) (Or.inl ⟨rfl, rfl, rfl⟩) ⟨rfl, fun j hj => rfl, rfl, rfl⟩
set_option maxRecDepth 100000 in
set_option maxHeartbeats 4000000 in
theorem c_X8_init {ae ad : Nat → Nat} {σ : mSt} {S : mSh} {N : Nat} (hS : S.length = N) (hz : mZ σ (N + 1)) : Ct yX8_init cX8_init 1 none 1 3 121 [.ref (ad N)] ae ad (S ++ [.inr (8, [.null, .null, .null, .int 0])]) σ (mCt N ad S (fun ad' => [.inr (8, [.ref (ad' (N + 1)), .ref (ad' (N + 2)), .ref (ad' (N + 3)), .int 0]), .inl 40, .inl 40, .inl 41]) (σ)) := by
  refine Ct.ofL (own := RX8) (ini := true) (ls := [some (.ref (ad N))]) (by decide +kernel) rfl (fun _ => rfl) (Nat.le_of_ble_eq_true rfl) rfl ?_
  refine ev_aload_0 dX8_init_0 ?_
  refine ev_objInit ow_X8_3 oi_in oi_co (Nat.le_of_ble_eq_true rfl) (Nat.le_of_ble_eq_true rfl) (Nat.le_of_ble_eq_true rfl) dX8_init_1 ?_
  refine ev_aload_0 dX8_init_4 ?_
  refine ev_bipush_40 dX8_init_5 ?_
  refine cn_newa (T := (N + 1)) (N := 40) (by rw [List.length_append, hS]; rfl) (mZ_le hz (by omega)) (by decide) rfl (by decide) (Nat.le_of_ble_eq_true rfl) (Nat.le_of_ble_eq_true rfl) dX8_init_7 (fun ad1 ha1 => ?_)
  rw [← ha1 N (by omega)]
  refine pr_X8_9 hS dX8_init_9 rfl (Nat.le_of_ble_eq_true rfl) ?_
  refine ev_aload_0 dX8_init_12 ?_
  refine ev_bipush_40 dX8_init_13 ?_
  refine cn_newa (T := (N + 2)) (N := 40) (by rw [List.length_append, hS]; rfl) (mZ_le hz (by omega)) (by decide) rfl (by decide) (Nat.le_of_ble_eq_true rfl) (Nat.le_of_ble_eq_true rfl) dX8_init_15 (fun ad2 ha2 => ?_)
  rw [← ha2 N (by omega)]
  refine pr_X8_15 hS dX8_init_17 rfl (Nat.le_of_ble_eq_true rfl) ?_
  refine ev_aload_0 dX8_init_20 ?_
  refine ev_bipush_41 dX8_init_21 ?_
  refine cn_newa (T := (N + 3)) (N := 41) (by rw [List.length_append, hS]; rfl) (mZ_le hz (by omega)) (by decide) rfl (by decide) (Nat.le_of_ble_eq_true rfl) (Nat.le_of_ble_eq_true rfl) dX8_init_23 (fun ad3 ha3 => ?_)
  rw [← ha3 N (by omega)]
  refine pr_X8_18 hS dX8_init_25 rfl (Nat.le_of_ble_eq_true rfl) ?_
  exact ev_ret (v := none) dX8_init_28 (Nat.le_of_ble_eq_true rfl) (Nat.le_of_ble_eq_true rfl) (Or.inl ⟨rfl, rfl, rfl⟩) ⟨rfl, fun j hj => by simp (disch := omega) only [ha1, ha2, ha3], (by simp (disch := omega) only [ha1, ha2, ha3]; rfl), rfl⟩
set_option maxRecDepth 100000 in
set_option maxHeartbeats 4000000 in
theorem c_X6_init {ae ad : Nat → Nat} {σ : mSt} {S : mSh} {N : Nat} (hS : S.length = N) (hz : mZ σ (N + 1)) : Ct yX6_init cX6_init 1 none 1 2 48 [.ref (ad N)] ae ad (S ++ [.inr (6, [.null, .null, .int 0, .int 0, .int 0, .int 0, .long 0, .long 0])]) σ (mCt N ad S (fun ad' => [.inr (6, [.ref (ad' (N + 1)), .ref (ad' (N + 2)), .int 0, .int 0, .int 0, .int 0, .long 0, .long 0]), .inl 36, .inl 12]) (posZ σ N)) := by
  refine Ct.ofL (own := RX6) (ini := true) (ls := [some (.ref (ad N))]) (by decide +kernel) rfl (fun _ => rfl) (Nat.le_of_ble_eq_true rfl) rfl ?_
  refine ev_aload_0 dX6_init_0 ?_
  refine ev_objInit ow_X6_3 oi_in oi_co (Nat.le_of_ble_eq_true rfl) (Nat.le_of_ble_eq_true rfl) (Nat.le_of_ble_eq_true rfl) dX6_init_1 ?_
  refine ev_aload_0 dX6_init_4 ?_
  refine ev_bipush_36 dX6_init_5 ?_
  refine cn_newa (T := (N + 1)) (N := 36) (by rw [List.length_append, hS]; rfl) (mZ_le hz (by omega)) (by decide) rfl (by decide) (Nat.le_of_ble_eq_true rfl) (Nat.le_of_ble_eq_true rfl) dX6_init_7 (fun ad1 ha1 => ?_)
  rw [← ha1 N (by omega)]
  refine pr_X6_9 hS dX6_init_9 rfl (Nat.le_of_ble_eq_true rfl) ?_
  refine ev_aload_0 dX6_init_12 ?_
  refine ev_bipush_12 dX6_init_13 ?_
  refine cn_newa (T := (N + 2)) (N := 12) (by rw [List.length_append, hS]; rfl) (mZ_le hz (by omega)) (by decide) rfl (by decide) (Nat.le_of_ble_eq_true rfl) (Nat.le_of_ble_eq_true rfl) dX6_init_15 (fun ad2 ha2 => ?_)
  rw [← ha2 N (by omega)]
  refine pr_X6_15 hS dX6_init_17 rfl (Nat.le_of_ble_eq_true rfl) ?_
  refine ev_aload_0 dX6_init_20 ?_
  refine ev_iconst_5 dX6_init_21 ?_
  refine pf_X6_18 dX6_init_22 ((ap_at (i := 0) hS).trans rfl) rfl ?_
  refine ev_aload_0 dX6_init_25 ?_
  refine ev_iconst_5 dX6_init_26 ?_
  refine pf_X6_22 dX6_init_27 ((ap_at (i := 0) hS).trans rfl) rfl ?_
  exact ev_ret (v := none) dX6_init_30 (Nat.le_of_ble_eq_true rfl) (Nat.le_of_ble_eq_true rfl) (Or.inl ⟨rfl, rfl, rfl⟩) ⟨rfl, fun j hj => by simp (disch := omega) only [ha1, ha2], (by simp (disch := omega) only [ha1, ha2]; rfl), rfl⟩
set_option maxRecDepth 100000 in
set_option maxHeartbeats 4000000 in
theorem c_X1_init {ae ad : Nat → Nat} {σ : mSt} {S : mSh} {N : Nat} (hS : S.length = N) (hz : mZ σ (N + 1)) : Ct yX1_init cX1_init 1 none 1 9 182 [.ref (ad N)] ae ad (S ++ [.inr (1, [.null, .null, .null, .null, .null, .null, .null, .null, .null, .int 0, .int 0])]) σ (mCt N ad S (fun ad' => [.inr (1, [.ref (ad' (N + 1)), .ref (ad' (N + 2)), .ref (ad' (N + 3)), .ref (ad' (N + 4)), .ref (ad' (N + 5)), .ref (ad' (N + 6)), .ref (ad' (N + 7)), .ref (ad' (N + 8)), .ref (ad' (N + 9)), .int 0, .int 0]), .inl 6, .inl 36, .inl 36, .inl 36, .inl 36, .inl 6, .inl 6, .inl 4, .inl 16]) (lawZ σ N)) := by
  refine Ct.ofL (own := RX1) (ini := true) (ls := [some (.ref (ad N))]) (by decide +kernel) rfl (fun _ => rfl) (Nat.le_of_ble_eq_true rfl) rfl ?_
  refine ev_aload_0 dX1_init_0 ?_
  refine ev_objInit ow_X1_3 oi_in oi_co (Nat.le_of_ble_eq_true rfl) (Nat.le_of_ble_eq_true rfl) (Nat.le_of_ble_eq_true rfl) dX1_init_1 ?_
  refine ev_aload_0 dX1_init_4 ?_
  refine ev_bipush_6 dX1_init_5 ?_
  refine cn_newa (T := (N + 1)) (N := 6) (by rw [List.length_append, hS]; rfl) (mZ_le hz (by omega)) (by decide) rfl (by decide) (Nat.le_of_ble_eq_true rfl) (Nat.le_of_ble_eq_true rfl) dX1_init_7 (fun ad1 ha1 => ?_)
  rw [← ha1 N (by omega)]
  refine pr_X1_9 hS dX1_init_9 rfl (Nat.le_of_ble_eq_true rfl) ?_
  refine ev_aload_0 dX1_init_12 ?_
  refine ev_bipush_36 dX1_init_13 ?_
  refine cn_newa (T := (N + 2)) (N := 36) (by rw [List.length_append, hS]; rfl) (mZ_le hz (by omega)) (by decide) rfl (by decide) (Nat.le_of_ble_eq_true rfl) (Nat.le_of_ble_eq_true rfl) dX1_init_15 (fun ad2 ha2 => ?_)
  rw [← ha2 N (by omega)]
  refine pr_X1_15 hS dX1_init_17 rfl (Nat.le_of_ble_eq_true rfl) ?_
  refine ev_aload_0 dX1_init_20 ?_
  refine ev_bipush_36 dX1_init_21 ?_
  refine cn_newa (T := (N + 3)) (N := 36) (by rw [List.length_append, hS]; rfl) (mZ_le hz (by omega)) (by decide) rfl (by decide) (Nat.le_of_ble_eq_true rfl) (Nat.le_of_ble_eq_true rfl) dX1_init_23 (fun ad3 ha3 => ?_)
  rw [← ha3 N (by omega)]
  refine pr_X1_18 hS dX1_init_25 rfl (Nat.le_of_ble_eq_true rfl) ?_
  refine ev_aload_0 dX1_init_28 ?_
  refine ev_bipush_36 dX1_init_29 ?_
  refine cn_newa (T := (N + 4)) (N := 36) (by rw [List.length_append, hS]; rfl) (mZ_le hz (by omega)) (by decide) rfl (by decide) (Nat.le_of_ble_eq_true rfl) (Nat.le_of_ble_eq_true rfl) dX1_init_31 (fun ad4 ha4 => ?_)
  rw [← ha4 N (by omega)]
  refine pr_X1_21 hS dX1_init_33 rfl (Nat.le_of_ble_eq_true rfl) ?_
  refine ev_aload_0 dX1_init_36 ?_
  refine ev_bipush_36 dX1_init_37 ?_
  refine cn_newa (T := (N + 5)) (N := 36) (by rw [List.length_append, hS]; rfl) (mZ_le hz (by omega)) (by decide) rfl (by decide) (Nat.le_of_ble_eq_true rfl) (Nat.le_of_ble_eq_true rfl) dX1_init_39 (fun ad5 ha5 => ?_)
  rw [← ha5 N (by omega)]
  refine pr_X1_24 hS dX1_init_41 rfl (Nat.le_of_ble_eq_true rfl) ?_
  refine ev_aload_0 dX1_init_44 ?_
  refine ev_bipush_6 dX1_init_45 ?_
  refine cn_newa (T := (N + 6)) (N := 6) (by rw [List.length_append, hS]; rfl) (mZ_le hz (by omega)) (by decide) rfl (by decide) (Nat.le_of_ble_eq_true rfl) (Nat.le_of_ble_eq_true rfl) dX1_init_47 (fun ad6 ha6 => ?_)
  rw [← ha6 N (by omega)]
  refine pr_X1_27 hS dX1_init_49 rfl (Nat.le_of_ble_eq_true rfl) ?_
  refine ev_aload_0 dX1_init_52 ?_
  refine ev_bipush_6 dX1_init_53 ?_
  refine cn_newa (T := (N + 7)) (N := 6) (by rw [List.length_append, hS]; rfl) (mZ_le hz (by omega)) (by decide) rfl (by decide) (Nat.le_of_ble_eq_true rfl) (Nat.le_of_ble_eq_true rfl) dX1_init_55 (fun ad7 ha7 => ?_)
  rw [← ha7 N (by omega)]
  refine pr_X1_30 hS dX1_init_57 rfl (Nat.le_of_ble_eq_true rfl) ?_
  refine ev_aload_0 dX1_init_60 ?_
  refine ev_iconst_4 dX1_init_61 ?_
  refine cn_newa (T := (N + 8)) (N := 4) (by rw [List.length_append, hS]; rfl) (mZ_le hz (by omega)) (by decide) rfl (by decide) (Nat.le_of_ble_eq_true rfl) (Nat.le_of_ble_eq_true rfl) dX1_init_62 (fun ad8 ha8 => ?_)
  rw [← ha8 N (by omega)]
  refine pr_X1_33 hS dX1_init_64 rfl (Nat.le_of_ble_eq_true rfl) ?_
  refine ev_aload_0 dX1_init_67 ?_
  refine ev_bipush_16 dX1_init_68 ?_
  refine cn_newa (T := (N + 9)) (N := 16) (by rw [List.length_append, hS]; rfl) (mZ_le hz (by omega)) (by decide) rfl (by decide) (Nat.le_of_ble_eq_true rfl) (Nat.le_of_ble_eq_true rfl) dX1_init_70 (fun ad9 ha9 => ?_)
  rw [← ha9 N (by omega)]
  refine pr_X1_36 hS dX1_init_72 rfl (Nat.le_of_ble_eq_true rfl) ?_
  refine ev_aload_0 dX1_init_75 ?_
  refine gf_X1_30 dX1_init_76 ((ap_at (i := 0) hS).trans rfl) rfl ?_
  refine ev_iconst_m1 dX1_init_79 ?_
  rw [← ha8 (N + 7) (by omega), ← ha9 (N + 7) (by omega)]
  refine kl_X1_39 (c_fill (q := (N + 7)) ((ap_at (i := 7) hS).trans rfl) (by decide)) dX1_init_80 rfl (Nat.le_of_ble_eq_true rfl) (Nat.le_of_ble_eq_true rfl) (Nat.le_of_ble_eq_true rfl) ?_
  refine ev_aload_0 dX1_init_83 ?_
  refine gf_X1_33 dX1_init_84 ((ap_at (i := 0) hS).trans rfl) rfl ?_
  refine ev_iconst_m1 dX1_init_87 ?_
  rw [← ha9 (N + 8) (by omega)]
  refine kl_X1_39 (c_fill (q := (N + 8)) ((ap_at (i := 8) hS).trans rfl) (by decide)) dX1_init_88 rfl (Nat.le_of_ble_eq_true rfl) (Nat.le_of_ble_eq_true rfl) (Nat.le_of_ble_eq_true rfl) ?_
  exact ev_ret (v := none) dX1_init_91 (Nat.le_of_ble_eq_true rfl) (Nat.le_of_ble_eq_true rfl) (Or.inl ⟨rfl, rfl, rfl⟩) ⟨rfl, fun j hj => by simp (disch := omega) only [ha1, ha2, ha3, ha4, ha5, ha6, ha7, ha8, ha9], (by simp (disch := omega) only [ha1, ha2, ha3, ha4, ha5, ha6, ha7, ha8, ha9]; rfl), rfl⟩
