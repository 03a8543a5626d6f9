def mCls (ci : Nat) (C : String) (T : u_T) (N : Nat) (ty : Nat → FieldType) : Prop := vwCl[ci]? = some (C, T, N) ∧ (∀ w ∈ u_ws C T N, w ∈ mTs) ∧ (∀ k, k < N → parseFieldDescriptor (T k).2.2.1 = some (ty k)) ∧ (∀ a, a < N → ∀ b, b < N → a ≠ b → (T a).2.1 ≠ (T b).2.1)
def mFl (own : String) (idx : Nat) (C name desc : String) : Prop := Cond.fieldLink own idx C name desc ∈ mTs ∨ ∃ host, Cond.fieldLinkNest own idx C name desc host ∈ tables_1
theorem mIdx {fs : List Value} {σ : mSt} {q kf : Nat} {v : Value} (hv : fs[kf]? = some v) : (fs.mapIdx (mVal σ q))[kf]? = some (mVal σ q kf v) := by
  rw [List.getElem?_mapIdx, hv]; rfl
theorem mPutI {fs : List Value} {σ : mSt} {q kf : Nat} {z x : Int32} (hv : fs[kf]? = some (.int z)) : (fs.mapIdx (mVal σ q)).set kf (.int x) = fs.mapIdx (mVal (mu σ.1 q kf x, σ.2) q) := by
  apply List.ext_getElem?
  intro j
  by_cases hj : j = kf
  · subst hj
    rw [List.getElem?_set_self (by rw [List.length_mapIdx]; exact (List.getElem?_eq_some_iff.mp hv).1), mIdx hv]
    simp [mVal, mu, upd]
  · rw [List.getElem?_set_ne (fun q => hj q.symm), List.getElem?_mapIdx, List.getElem?_mapIdx]
    cases fs[j]? with
    | none => rfl
    | some v => cases v <;> simp [mVal, mu, upd, hj]
theorem mPutL {fs : List Value} {σ : mSt} {q kf : Nat} {z x : Int64} (hv : fs[kf]? = some (.long z)) : (fs.mapIdx (mVal σ q)).set kf (.long x) = fs.mapIdx (mVal (σ.1, mul σ.2 q kf x) q) := by
  apply List.ext_getElem?
  intro j
  by_cases hj : j = kf
  · subst hj
    rw [List.getElem?_set_self (by rw [List.length_mapIdx]; exact (List.getElem?_eq_some_iff.mp hv).1), mIdx hv]
    simp [mVal, mul]
  · rw [List.getElem?_set_ne (fun q => hj q.symm), List.getElem?_mapIdx, List.getElem?_mapIdx]
    cases fs[j]? with
    | none => rfl
    | some v => cases v <;> simp [mVal, mul, hj]
theorem mPutR {fs : List Value} {σ : mSt} {q kf a : Nat} : (fs.mapIdx (mVal σ q)).set kf (.ref a) = (fs.set kf (.ref a)).mapIdx (mVal σ q) := by
  apply List.ext_getElem?
  intro j
  rw [List.getElem?_mapIdx]
  by_cases hj : j = kf
  · subst hj
    by_cases hl : j < fs.length
    · rw [List.getElem?_set_self (by rw [List.length_mapIdx]; exact hl), List.getElem?_set_self hl]
      rfl
    · rw [List.getElem?_eq_none (by rw [List.length_set, List.length_mapIdx]; omega), List.getElem?_eq_none (by rw [List.length_set]; omega)]
      rfl
  · rw [List.getElem?_set_ne (fun q => hj q.symm), List.getElem?_set_ne (fun q => hj q.symm), List.getElem?_mapIdx]
theorem mu_ne (h : Nat → Nat → Int32) {i j k : Nat} {x : Int32} (hk : k ≠ i) : mu h i j x k = h k := by simp [mu, hk]
theorem mul_ne (h : Nat → Nat → Int64) {i j k : Nat} {x : Int64} (hk : k ≠ i) : mul h i j x k = h k := by simp [mul, hk]
theorem mW_shset {cy : ClassId} {ad : Nat → Nat} {sh : mSh} {σ : mSt} {i : Nat} {e e' : Nat ⊕ (Nat × List Value)} (h : sh[i]? = some e) : (mW cy ad sh σ).set i (ad i, mCell cy σ i e') = mW cy ad (sh.set i e') σ := by
  apply List.ext_getElem?
  intro k
  have hl : i < sh.length := (List.getElem?_eq_some_iff.mp h).1
  by_cases hk : k = i
  · subst hk
    rw [List.getElem?_set_self (by rw [mW, List.length_mapIdx]; exact hl), mW_at (List.getElem?_set_self hl)]
  · rw [List.getElem?_set_ne (fun q => hk q.symm), mW, mW, List.getElem?_mapIdx, List.getElem?_mapIdx, List.getElem?_set_ne (fun q => hk q.symm)]
section EVW
variable {own : String} {cc : ByteArray} {nL : Nat} {ini : Bool} {ret : Option FieldType} {R : Room} {ae ad : Nat → Nat} {Post : mPost} {pc : Nat} {ls : List (Option Value)} {rest : List Value} {k n : Nat} {sh : mSh} {σ : mSt}
theorem ev_getf {ci q kf idx N : Nat} {C : String} {T : u_T} {ty : Nat → FieldType} {fs : List Value} {v : Value} (hc : mCls ci C T N ty) (hl : mFl own idx C (T kf).2.1 (T kf).2.2.1) (hT : (T kf).1 = C) (hk : kf < N) (hd : decode cc pc = .ok (.getfield idx, 3)) (he : sh[q]? = some (.inr (ci, fs))) (hv : fs[kf]? = some v) (K : Ev own cc nL ini ret R ae Post (pc + 3) (ls) (mVal σ q kf v :: rest) k n ad sh σ) : Ev own cc nL ini ret R ae Post (pc) (ls) (.ref (ad q) :: rest) k n ad sh σ := by
  intro p l e s m args below meth c D cy A Q H locs arr hC hE hA hP hD hS hL hR
  rcases hl with h | ⟨host, h⟩
  · exact va_get (fs := fs.mapIdx (mVal σ q)) hC.1 hC.2.1 hC.2.2.2.2.1 hc.2.1 hC.2.2.2.1 hC.2.2.2.2.2.2.1 hP q (mW_at he) hc.1 kf hk (hC.2.2.2.2.1 _ h) (by rw [hT]; exact fun x h => h) (mIdx hv) hd (K p l e s m args below meth c D cy A Q H locs arr hC hE hA hP hD hS hL hR)
  · exact va_getN (fs := fs.mapIdx (mVal σ q)) hC.1 hC.2.1 hC.2.2.2.2.1 hc.2.1 hC.2.2.2.1 hC.2.2.2.2.2.2.1 hP q (mW_at he) hc.1 kf hk (va_Nw.use rfl (hC.2.2.2.2.2.1 _ h rfl)) (by rw [hT]; exact fun x h => h) (mIdx hv) hd (K p l e s m args below meth c D cy A Q H locs arr hC hE hA hP hD hS hL hR)
theorem ev_putfi {ci q kf idx N : Nat} {C : String} {T : u_T} {ty : Nat → FieldType} {fs : List Value} {z x : Int32} (hc : mCls ci C T N ty) (hl : mFl own idx C (T kf).2.1 (T kf).2.2.1) (hT : (T kf).1 = C) (hfin : (T kf).2.2.2 = false) (hk : kf < N) (hn : narrow (ty kf) (.int x) = .int x) (hf : fits (ty kf) (.int x) = true) (hd : decode cc pc = .ok (.putfield idx, 3)) (he : sh[q]? = some (.inr (ci, fs))) (hv : fs[kf]? = some (.int z)) (K : Ev own cc nL ini ret R ae Post (pc + 3) (ls) (rest) k n ad sh (mu σ.1 q kf x, σ.2)) : Ev own cc nL ini ret R ae Post (pc) (ls) (.int x :: .ref (ad q) :: rest) k n ad sh σ := by
  intro p l e s m args below meth c D cy A Q H locs arr hC hE hA hP hD hS hL hR
  have hlen : kf < (fs.mapIdx (mVal σ q)).length := by rw [List.length_mapIdx]; exact (List.getElem?_eq_some_iff.mp hv).1
  rcases hl with h | ⟨host, h⟩
  · refine va_put (fs := fs.mapIdx (mVal σ q)) hC.1 hC.2.1 hC.2.2.2.2.1 hc.2.1 ty hc.2.2.1 hc.2.2.2 hC.2.2.2.1 hC.2.2.2.2.2.2.1 hP hD hS q (mW_at he) hc.1 kf hk (hC.2.2.2.2.1 _ h) (by rw [hT]; exact fun x h => h) hfin (hc.2.2.1 kf hk) hn hf hlen hd (fun H1 locs1 hP1 hD1 hS1 => ?_)
    rw [mW_put (fs' := []) (σ := σ) (σ' := (mu σ.1 q kf x, σ.2)) (ad := ad) (cy := cy) he (fun k hk => ⟨mu_ne _ hk, rfl⟩) (mPutI (σ := σ) hv)] at hP1 hD1
    exact K p l e s m args below meth c D cy A Q H1 locs1 arr hC hE hA hP1 hD1 hS1 hL hR
  · refine va_putN (fs := fs.mapIdx (mVal σ q)) hC.1 hC.2.1 hC.2.2.2.2.1 hc.2.1 ty hc.2.2.1 hc.2.2.2 hC.2.2.2.1 hC.2.2.2.2.2.2.1 hP hD hS q (mW_at he) hc.1 kf hk (va_Nw.use rfl (hC.2.2.2.2.2.1 _ h rfl)) (by rw [hT]; exact fun x h => h) hfin (hc.2.2.1 kf hk) hn hf hlen hd (fun H1 locs1 hP1 hD1 hS1 => ?_)
    rw [mW_put (fs' := []) (σ := σ) (σ' := (mu σ.1 q kf x, σ.2)) (ad := ad) (cy := cy) he (fun k hk => ⟨mu_ne _ hk, rfl⟩) (mPutI (σ := σ) hv)] at hP1 hD1
    exact K p l e s m args below meth c D cy A Q H1 locs1 arr hC hE hA hP1 hD1 hS1 hL hR
theorem ev_putfl {ci q kf idx N : Nat} {C : String} {T : u_T} {ty : Nat → FieldType} {fs : List Value} {z x : Int64} (hc : mCls ci C T N ty) (hl : mFl own idx C (T kf).2.1 (T kf).2.2.1) (hT : (T kf).1 = C) (hfin : (T kf).2.2.2 = false) (hk : kf < N) (hn : narrow (ty kf) (.long x) = .long x) (hf : fits (ty kf) (.long x) = true) (hd : decode cc pc = .ok (.putfield idx, 3)) (he : sh[q]? = some (.inr (ci, fs))) (hv : fs[kf]? = some (.long z)) (K : Ev own cc nL ini ret R ae Post (pc + 3) (ls) (rest) k n ad sh (σ.1, mul σ.2 q kf x)) : Ev own cc nL ini ret R ae Post (pc) (ls) (.long x :: .ref (ad q) :: rest) k n ad sh σ := by
  intro p l e s m args below meth c D cy A Q H locs arr hC hE hA hP hD hS hL hR
  have hlen : kf < (fs.mapIdx (mVal σ q)).length := by rw [List.length_mapIdx]; exact (List.getElem?_eq_some_iff.mp hv).1
  rcases hl with h | ⟨host, h⟩
  · refine va_put (fs := fs.mapIdx (mVal σ q)) hC.1 hC.2.1 hC.2.2.2.2.1 hc.2.1 ty hc.2.2.1 hc.2.2.2 hC.2.2.2.1 hC.2.2.2.2.2.2.1 hP hD hS q (mW_at he) hc.1 kf hk (hC.2.2.2.2.1 _ h) (by rw [hT]; exact fun x h => h) hfin (hc.2.2.1 kf hk) hn hf hlen hd (fun H1 locs1 hP1 hD1 hS1 => ?_)
    rw [mW_put (fs' := []) (σ := σ) (σ' := (σ.1, mul σ.2 q kf x)) (ad := ad) (cy := cy) he (fun k hk => ⟨rfl, mul_ne _ hk⟩) (mPutL (σ := σ) hv)] at hP1 hD1
    exact K p l e s m args below meth c D cy A Q H1 locs1 arr hC hE hA hP1 hD1 hS1 hL hR
  · refine va_putN (fs := fs.mapIdx (mVal σ q)) hC.1 hC.2.1 hC.2.2.2.2.1 hc.2.1 ty hc.2.2.1 hc.2.2.2 hC.2.2.2.1 hC.2.2.2.2.2.2.1 hP hD hS q (mW_at he) hc.1 kf hk (va_Nw.use rfl (hC.2.2.2.2.2.1 _ h rfl)) (by rw [hT]; exact fun x h => h) hfin (hc.2.2.1 kf hk) hn hf hlen hd (fun H1 locs1 hP1 hD1 hS1 => ?_)
    rw [mW_put (fs' := []) (σ := σ) (σ' := (σ.1, mul σ.2 q kf x)) (ad := ad) (cy := cy) he (fun k hk => ⟨rfl, mul_ne _ hk⟩) (mPutL (σ := σ) hv)] at hP1 hD1
    exact K p l e s m args below meth c D cy A Q H1 locs1 arr hC hE hA hP1 hD1 hS1 hL hR
theorem ev_putfr {ci q kf idx N a : Nat} {C : String} {T : u_T} {ty : Nat → FieldType} {fs : List Value} (hc : mCls ci C T N ty) (hl : Cond.fieldLink own idx C (T kf).2.1 (T kf).2.2.1 ∈ mTs) (hT : (T kf).1 = C) (hown : C = own) (hini : ini = true) (hfin : (T kf).2.2.2 = true) (hk : kf < N) (hn : narrow (ty kf) (.ref a) = .ref a) (hf : fits (ty kf) (.ref a) = true) (hd : decode cc pc = .ok (.putfield idx, 3)) (he : sh[q]? = some (.inr (ci, fs))) (hlen : kf < fs.length) (K : Ev own cc nL ini ret R ae Post (pc + 3) (ls) (rest) k n ad (sh.set q (.inr (ci, fs.set kf (.ref a)))) σ) : Ev own cc nL ini ret R ae Post (pc) (ls) (.ref a :: .ref (ad q) :: rest) k n ad sh σ := by
  intro p l e s m args below meth c D cy A Q H locs arr hC hE hA hP hD hS hL hR
  refine va_putF (fs := fs.mapIdx (mVal σ q)) hC.1 hC.2.1 hC.2.2.2.2.1 hc.2.1 ty hc.2.2.1 hc.2.2.2 hC.2.2.2.1 hC.2.2.2.2.2.2.1 hP hD hS q (mW_at he) hc.1 kf hk (hC.2.2.2.2.1 _ hl) (by rw [hT]; exact fun x h => h) hfin (hC.2.2.2.2.2.2.2 hini) (hT.trans hown) (hc.2.2.1 kf hk) hn hf (by rw [List.length_mapIdx]; exact hlen) hd (fun H1 locs1 hP1 hD1 hS1 => ?_)
  rw [mPutR] at hP1 hD1
  have e2 := mW_shset (cy := cy) (ad := ad) (σ := σ) (e' := .inr (ci, fs.set kf (.ref a))) he
  simp only [mCell] at e2
  rw [e2] at hP1 hD1
  exact K p l e s m args below meth c D cy A Q H1 locs1 arr hC hE hA hP1 hD1 hS1 hL hR
theorem ev_iald {q len : Nat} {i : Int32} (he : sh[q]? = some (.inl len)) (hin : vp_in i len) (hd : decode cc pc = .ok (.iaload, 1)) (K : Ev own cc nL ini ret R ae Post (pc + 1) (ls) (.int (σ.1 q i.toNatClampNeg) :: rest) k n ad sh σ) : Ev own cc nL ini ret R ae Post (pc) (ls) (.int i :: .ref (ad q) :: rest) k n ad sh σ := by
  intro p l e s m args below meth c D cy A Q H locs arr hC hE hA hP hD hS hL hR
  exact va_iald hC.1 hC.2.1 hC.2.2.2.2.2.2.1 hP q 0 (mW_at he) rfl hin hd (K p l e s m args below meth c D cy A Q H locs arr hC hE hA hP hD hS hL hR)
theorem ev_iast {q len : Nat} {i x : Int32} (he : sh[q]? = some (.inl len)) (hin : vp_in i len) (hd : decode cc pc = .ok (.iastore, 1)) (K : Ev own cc nL ini ret R ae Post (pc + 1) (ls) (rest) k n ad sh (mu σ.1 q i.toNatClampNeg x, σ.2)) : Ev own cc nL ini ret R ae Post (pc) (ls) (.int x :: .int i :: .ref (ad q) :: rest) k n ad sh σ := by
  intro p l e s m args below meth c D cy A Q H locs arr hC hE hA hP hD hS hL hR
  refine va_iast hC.1 hC.2.1 hC.2.2.2.2.2.2.1 hP hD hS q 0 (mW_at he) rfl hin hd (fun H1 locs1 hP1 hD1 hS1 => ?_)
  have e2 := mW_set (cy := cy) (ad := ad) (σ := σ) (σ' := (mu σ.1 q i.toNatClampNeg x, σ.2)) he (fun k hk => ⟨mu_ne _ hk, rfl⟩)
  have e3 : mu σ.1 q i.toNatClampNeg x q = upd (σ.1 q) i.toNatClampNeg x := by simp [mu]
  simp only [mCell, e3] at e2
  rw [e2] at hP1 hD1
  exact K p l e s m args below meth c D cy A Q H1 locs1 arr hC hE hA hP1 hD1 hS1 hL hR
theorem ev_alen {q len : Nat} {v : Int32} (he : sh[q]? = some (.inl len)) (hv : Int32.ofNat len = v) (hd : decode cc pc = .ok (.arraylength, 1)) (K : Ev own cc nL ini ret R ae Post (pc + 1) (ls) (.int v :: rest) k n ad sh σ) : Ev own cc nL ini ret R ae Post (pc) (ls) (.ref (ad q) :: rest) k n ad sh σ := by
  intro p l e s m args below meth c D cy A Q H locs arr hC hE hA hP hD hS hL hR
  exact va_alen hC.1 hC.2.1 hC.2.2.2.2.2.2.1 hP q 0 (mW_at he) rfl hv hd (K p l e s m args below meth c D cy A Q H locs arr hC hE hA hP hD hS hL hR)
theorem ev_tald {j : Nat} {i : Int32} (hj : j < 4) (hin : vp_in i (mTab j).length) (hd : decode cc pc = .ok (.iaload, 1)) (K : Ev own cc nL ini ret R ae Post (pc + 1) (ls) (.int ((mTab j).getD i.toNatClampNeg 0) :: rest) k n ad sh σ) : Ev own cc nL ini ret R ae Post (pc) (ls) (.int i :: .ref (ae j) :: rest) k n ad sh σ := by
  intro p l e s m args below meth c D cy A Q H locs arr hC hE hA hP hD hS hL hR
  exact va_ti hC.1 hC.2.1 (hE.2.2.1 j hj).2 hS hin rfl hd (K p l e s m args below meth c D cy A Q H locs arr hC hE hA hP hD hS hL hR)
theorem ev_tlen {j : Nat} {v : Int32} (hj : j < 4) (hv : Int32.ofNat (mTab j).length = v) (hd : decode cc pc = .ok (.arraylength, 1)) (K : Ev own cc nL ini ret R ae Post (pc + 1) (ls) (.int v :: rest) k n ad sh σ) : Ev own cc nL ini ret R ae Post (pc) (ls) (.ref (ae j) :: rest) k n ad sh σ := by
  intro p l e s m args below meth c D cy A Q H locs arr hC hE hA hP hD hS hL hR
  exact va_tlen hC.1 hC.2.1 (hE.2.2.1 j hj).2 hS hv hd (K p l e s m args below meth c D cy A Q H locs arr hC hE hA hP hD hS hL hR)
theorem ev_gets {j idx : Nat} (hj : j < 4) (hl : mFl own idx RX9 (mTabN j) "[I") (hd : decode cc pc = .ok (.getstatic idx, 3)) (K : Ev own cc nL ini ret R ae Post (pc + 3) (ls) (.ref (ae j) :: rest) k n ad sh σ) : Ev own cc nL ini ret R ae Post (pc) (ls) (rest) k n ad sh σ := by
  intro p l e s m args below meth c D cy A Q H locs arr hC hE hA hP hD hS hL hR
  rcases hl with h | ⟨host, h⟩
  · exact va_gets hC.1 hC.2.1 (hE.2.2.1 j hj).1 hS hC.2.2.2.1 (hC.2.2.2.2.1 _ h) (fun x h => h) hd (K p l e s m args below meth c D cy A Q H locs arr hC hE hA hP hD hS hL hR)
  · exact va_getsN hC.1 hC.2.1 (hE.2.2.1 j hj).1 hS hC.2.2.2.1 (va_Nw.use rfl (hC.2.2.2.2.2.1 _ h rfl)) (fun x h => h) hd (K p l e s m args below meth c D cy A Q H locs arr hC hE hA hP hD hS hL hR)
theorem ev_getsC {idx : Nat} (hl : Cond.fieldLink own idx "java/lang/String" "COMPACT_STRINGS" "Z" ∈ mTs) (hd : decode cc pc = .ok (.getstatic idx, 3)) (K : Ev own cc nL ini ret R ae Post (pc + 3) (ls) (.int 1 :: rest) k n ad sh σ) : Ev own cc nL ini ret R ae Post (pc) (ls) (rest) k n ad sh σ := by
  intro p l e s m args below meth c D cy A Q H locs arr hC hE hA hP hD hS hL hR
  exact va_gets hC.1 hC.2.1 hE.2.2.2.1 hS hC.2.2.2.1 (hC.2.2.2.2.1 _ hl) (fun x h => h) hd (K p l e s m args below meth c D cy A Q H locs arr hC hE hA hP hD hS hL hR)
theorem ev_getsF {idx : Nat} (hl : Cond.fieldLink own idx "jdk/internal/util/Preconditions" "SIOOBE_FORMATTER" "Ljava/util/function/BiFunction;" ∈ mTs) (hd : decode cc pc = .ok (.getstatic idx, 3)) (K : Ev own cc nL ini ret R ae Post (pc + 3) (ls) (mFmt ae :: rest) k n ad sh σ) : Ev own cc nL ini ret R ae Post (pc) (ls) (rest) k n ad sh σ := by
  intro p l e s m args below meth c D cy A Q H locs arr hC hE hA hP hD hS hL hR
  exact va_gets hC.1 hC.2.1 hE.2.2.2.2.1 hS hC.2.2.2.1 (hC.2.2.2.2.1 _ hl) (fun x h => h) hd (K p l e s m args below meth c D cy A Q H locs arr hC hE hA hP hD hS hL hR)
theorem ev_sld {i : Int32} (hin : vp_in i (ae 61)) (hd : decode cc pc = .ok (.iaload, 1)) (K : Ev own cc nL ini ret R ae Post (pc + 1) (ls) (.int (Int32.ofNat (ae (1000 + i.toNatClampNeg))) :: rest) k n ad sh σ) : Ev own cc nL ini ret R ae Post (pc) (ls) (.int i :: .ref (ae 60) :: rest) k n ad sh σ := by
  intro p l e s m args below meth c D cy A Q H locs arr hC hE hA hP hD hS hL hR
  exact va_ti hC.1 hC.2.1 hE.2.2.2.2.2 hS hin rfl hd (K p l e s m args below meth c D cy A Q H locs arr hC hE hA hP hD hS hL hR)
theorem ev_slen {v : Int32} (hv : Int32.ofNat (ae 61) = v) (hd : decode cc pc = .ok (.arraylength, 1)) (K : Ev own cc nL ini ret R ae Post (pc + 1) (ls) (.int v :: rest) k n ad sh σ) : Ev own cc nL ini ret R ae Post (pc) (ls) (.ref (ae 60) :: rest) k n ad sh σ := by
  intro p l e s m args below meth c D cy A Q H locs arr hC hE hA hP hD hS hL hR
  exact va_tlen hC.1 hC.2.1 hE.2.2.2.2.2 hS hv hd (K p l e s m args below meth c D cy A Q H locs arr hC hE hA hP hD hS hL hR)
def mrl (h : Nat → Nat → Int64) (i : Nat) (f : Nat → Int64) : Nat → Nat → Int64 := fun k => if k = i then f else h k
theorem ev_newa {x : Int32} {N : Nat} (hx : ¬ x < 0) (hN : x.toNatClampNeg = N) (hb : N * componentBytes .int ≤ 536870912) (hk : k + 1 ≤ R.cells) (hn : n + N ≤ R.slots) (hd : decode cc pc = .ok (.newarray .int, 2)) (hw : Cond.arrayClass .int ∈ mTs) (K : ∀ ad1 : Nat → Nat, (∀ j, j < sh.length → ad1 j = ad j) → Ev own cc nL ini ret R ae Post (pc + 2) (ls) (.ref (ad1 sh.length) :: rest) (k + 1) (n + N) ad1 (sh ++ [.inl N]) (mr σ.1 sh.length (fun _ => 0), mrl σ.2 sh.length (fun _ => 0))) : Ev own cc nL ini ret R ae Post (pc) (ls) (.int x :: rest) k n ad sh σ := by
  intro p l e s m args below meth c D cy A Q H locs arr hC hE hA hP hD hS hL hR
  refine va_newa (atype := .int) (a0 := (N, .inl (fun _ => 0))) hC.1 hC.2.1 (hC.2.2.2.2.1 _ hw) rfl hC.2.2.2.2.2.2.1 hP hD hS hA (fun cA => rfl) hx hN hb hk hn hd (fun q cA H1 hK1 hP1 hD1 hS1 => ?_)
  have hcy : cy = cA := by
    have h0 := (hC.2.2.2.2.2.2.1.2 0 (cy, .int) rfl).2
    have h1 := (hK1.2 1 (cA, .int) rfl).2
    exact Option.some.inj (h0.symm.trans h1)
  subst hcy
  have e2 := mW_app (cy := cy) (ad := ad) (ad1 := fun j => if j = sh.length then q else ad j) (sh := sh) (σ := σ) (σ1 := (mr σ.1 sh.length (fun _ => 0), mrl σ.2 sh.length (fun _ => 0))) (e := .inl N) (fun j hj => if_neg (by omega)) (fun k hk => ⟨if_neg hk, if_neg hk⟩)
  simp only [mCell, mr, if_true] at e2
  simp only [← e2] at hP1 hD1
  have K1 := K (fun j => if j = sh.length then q else ad j) (fun j hj => if_neg (by omega)) p l e s m args below meth c D cy A Q H1 locs arr hC hE hA hP1 hD1 hS1 hL hR
  simp only [if_true] at K1
  exact K1
theorem ev_new {ci N idx : Nat} {C : String} {T : u_T} {ty : Nat → FieldType} {fs : List Value} (hc : mCls ci C T N ty) (hcl : Cond.classLink own idx C ∈ mTs) (hin : Cond.instantiable C N ∈ mTs) (hini : Cond.initialized C ∈ mTs) (hfs : ∀ j, j < N → defaultValue (ty j) = vp_V fs j) (hz : ∀ (q : Nat) (σ : mSt), fs.mapIdx (mVal (mr σ.1 q (fun _ => 0), mrl σ.2 q (fun _ => 0)) q) = fs) (hk : k + 1 ≤ R.cells) (hn : n + N ≤ R.slots) (hd : decode cc pc = .ok (.new idx, 3)) (K : ∀ ad1 : Nat → Nat, (∀ j, j < sh.length → ad1 j = ad j) → Ev own cc nL ini ret R ae Post (pc + 3) (ls) (.ref (ad1 sh.length) :: rest) (k + 1) (n + N) ad1 (sh ++ [.inr (ci, fs)]) (mr σ.1 sh.length (fun _ => 0), mrl σ.2 sh.length (fun _ => 0))) : Ev own cc nL ini ret R ae Post (pc) (ls) (rest) k n ad sh σ := by
  intro p l e s m args below meth c D cy A Q H locs arr hC hE hA hP hD hS hL hR
  refine va_new (fs := fs) hC.1 hC.2.1 hC.2.2.2.2.1 hc.2.1 ty hc.2.2.1 hC.2.2.2.1 (hC.2.2.2.2.1 _ hcl) (hC.2.2.2.2.1 _ hin) (hC.2.2.2.2.1 _ hini) hC.2.2.2.2.2.2.1 hP hD hS hA hc.1 hfs hk hn hd (fun q H1 hP1 hD1 hS1 => ?_)
  have e2 := mW_app (cy := cy) (ad := ad) (ad1 := fun j => if j = sh.length then q else ad j) (sh := sh) (σ := σ) (σ1 := (mr σ.1 sh.length (fun _ => 0), mrl σ.2 sh.length (fun _ => 0))) (e := .inr (ci, fs)) (fun j hj => if_neg (by omega)) (fun k hk => ⟨if_neg hk, if_neg hk⟩)
  simp only [mCell, hz, if_true] at e2
  simp only [← e2] at hP1 hD1
  have K1 := K (fun j => if j = sh.length then q else ad j) (fun j hj => if_neg (by omega)) p l e s m args below meth c D cy A Q H1 locs arr hC hE hA hP1 hD1 hS1 hL hR
  simp only [if_true] at K1
  exact K1
theorem ev_objInit {a : Nat} {idx : Nat} (hl : Cond.methodLink own idx Lib.objectInit ∈ mTs) (hi : Cond.instanceMethod Lib.objectInit ∈ mTs) (hc : Cond.code Lib.objectInit ⟨#[0xb1]⟩ 1 none ∈ mTs) (hf : 1 ≤ R.frames) (hlo : 20 ≤ R.locals) (hcat : (rest.map fun v => v.category).sum ≤ 8) (hd : decode cc pc = .ok (.invokespecial idx, 3)) (K : Ev own cc nL ini ret R ae Post (pc + 3) (ls) (rest) k n ad sh σ) : Ev own cc nL ini ret R ae Post (pc) (ls) (.ref a :: rest) k n ad sh σ := by
  intro p l e s m args below meth c D cy A Q H locs arr hC hE hA hP hD hS hL hR
  have h9 : 2 * (F0 m pc arr (Value.ref a :: rest)).monitorRoom + (rest.map fun v => v.category).sum + 12 ≤ R.locals := by
    show 2 * 0 + _ + 12 ≤ _
    omega
  exact W.objInit hC.1 hC.2.1 hC.2.2.2.1 (hC.2.2.2.2.1 _ hl) (hC.2.2.2.2.1 _ hi) (hC.2.2.2.2.1 _ hc) rfl (hL.1.trans hC.2.2.1.symm) rfl hd hf h9 (K p l e s m args below meth c D cy A Q H locs arr hC hE hA hP hD hS hL hR)
end EVW
section EVC
variable {p : Program} {l : Launch} {e : Env} {R : Room} {s : State} {m : MethodId} {args : Array Value} {below : List Frame} {meth : Method} {c : Code} {H : Heap} {locs : List Loc} {cells slots : Nat} {Q : State → Prop}
variable {pc : Nat} {ls : Array Slot} {rest st0 : List Value} {a : Array Value} {A0 A1 : Nat → Prop} {H0 : Heap} {mc ms : Nat} {free : Addr → Prop}
theorem va_callm {D : va_G} {cy : ClassId} {Post : mPost} (hr : va_Run p l e R s m args below meth c H locs cells slots mc ms (F0 m pc ls st0) rest (mQ D cy A1 Post a) free) (hS : va_S A0 H0 H locs) (hA : ∀ q, q < H.size → A1 q → A0 q) (hf : ∀ q, free q → A0 q)
    (kk : ∀ (v : Option Value) (ad' : Nat → Nat) (sh' : mSh) (σ' : mSt) (H1 : Heap) (locs1 : List Loc), Post v ad' sh' σ' → va_P D vwCl (mW cy ad' sh' σ') H1 → va_D A1 (mW cy ad' sh' σ') → va_S A0 H0 H1 locs1 → W p l e R s m args below meth c H1 locs1 (cells + mc) (slots + ms) Q (F0 m (pc + 3) ls (v.toList ++ rest))) : W p l e R s m args below meth c H locs cells slots Q (F0 m pc ls st0) := by
  intro T hT X
  obtain ⟨v, st₀, t, T', L, h0, X', hL, e1, e2, ⟨⟨v', ad', sh', σ', hv, hp, hP1, hD1⟩, hz, hk⟩, st⟩ := hr T hT X
  cases hv
  rw [h0] at hz hk
  obtain ⟨t2, a1, b1⟩ := kk v ad' sh' σ' T'.heap (locs ++ L) hp (by rw [e1]; exact hP1) hD1
    ⟨Nat.le_trans hS.1 (by rw [e1]; exact hz), fun q h1 h2 => by rw [e1, hk q (Nat.lt_of_lt_of_le h1 hS.1) (fun z => h2 (hA q (Nat.lt_of_lt_of_le h1 hS.1) z))]; exact hS.2.1 q h1 h2, fun q hq => by
      rcases List.mem_append.mp hq with h | h
      · exact hS.2.2 q h
      · exact hf _ (hL q h)⟩ T' rfl X'
  exact ⟨t2, st t2 a1, b1⟩
end EVC
theorem mA_sub {A : Nat → Prop} {ws : va_W} {H0 H : Heap} {locs : List Loc} (hD : va_D A ws) (hS : va_S A H0 H locs) (hA : ∀ q, H0.size ≤ q → A q) : ∀ q, va_A ws H.size q → A q := by
  intro q h
  rcases h with ⟨k, e, h⟩ | h
  · exact hD.2 k (q, e) h
  · exact hA q (Nat.le_trans hS.1 h)
def mMth (y : MethodName) (cc : ByteArray) (nL : Nat) (ret : Option FieldType) (na : Nat) : Prop := Cond.code y cc nL ret ∈ mTs ∧ Cond.initialized y.cls ∈ mTs ∧ (y.cls ≠ "java/lang/invoke/MethodHandle" ∧ y.cls ≠ "java/lang/invoke/VarHandle") ∧ (parseMethodDescriptor y.desc).map (fun d => d.parameters.length) = some na
def mLk (own : String) (idx : Nat) (y : MethodName) : Prop := Cond.methodLink own idx y ∈ mTs ∨ ∃ host, Cond.methodLinkNest own idx y host ∈ tables_1
def mRoomOk (R : Room) (d nL : Nat) : Bool := Nat.ble (d + 1) R.frames && Nat.ble (8 + (nL + 11) + 45 * d) R.locals
theorem mWs_warm {y : MethodName} {cc : ByteArray} {nL na : Nat} {ret : Option FieldType} {s : State} {args : Array Value} (hm : mMth y cc nL ret na) (hts : ∀ w ∈ mTs, w.before args s = true) : ∀ w ∈ mWs y cc nL ret, ∀ (a' : Array Value) (U : State), s.WarmedH U.vm → w.before a' U = true := by
  intro w hw a' U hW
  have h2 : w ∈ mTs := by
    rcases List.mem_cons.mp hw with rfl | h
    · exact hm.1
    · exact h
  exact word_at hW (good_of_word (List.mem_filter.mp h2).2) (hts w h2)
theorem mPar {y : MethodName} {na : Nat} (h2 : (parseMethodDescriptor y.desc).map (fun d => d.parameters.length) = some na) : ∀ sig, parseMethodDescriptor y.desc = some sig → na = sig.parameters.length := by
  intro sig h
  rw [h] at h2
  exact (Option.some.inj h2).symm
theorem mRoom_ok {R : Room} {d nL mc ms : Nat} (h : mRoomOk R d nL = true) : (mRm d mc ms).frames + 1 ≤ R.frames ∧ 8 + (nL + 11) + (mRm d mc ms).locals ≤ R.locals := by
  simp only [mRoomOk, Bool.and_eq_true] at h
  exact ⟨Nat.le_of_ble_eq_true h.1, Nat.le_of_ble_eq_true h.2⟩
theorem mPre_of {s U : State} {D : va_G} {cy : ClassId} {A : Nat → Prop} {ae ad : Nat → Nat} {sh : mSh} {σ : mSt} {H : Heap} {locs : List Loc} (hN : ∀ w ∈ tables_1, mNest w = true → va_Nw w s) (hK : va_K D vwCl [(cy, .int)] s) (hE : mEnv ae A s s.heap) (hA : ∀ q, s.heap.size ≤ q → A q) (hP : va_P D vwCl (mW cy ad sh σ) H) (hD : va_D A (mW cy ad sh σ)) (hS : va_S A s.heap H locs) (hU : U.heap = H) (hW : s.WarmedH U.vm) : U.heap.size = H.size ∧ mPre D cy ae ad sh σ U := by
  subst hU
  exact ⟨rfl, hP, va_K.moved hW.alike hK, hD.weaken (fun _ _ _ _ => trivial), fun w hw hn => mNest_warm hn hW (hN w hw hn), ((hE.kept hS.2.1).narrow (mA_sub hD hS hA)).warm hW⟩
section EVK
variable {own : String} {cc : ByteArray} {nL : Nat} {ini : Bool} {ret : Option FieldType} {R : Room} {ae ad : Nat → Nat} {Post : mPost} {pc : Nat} {ls : List (Option Value)} {rest : List Value} {k n : Nat} {sh : mSh} {σ : mSt}
set_option maxHeartbeats 1000000 in
theorem ev_callV {q ci : Nat} {fs : List Value} {y : MethodName} {cc' : ByteArray} {nL' na d mc ms idx : Nat} {ret' : Option FieldType} {As st : List Value} {Post' : mPost} (hM : Ct y cc' nL' ret' d mc ms (.ref (ad q) :: As) ae ad sh σ Post') (hm : mMth y cc' nL' ret' na) (hl : mLk own idx y) (hi : Cond.instanceMethod y ∈ mTs) (hs : Cond.selects y.cls y y ∈ mTs) (hq : sh[q]? = some (.inr (ci, fs))) (hci : (vwCl[ci]?).map (fun r => r.1) = some y.cls) (hst : st = As.reverse ++ .ref (ad q) :: rest) (hna : As.length = na) (hd : decode cc pc = .ok (.invokevirtual idx, 3)) (hR0 : mRoomOk R d nL' = true) (hk : k + mc ≤ R.cells) (hn : n + ms ≤ R.slots) (hcat : (rest.map fun v => v.category).sum ≤ 8) (K : ∀ (v : Option Value) (ad' : Nat → Nat) (sh' : mSh) (σ' : mSt), Post' v ad' sh' σ' → Ev own cc nL ini ret R ae Post (pc + 3) (ls) (v.toList ++ rest) (k + mc) (n + ms) ad' sh' σ') : Ev own cc nL ini ret R ae Post (pc) (ls) (st) k n ad sh σ := by
  intro p l e s m args below meth c D cy A Q H locs arr hC hE hA hP hD hS hL hR
  subst hst
  have hfr := mRoom_ok (mc := mc) (ms := ms) hR0
  have hts := hC.2.2.2.2.1
  have hF : CallFix p m c cc nL s args mTs own := ⟨hC.1, hC.2.1, hC.2.2.1, hC.2.2.2.1, hts⟩
  have hA1 : ∀ q, va_A (mW cy ad sh σ) H.size q → A q := mA_sub hD hS hA
  have hpre : ∀ U : State, U.heap = H → s.WarmedH U.vm → va_Pc (.ref (ad q) :: As) (fun U => U.heap.size = H.size ∧ mPre D cy ae ad sh σ U) (.ref (ad q) :: As).toArray U := fun U hU hW => ⟨rfl, mPre_of hC.2.2.2.2.2.1 hC.2.2.2.2.2.2.1 hE hA hP hD hS hU hW⟩
  have hrec : ∃ cellB : Cell, H[ad q]? = some cellB ∧ cellB.vm.isStatics = false ∧ s.vm.findClass y.cls = some cellB.cls := by
    cases hx : vwCl[ci]? with
    | none => rw [hx] at hci; cases hci
    | some r =>
      rw [hx] at hci
      have h3 := va_recv hC.2.2.2.2.2.2.1 hP hx (mW_at hq)
      have e3 : r.1 = y.cls := Option.some.inj hci
      rw [e3] at h3
      exact h3
  refine va_callm (D := D) (cy := cy) (Post := Post') (mc := mc) (ms := ms) (rest := rest) (free := va_A (mW cy ad sh σ) H.size) (A1 := va_A (mW cy ad sh σ) H.size) (a := (.ref (ad q) :: As).toArray) ?_ hS (fun q _ h => hA1 q h) hA1 (fun v ad2 sh2 σ2 H1 locs1 hp hP1 hD1 hS1 => ?_)
  · rcases hl with h | ⟨host, h⟩
    · exact va_runV (rest := rest) hF (hM l D cy H.size) ⟨⟨rfl, rfl, hfr.1, hfr.2, mWs_warm hm hts, List.mem_cons_self, hts _ hm.1, hts _ hm.2.1, hm.2.2.1, mPar hm.2.2.2, hts _ h⟩, hts _ hi, hts _ hs⟩ ⟨mPre.blind, hrec, hpre⟩ rfl hna hL.1 rfl (lv_room hcat) hd ⟨hk, hn⟩
    · exact va_runVN (rest := rest) (host := host) hF (hM l D cy H.size) ⟨⟨⟨rfl, rfl, hfr.1, hfr.2, mWs_warm hm hts, List.mem_cons_self⟩, hts _ hm.1, hts _ hm.2.1, hm.2.2.1, mPar hm.2.2.2, va_Nw.use rfl (hC.2.2.2.2.2.1 _ h rfl)⟩, hts _ hi, hts _ hs⟩ ⟨mPre.blind, hrec, hpre⟩ rfl hna hL.1 rfl (lv_room hcat) hd ⟨hk, hn⟩
  · exact K v ad2 sh2 σ2 hp p l e s m args below meth c D cy A Q H1 locs1 arr hC hE hA hP1 (hD1.weaken (fun k q _ h => hA1 q.1 h)) hS1 hL hR
set_option maxHeartbeats 1000000 in
theorem ev_callS {y : MethodName} {cc' : ByteArray} {nL' na d mc ms idx : Nat} {ret' : Option FieldType} {As st : List Value} {Post' : mPost} (hM : Ct y cc' nL' ret' d mc ms (As) ae ad sh σ Post') (hm : mMth y cc' nL' ret' na) (hl : mLk own idx y) (hi : Cond.static y ∈ mTs) (hst : st = As.reverse ++ rest) (hna : As.length = na) (hd : decode cc pc = .ok (.invokestatic idx, 3)) (hR0 : mRoomOk R d nL' = true) (hk : k + mc ≤ R.cells) (hn : n + ms ≤ R.slots) (hcat : (rest.map fun v => v.category).sum ≤ 8) (K : ∀ (v : Option Value) (ad' : Nat → Nat) (sh' : mSh) (σ' : mSt), Post' v ad' sh' σ' → Ev own cc nL ini ret R ae Post (pc + 3) (ls) (v.toList ++ rest) (k + mc) (n + ms) ad' sh' σ') : Ev own cc nL ini ret R ae Post (pc) (ls) (st) k n ad sh σ := by
  intro p l e s m args below meth c D cy A Q H locs arr hC hE hA hP hD hS hL hR
  subst hst
  have hfr := mRoom_ok (mc := mc) (ms := ms) hR0
  have hts := hC.2.2.2.2.1
  have hF : CallFix p m c cc nL s args mTs own := ⟨hC.1, hC.2.1, hC.2.2.1, hC.2.2.2.1, hts⟩
  have hA1 : ∀ q, va_A (mW cy ad sh σ) H.size q → A q := mA_sub hD hS hA
  have hpre : ∀ U : State, U.heap = H → s.WarmedH U.vm → va_Pc (As) (fun U => U.heap.size = H.size ∧ mPre D cy ae ad sh σ U) (As).toArray U := fun U hU hW => ⟨rfl, mPre_of hC.2.2.2.2.2.1 hC.2.2.2.2.2.2.1 hE hA hP hD hS hU hW⟩
  refine va_callm (D := D) (cy := cy) (Post := Post') (mc := mc) (ms := ms) (rest := rest) (free := va_A (mW cy ad sh σ) H.size) (A1 := va_A (mW cy ad sh σ) H.size) (a := (As).toArray) ?_ hS (fun q _ h => hA1 q h) hA1 (fun v ad2 sh2 σ2 H1 locs1 hp hP1 hD1 hS1 => ?_)
  · rcases hl with h | ⟨host, h⟩
    · exact va_runS (rest := rest) hF (hM l D cy H.size) ⟨⟨rfl, rfl, hfr.1, hfr.2, mWs_warm hm hts, List.mem_cons_self, hts _ hm.1, hts _ hm.2.1, hm.2.2.1, mPar hm.2.2.2, hts _ h⟩, hts _ hi⟩ ⟨mPre.blind, hpre⟩ rfl hna hL.1 rfl (lv_room hcat) hd ⟨hk, hn⟩
    · exact va_runSN (rest := rest) (host := host) hF (hM l D cy H.size) ⟨⟨⟨rfl, rfl, hfr.1, hfr.2, mWs_warm hm hts, List.mem_cons_self⟩, hts _ hm.1, hts _ hm.2.1, hm.2.2.1, mPar hm.2.2.2, va_Nw.use rfl (hC.2.2.2.2.2.1 _ h rfl)⟩, hts _ hi, trivial⟩ ⟨mPre.blind, hpre⟩ rfl hna hL.1 rfl (lv_room hcat) hd ⟨hk, hn⟩
  · exact K v ad2 sh2 σ2 hp p l e s m args below meth c D cy A Q H1 locs1 arr hC hE hA hP1 (hD1.weaken (fun k q _ h => hA1 q.1 h)) hS1 hL hR
set_option maxHeartbeats 1000000 in
theorem ev_callI {q : Nat} {y : MethodName} {cc' : ByteArray} {nL' na d mc ms idx : Nat} {ret' : Option FieldType} {As st : List Value} {Post' : mPost} (hM : Ct y cc' nL' none d mc ms (.ref (ad q) :: As) ae ad sh σ Post') (hm : mMth y cc' nL' none na) (hl : mLk own idx y) (hi : Cond.instanceMethod y ∈ mTs) (hn1 : y.name = "<init>") (hst : st = As.reverse ++ .ref (ad q) :: rest) (hna : As.length = na) (hd : decode cc pc = .ok (.invokespecial idx, 3)) (hR0 : mRoomOk R d nL' = true) (hk : k + mc ≤ R.cells) (hn : n + ms ≤ R.slots) (hcat : (rest.map fun v => v.category).sum ≤ 8) (K : ∀ (v : Option Value) (ad' : Nat → Nat) (sh' : mSh) (σ' : mSt), Post' v ad' sh' σ' → Ev own cc nL ini ret R ae Post (pc + 3) (ls) (v.toList ++ rest) (k + mc) (n + ms) ad' sh' σ') : Ev own cc nL ini ret R ae Post (pc) (ls) (st) k n ad sh σ := by
  intro p l e s m args below meth c D cy A Q H locs arr hC hE hA hP hD hS hL hR
  subst hst
  have hfr := mRoom_ok (mc := mc) (ms := ms) hR0
  have hts := hC.2.2.2.2.1
  have hF : CallFix p m c cc nL s args mTs own := ⟨hC.1, hC.2.1, hC.2.2.1, hC.2.2.2.1, hts⟩
  have hA1 : ∀ q, va_A (mW cy ad sh σ) H.size q → A q := mA_sub hD hS hA
  have hpre : ∀ U : State, U.heap = H → s.WarmedH U.vm → va_Pc (.ref (ad q) :: As) (fun U => U.heap.size = H.size ∧ mPre D cy ae ad sh σ U) (.ref (ad q) :: As).toArray U := fun U hU hW => ⟨rfl, mPre_of hC.2.2.2.2.2.1 hC.2.2.2.2.2.2.1 hE hA hP hD hS hU hW⟩
  refine va_callm (D := D) (cy := cy) (Post := Post') (mc := mc) (ms := ms) (rest := rest) (free := va_A (mW cy ad sh σ) H.size) (A1 := va_A (mW cy ad sh σ) H.size) (a := (.ref (ad q) :: As).toArray) ?_ hS (fun q _ h => hA1 q h) hA1 (fun v ad2 sh2 σ2 H1 locs1 hp hP1 hD1 hS1 => ?_)
  · rcases hl with h | ⟨host, h⟩
    · exact va_runI (rest := rest) hF (hM l D cy H.size) ⟨⟨rfl, rfl, hfr.1, hfr.2, mWs_warm hm hts, List.mem_cons_self, hts _ hm.1, hts _ hm.2.1, hm.2.2.1, mPar hm.2.2.2, hts _ h⟩, hn1, hts _ hi⟩ ⟨mPre.blind, hpre⟩ rfl hna hL.1 rfl (lv_room hcat) hd ⟨hk, hn⟩
    · exact va_runIN (rest := rest) (host := host) hF (hM l D cy H.size) ⟨⟨⟨rfl, rfl, hfr.1, hfr.2, mWs_warm hm hts, List.mem_cons_self⟩, hts _ hm.1, hts _ hm.2.1, hm.2.2.1, mPar hm.2.2.2, va_Nw.use rfl (hC.2.2.2.2.2.1 _ h rfl)⟩, hn1, hts _ hi⟩ ⟨mPre.blind, hpre⟩ rfl hna hL.1 rfl (lv_room hcat) hd ⟨hk, hn⟩
  · exact K v ad2 sh2 σ2 hp p l e s m args below meth c D cy A Q H1 locs1 arr hC hE hA hP1 (hD1.weaken (fun k q _ h => hA1 q.1 h)) hS1 hL hR
end EVK
