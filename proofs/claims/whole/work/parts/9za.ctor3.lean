/-- the cells of a new board -/
def vbS (ad : Nat → Nat) : mSh := [.inr (9, [.ref (ad 1), .ref (ad 3), .ref (ad 5), .ref (ad 15), .ref (ad 16), .ref (ad 20), .ref (ad 23), .ref (ad 26), .ref (ad 30), .ref (ad 32), .ref (ad 43), .int 0]), .inr (2, [.ref (ad 2), .int 0]), .inl 60, .inr (2, [.ref (ad 4), .int 0]), .inl 60, .inr (1, [.ref (ad 6), .ref (ad 7), .ref (ad 8), .ref (ad 9), .ref (ad 10), .ref (ad 11), .ref (ad 12), .ref (ad 13), .ref (ad 14), .int 0, .int 0]), .inl 6, .inl 36, .inl 36, .inl 36, .inl 36, .inl 6, .inl 6, .inl 4, .inl 16, .inr (5, [.ref (ad 5)]), .inr (4, [.ref (ad 17), .ref (ad 18), .ref (ad 19), .int 0]), .inl 6, .inl 6, .inl 6, .inr (6, [.ref (ad 21), .ref (ad 22), .int 0, .int 0, .int 0, .int 0, .long 0, .long 0]), .inl 36, .inl 12, .inr (6, [.ref (ad 24), .ref (ad 25), .int 0, .int 0, .int 0, .int 0, .long 0, .long 0]), .inl 36, .inl 12, .inr (8, [.ref (ad 27), .ref (ad 28), .ref (ad 29), .int 0]), .inl 40, .inl 40, .inl 41, .inr (3, [.ref (ad 31), .int 0]), .inl 445, .inr (0, [.ref (ad 15), .ref (ad 33), .ref (ad 35), .ref (ad 37), .ref (ad 40)]), .inr (3, [.ref (ad 34), .int 0]), .inl 445, .inr (3, [.ref (ad 36), .int 0]), .inl 445, .inr (6, [.ref (ad 38), .ref (ad 39), .int 0, .int 0, .int 0, .int 0, .long 0, .long 0]), .inl 36, .inl 12, .inr (6, [.ref (ad 41), .ref (ad 42), .int 0, .int 0, .int 0, .int 0, .long 0, .long 0]), .inl 36, .inl 12, .inr (7, [.ref (ad 44), .ref (ad 54), .ref (ad 57), .int 0]), .inr (1, [.ref (ad 45), .ref (ad 46), .ref (ad 47), .ref (ad 48), .ref (ad 49), .ref (ad 50), .ref (ad 51), .ref (ad 52), .ref (ad 53), .int 0, .int 0]), .inl 6, .inl 36, .inl 36, .inl 36, .inl 36, .inl 6, .inl 6, .inl 4, .inl 16, .inr (6, [.ref (ad 55), .ref (ad 56), .int 0, .int 0, .int 0, .int 0, .long 0, .long 0]), .inl 36, .inl 12, .inr (8, [.ref (ad 58), .ref (ad 59), .ref (ad 60), .int 0]), .inl 40, .inl 40, .inl 41]
def vbσ : mSt := posZ (lawZ (posZ (posZ (posZ (posZ (lawZ (fun _ _ => 0, fun _ _ => 0) 5) 20) 23) 37) 40) 44) 54
/-- the reference's row before its first game -/
def g0 : Nat → Int32 := upd (upd (upd (upd (upd (upd (upd (upd (fun _ => 0) 53 5) 54 5) 60 (-1)) 81 (-1)) 102 (-1)) 123 (-1)) 144 (-1)) 165 (-1)
theorem g0_P : wfP g0 := by
  unfold wfP
  exact ⟨by decide +kernel, by decide +kernel, by decide +kernel, by decide +kernel, by decide +kernel, by decide +kernel⟩
theorem g0_L : wfL g0 := by
  unfold wfL
  refine ⟨by decide +kernel, by decide +kernel, by decide +kernel, by decide +kernel, by decide +kernel, ?_, fun k hk => ?_⟩
  · decide +kernel
  · refine ⟨?_, fun i h1 h5 => ?_, fun h => ?_, fun h => ?_⟩
    · exact (by decide +kernel : ∀ k, k < 4 → g0 (184 + 6 * k) = nI (exN g0 k) ∧ exN g0 k ≤ 1) k hk
    · exact (by decide +kernel : ∀ k, k < 4 → ∀ i, i < 6 → g0 (184 + 6 * k + i) = nI (caN g0 k i) ∧ caN g0 k i < 36) k hk i (by omega)
    · exact absurd h ((by decide +kernel : ∀ k, k < 4 → ¬ exN g0 k = 1) k hk)
    · exact absurd h ((by decide +kernel : ∀ k, k < 4 → ¬ riN g0 k = 1) k hk)
theorem vb_pos : posR vbσ 20 g0 ∧ ritR vbσ 20 g0 := by
  unfold posR ritR
  refine ⟨⟨by decide +kernel, by decide +kernel, by decide +kernel, by decide +kernel, by decide +kernel, trivial, by decide +kernel, by decide +kernel⟩, by decide +kernel⟩
theorem vb_law : lawR vbσ 5 g0 := by
  unfold lawR
  refine ⟨by decide +kernel, by decide +kernel, by decide +kernel, by decide +kernel, by decide +kernel, by decide +kernel, by decide +kernel, fun k i hk hi => ?_, by decide +kernel, by decide +kernel⟩
  exact (by decide +kernel : ∀ k, k < 4 → ∀ i, i < 4 → vbσ.1 (5 + 9) (4 * k + i) = g0 (186 + 6 * k + i)) k hk i hi
/-- the board's numbers after its first begin -/
def vbσ2 : mSt := (mu (mu (mu vbσ.1 26 3 0) 29 0 (dgQ vbσ 20 (cN g0 * rN g0))) 0 11 0, vbσ.2)
theorem vbS_ok {ad : Nat → Nat} : mBoard ad (vbS ad) := by
  unfold mBoard mLine mLaws mPlay mReader mPos mTrail mList mCounter mSnap mPlay mLaws mList mPos mTrail
  repeat' (first | exact rfl | refine And.intro ?_ ?_)
theorem Ev.sh {own : String} {cc : ByteArray} {nL : Nat} {ini : Bool} {ret : Option FieldType} {R : Room} {ae ad : Nat → Nat} {Post : mPost} {pc : Nat} {ls : List (Option Value)} {st : List Value} {k n : Nat} {sh sh' : mSh} {σ : mSt} (e : sh = sh') (K : Ev own cc nL ini ret R ae Post pc ls st k n ad sh' σ) : Ev own cc nL ini ret R ae Post pc ls st k n ad sh σ := by
  rw [e]; exact K
section KK
variable {cc : ByteArray} {nL : Nat} {ini : Bool} {ret : Option FieldType} {R : Room} {ae ad : Nat → Nat} {Post : mPost} {pc : Nat} {ls : List (Option Value)} {rest : List Value} {k n : Nat} {sh : mSh} {σ : mSt}
theorem kl_X9_84 {q d : Nat} {fs : List Value} {σ' : mSt} (hM : Ct yX9_begin cX9_begin 1 none d 0 0 ([.ref (ad q)]) ae ad sh σ (mEq none ad sh σ')) (hq : sh[q]? = some (.inr (9, fs))) (hd : decode cc pc = .ok (.invokevirtual 84, 3)) (hR0 : mRoomOk R d 1 = true) (hcat : (rest.map fun v => v.category).sum ≤ 8) {kk nn : Nat} (hkk : kk ≤ R.cells) (hnn : nn ≤ R.slots) (K : Ev RX9 cc nL ini ret R ae Post (pc + 3) ls (rest) kk nn ad sh σ') : Ev RX9 cc nL ini ret R ae Post (pc) ls (.ref (ad q) :: rest) kk nn ad sh σ :=
  ev_callV (As := []) hM mm_X9_begin lk_X9_84 mi_X9_begin ml_X9_begin hq rfl rfl rfl hd hR0 hkk hnn hcat (fun v ad2 sh2 σ2 ⟨e1, e2, e3, e4⟩ => by subst e1; subst e2; subst e3; subst e4; exact K)
end KK
