theorem dgF_cong {f f' : Nat → Int32} : ∀ (n : Nat) (d : Int32), (∀ k, k < n → f k = f' k) → dgF f n d = dgF f' n d
  | 0, _, _ => rfl
  | n + 1, d, h => by
    rw [dgF, dgF, dgF_cong n d (fun k hk => h k (by omega)), h n (by omega)]
theorem and1 (x : Int32) : x &&& 1 = 0 ∨ x &&& 1 = 1 := by
  rcases Nat.mod_two_eq_zero_or_one x.toBitVec.toNat with h | h
  · refine Or.inl (Int32.toBitVec_inj.mp (BitVec.eq_of_toNat_eq ?_))
    rw [Int32.toBitVec_and, BitVec.toNat_and]
    show x.toBitVec.toNat &&& 1 = 0
    rw [Nat.and_one_is_mod]; exact h
  · refine Or.inr (Int32.toBitVec_inj.mp (BitVec.eq_of_toNat_eq ?_))
    rw [Int32.toBitVec_and, BitVec.toNat_and]
    show x.toBitVec.toNat &&& 1 = 1
    rw [Nat.and_one_is_mod]; exact h
/-- the digest as a function of the rows of g -/
def dgG (g : Nat → Int32) : Int32 := dgP (fun q => g (1 + q)) (fun i => g (37 + i)) (cN g * rN g) (g 0) (fun k => g (49 + k))
theorem dgQ_G {σ : mSt} {p : Nat} {g : Nat → Int32} (hG : wfP g) (hP : posR σ p g) (hR : ritR σ p g) : dgQ σ p (cN g * rN g) = dgG g := by
  have h36 := sq36 hG
  unfold dgQ dgG dgP
  rw [dgF_cong (f := σ.1 (p + 1)) (f' := fun q => g (1 + q)) _ _ (fun k hk => hP.1 k (by omega)), dgF_cong (f := σ.1 (p + 2)) (f' := fun i => g (37 + i)) _ _ (fun k hk => hP.2.1 k hk), hP.2.2.2.2.1]
  refine dgF_cong _ _ (fun k hk => ?_)
  have hb := hR k (by omega)
  have hr := hG.2.2.2.2.1 k hk
  have ht := bt_test (x := σ.1 p 5) (s := k) (by omega)
  rw [hr.1]
  by_cases e : riN g k = 1
  · rw [e]
    rcases and1 (σ.1 p 5 >>> (nI k &&& 31)) with h | h
    · have := ht.mp h
      rw [hb, decide_eq_false_iff_not] at this
      exact absurd ⟨hk, e⟩ this
    · exact h
  · have e0 : riN g k = 0 := by have := hr.2; omega
    rw [e0]
    exact ht.mpr (by rw [hb, decide_eq_false_iff_not]; exact fun z => e z.2)

