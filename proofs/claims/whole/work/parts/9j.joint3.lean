set_option maxRecDepth 100000 in
set_option maxHeartbeats 4000000 in
theorem c_mDig {ae ad : Nat → Nat} {sh : mSh} {σ : mSt} (hm : mModel ad sh) {g : Nat → Int32} (hg : σ.1 62 = g) (hG : wfP g) (hW : wfL g) : Ct yX10_digest cX10_digest 1 (some .int) 2 0 0 [.ref (ad 61)] ae ad sh σ (mEq (some (.int (dgG g))) ad sh σ) := by
  refine Ct.ofL (own := RX10) (ini := false) (ls := [some (.ref (ad 61))]) (by decide +kernel) rfl (fun h => by cases h) (Nat.le_of_ble_eq_true rfl) rfl ?_
  refine ev_aload_0 dX10_digest_0 ?_
  refine cl_X10_82 (c_mDigest hm hg hG hW) hm.1 dX10_digest_1 rfl (Nat.le_of_ble_eq_true rfl) ?_
  exact ev_ireturn dX10_digest_4
/-- answered the long r, and the game is still g -/
def jL (ad : Nat → Nat) (sh : mSh) (g : Nat → Int32) (r : Int64) : mPost := mPl ad sh (fun x σ' => x = r ∧ jRel σ' g)
section Q
variable {ae ad : Nat → Nat} {sh : mSh} {σ : mSt} {g : Nat → Int32}
theorem jm_digest (hm : mModel ad sh) (h : jRel σ g) : Ct yX10_digest cX10_digest 1 (some .int) 2 0 0 [.ref (ad 61)] ae ad sh σ (jP ad sh g (dgG g)) := (c_mDig hm h.2.2.1 h.1 h.2.1).toI ⟨rfl, h⟩
theorem jc_attdNo {x : Int32} (hb : mBoard ad sh) (h : jRel σ g) (hx : isBt x = false) : Ct yX9_attacked cX9_attacked 2 (some .long) 3 0 0 [.ref (ad 0), .int x] ae ad sh σ (jL ad sh g (-9223372036854775808)) :=
  (c_attNo hb hx).mono (fun _ _ _ _ ⟨e1, e2, e3, e4⟩ => ⟨_, e1, e2, e3, rfl, by rw [e4]; exact h⟩)
theorem jm_attdNo {x : Int32} (hm : mModel ad sh) (h : jRel σ g) (hx : isBt x = false) : Ct yX10_attacked cX10_attacked 2 (some .long) 6 0 0 [.ref (ad 61), .int x] ae ad sh σ (jL ad sh g (-9223372036854775808)) :=
  (c_mAttdNo hm hx).mono (fun _ _ _ _ ⟨r, e1, e2, e3, e4, e5⟩ => ⟨r, e1, e2, e3, e4, h.H (frH.E e5)⟩)
theorem jc_attd {k : Nat} (hb : mBoard ad sh) (h : jRel σ g) (hk : k ≤ 1) : Ct yX9_attacked cX9_attacked 2 (some .long) 3 0 0 [.ref (ad 0), .int (nI k)] ae ad sh σ (jL ad sh g (setL (attG g k))) :=
  (c_att hb h.1 h.2.2.2.1.1.1 h.2.2.2.1.2.1 hk).mono (fun _ _ _ _ ⟨e1, e2, e3, e4⟩ => ⟨_, e1, e2, e3, rfl, by rw [e4]; exact h⟩)
theorem jm_attd {k : Nat} (hm : mModel ad sh) (h : jRel σ g) (hk : k ≤ 1) : Ct yX10_attacked cX10_attacked 2 (some .long) 6 0 0 [.ref (ad 61), .int (nI k)] ae ad sh σ (jL ad sh g (setL (attG g k))) :=
  (c_mAttd hm h.2.2.1 h.1 h.2.1 hk).mono (fun _ _ _ _ ⟨r, e1, e2, e3, e4, e5⟩ => ⟨r, e1, e2, e3, e4, h.H (frH.E e5)⟩)
theorem jc_attrNo {q x : Int32} (hb : mBoard ad sh) (h : jRel σ g) (hx : ¬ (sqB g q = true ∧ isBt x = true)) : Ct yX9_attackers cX9_attackers 3 (some .long) 3 0 0 [.ref (ad 0), .int q, .int x] ae ad sh σ (jL ad sh g (-9223372036854775808)) := by
  by_cases hq : sqB g q = true
  · have hx2 : isBt x = false := Bool.eq_false_iff.mpr (fun z => hx ⟨hq, z⟩)
    exact (c_attrNo2 hb h.1 h.2.2.2.1.1.1 h.2.2.2.1.2.1 hq hx2).mono (fun _ _ _ _ ⟨e1, e2, e3, e4⟩ => ⟨_, e1, e2, e3, rfl, by rw [e4]; exact h⟩)
  · exact (c_attrNo1 hb h.1 h.2.2.2.1.1.1 h.2.2.2.1.2.1 (Bool.eq_false_iff.mpr hq)).mono (fun _ _ _ _ ⟨e1, e2, e3, e4⟩ => ⟨_, e1, e2, e3, rfl, by rw [e4]; exact h⟩)
theorem jm_attrNo {q x : Int32} (hm : mModel ad sh) (h : jRel σ g) (hx : ¬ (sqB g q = true ∧ isBt x = true)) : Ct yX10_attackers cX10_attackers 6 (some .long) 6 0 0 [.ref (ad 61), .int q, .int x] ae ad sh σ (jL ad sh g (-9223372036854775808)) := by
  by_cases hq : sqB g q = true
  · have hx2 : isBt x = false := Bool.eq_false_iff.mpr (fun z => hx ⟨hq, z⟩)
    exact (c_mAttrNo2 hm h.2.2.1 h.1 h.2.1 hq hx2).mono (fun _ _ _ _ ⟨r, e1, e2, e3, e4, e5⟩ => ⟨r, e1, e2, e3, e4, h.H (frH.E e5)⟩)
  · exact (c_mAttrNo1 hm h.2.2.1 h.1 h.2.1 (Bool.eq_false_iff.mpr hq)).mono (fun _ _ _ _ ⟨r, e1, e2, e3, e4, e5⟩ => ⟨r, e1, e2, e3, e4, h.H (frH.E e5)⟩)
theorem jc_attr {q k : Nat} (hb : mBoard ad sh) (h : jRel σ g) (hq : q < cN g * rN g) (hk : k ≤ 1) : Ct yX9_attackers cX9_attackers 3 (some .long) 3 0 0 [.ref (ad 0), .int (nI q), .int (nI k)] ae ad sh σ (jL ad sh g (atkQ g (nI q) k)) :=
  (c_attr hb h.1 h.2.2.2.1.1.1 h.2.2.2.1.2.1 (sqB_of h.1 hq) hk).mono (fun _ _ _ _ ⟨e1, e2, e3, e4⟩ => ⟨_, e1, e2, e3, rfl, by rw [e4]; exact h⟩)
theorem jm_attr {q k : Nat} (hm : mModel ad sh) (h : jRel σ g) (hq : q < cN g * rN g) (hk : k ≤ 1) : Ct yX10_attackers cX10_attackers 6 (some .long) 6 0 0 [.ref (ad 61), .int (nI q), .int (nI k)] ae ad sh σ (jL ad sh g (atkQ g (nI q) k)) :=
  (c_mAttr hm h.1 h.2.1 hk hq h.2.2.1).mono (fun _ _ _ _ ⟨r, e1, e2, e3, e4, e5⟩ => ⟨r, e1, e2, e3, e4, h.H (frH.E e5)⟩)
end Q

