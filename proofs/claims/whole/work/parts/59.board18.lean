theorem bt_ext {x y : Int32} (h : ∀ k, k < 32 → bt x k = bt y k) : x = y := Int32.toBitVec_inj.mp (BitVec.eq_of_getLsbD_eq (fun i hi => h i hi))
/-- the trail p holds the digests of g and its depth D -/
def trD (σ : mSt) (p : Nat) (g : Nat → Int32) (D : Nat) : Prop := g 57 = nI D ∧ D ≤ 40 ∧ σ.1 p 3 = nI D ∧ ∀ i, i ≤ D → σ.1 (p + 3) i = g (2328 + i)
def ocG (g : Nat → Int32) (D : Nat) : Nat := cntF (fun k => decide (g (2328 + k) = g (2328 + D))) (D + 1)
theorem oc_eq {σ : mSt} {p D : Nat} {g : Nat → Int32} (h : trD σ p g D) : cntF (fun k => decide (σ.1 (p + 3) k = σ.1 (p + 3) D)) (D + 1) = ocG g D := cntF_cong _ (fun k hk => by
  rw [h.2.2.2 k (by omega), h.2.2.2 D (Nat.le_refl _)])
def menG (g : Nat → Int32) : Int32 := popL (setL (occG g))
theorem men_eq {σ : mSt} {p : Nat} {g : Nat → Int32} (hP : posR σ p g) : popL (σ.2 p 6 ||| σ.2 p 7) = menG g := by
  unfold menG
  rw [setL_of (s := σ.2 p 6 ||| σ.2 p 7) (f := occG g) (fun i _ => congrFun hP.occ i)]
def casG (g : Nat → Int32) : Int32 := popI (maskF (fun k => decide (exN g k = 1)) 4)
theorem mask_cong {c c' : Nat → Bool} : ∀ n, (∀ k, k < n → c k = c' k) → maskF c n = maskF c' n
  | 0, _ => rfl
  | n + 1, h => by rw [maskF, maskF, mask_cong n (fun k hk => h k (by omega)), h n (by omega)]
theorem ex_sd {σ : mSt} {l : Nat} {g : Nat → Int32} (hW : wfL g) (hL : lawR σ l g) {k : Nat} (hk : k < 4) : σ.1 (l + 8) k < 0 ↔ ¬ exN g k = 1 := by
  obtain ⟨⟨a1, a2⟩, a3, _, _⟩ := hW.2.2.2.2.2.2 k hk
  rw [hL.2.2.2.2.2.2.1 k hk, a1]
  by_cases h : exN g k = 1
  · rw [h, if_pos (show nI 1 = 1 from rfl)]
    have := a3 1 (by decide) (by decide)
    have e : g (185 + 6 * k) = nI (caN g k 1) := by rw [← this.1]; congr 1; omega
    rw [e]
    exact ⟨fun z => absurd z (nI_pos (by omega)), fun z => absurd rfl z⟩
  · have h0 : exN g k = 0 := by omega
    rw [h0, if_neg (by decide)]
    exact ⟨fun _ => by decide, fun _ => by decide⟩
theorem cas_eq {σ : mSt} {l : Nat} {g : Nat → Int32} (hW : wfL g) (hL : lawR σ l g) : maskF (fun k => decide (¬ σ.1 (l + 8) k < 0)) 4 = maskF (fun k => decide (exN g k = 1)) 4 := mask_cong _ (fun k hk => decide_eq_decide.mpr ((not_congr (ex_sd hW hL hk)).trans Classical.not_not))
theorem rit_eq {σ : mSt} {p : Nat} {g : Nat → Int32} (hG : wfP g) (hR : ritR σ p g) : σ.1 p 5 = nI (rmN g) := bt_ext (fun k hk => by rw [hR k hk, rm_bt hG hk])
def couA (g : Nat → Int32) (D tl : Nat) (c : Int32) : Int32 := if c = 0 then menG g else if c = 1 then g 53 else if c = 2 then g 54 else if c = 3 then g 0 else if c = 4 then nI D else if c = 5 then nI (ocG g D) else if c = 6 then casG g else if c = 7 then popI (nI (rmN g)) else if c = 8 then nI tl else if c = 9 then g 55 else if c = 10 then g 56 else if 20 ≤ c ∧ c ≤ 31 then g (17 + c.toNatClampNeg) else -1

set_option maxRecDepth 100000 in
set_option maxHeartbeats 4000000 in
theorem c_count0 {ae ad : Nat → Nat} {sh : mSh} {σ : mSt} {g : Nat → Int32} {D tl : Nat} (hb : mBoard ad sh) (hG : wfP g) (hW : wfL g) (hP : posR σ 20 g) (hR : ritR σ 20 g) (hL : lawR σ 5 g) (hT : trD σ 26 g D) (ht : σ.1 1 1 = nI tl) : Ct yX9_count cX9_count 2 (some .int) 2 0 0 [.ref (ad 0), .int 0] ae ad sh σ (mPi ad sh (fun x σ' => x = couA g D tl 0 ∧ σ' = σ)) := by
  refine Ct.ofL (own := RX9) (ini := false) (ls := [some (.ref (ad 0)), some (.int 0)]) (by decide +kernel) rfl (fun h => by cases h) (Nat.le_of_ble_eq_true rfl) rfl ?_
  refine ev_iload_1 dX9_count_0 ?_
  refine ev_bipush_20 dX9_count_1 ?_
  refine ev_icmp_lt (tgt := 27) dX9_count_3 (by decide) (fun h3 => ?_) (fun h3 => absurd (by decide) h3)
  refine ev_iload_1 dX9_count_27 ?_
  refine ev_tableIn (off := 60) (tgt := 88) dX9_count_28 (by decide) (by decide) (by decide) (by decide) ?_
  refine ev_aload_0 dX9_count_88 ?_
  refine gf_X9_47 dX9_count_89 hb.1 rfl ?_
  refine cl_X9_168 (c_menOnBoard hb.2.2.2.2.2.2.1) hb.2.2.2.2.2.2.1.1 dX9_count_92 rfl (Nat.le_of_ble_eq_true rfl) ?_
  refine ev_pi dX9_count_95 ⟨?_, rfl⟩
  unfold couA
  rw [if_pos rfl]
  exact men_eq hP
set_option maxRecDepth 100000 in
set_option maxHeartbeats 4000000 in
theorem c_count1 {ae ad : Nat → Nat} {sh : mSh} {σ : mSt} {g : Nat → Int32} {D tl : Nat} (hb : mBoard ad sh) (hG : wfP g) (hW : wfL g) (hP : posR σ 20 g) (hR : ritR σ 20 g) (hL : lawR σ 5 g) (hT : trD σ 26 g D) (ht : σ.1 1 1 = nI tl) : Ct yX9_count cX9_count 2 (some .int) 2 0 0 [.ref (ad 0), .int 1] ae ad sh σ (mPi ad sh (fun x σ' => x = couA g D tl 1 ∧ σ' = σ)) := by
  refine Ct.ofL (own := RX9) (ini := false) (ls := [some (.ref (ad 0)), some (.int 1)]) (by decide +kernel) rfl (fun h => by cases h) (Nat.le_of_ble_eq_true rfl) rfl ?_
  refine ev_iload_1 dX9_count_0 ?_
  refine ev_bipush_20 dX9_count_1 ?_
  refine ev_icmp_lt (tgt := 27) dX9_count_3 (by decide) (fun h3 => ?_) (fun h3 => absurd (by decide) h3)
  refine ev_iload_1 dX9_count_27 ?_
  refine ev_tableIn (off := 68) (tgt := 96) dX9_count_28 (by decide) (by decide) (by decide) (by decide) ?_
  refine ev_aload_0 dX9_count_96 ?_
  refine gf_X9_47 dX9_count_97 hb.1 rfl ?_
  refine gf_X9_148 dX9_count_100 hb.2.2.2.2.2.2.1.1 rfl ?_
  refine ev_pi dX9_count_103 ⟨?_, rfl⟩
  unfold couA
  rw [if_neg (by decide)]; rw [if_pos rfl]
  exact hP.2.2.1
set_option maxRecDepth 100000 in
set_option maxHeartbeats 4000000 in
theorem c_count2 {ae ad : Nat → Nat} {sh : mSh} {σ : mSt} {g : Nat → Int32} {D tl : Nat} (hb : mBoard ad sh) (hG : wfP g) (hW : wfL g) (hP : posR σ 20 g) (hR : ritR σ 20 g) (hL : lawR σ 5 g) (hT : trD σ 26 g D) (ht : σ.1 1 1 = nI tl) : Ct yX9_count cX9_count 2 (some .int) 2 0 0 [.ref (ad 0), .int 2] ae ad sh σ (mPi ad sh (fun x σ' => x = couA g D tl 2 ∧ σ' = σ)) := by
  refine Ct.ofL (own := RX9) (ini := false) (ls := [some (.ref (ad 0)), some (.int 2)]) (by decide +kernel) rfl (fun h => by cases h) (Nat.le_of_ble_eq_true rfl) rfl ?_
  refine ev_iload_1 dX9_count_0 ?_
  refine ev_bipush_20 dX9_count_1 ?_
  refine ev_icmp_lt (tgt := 27) dX9_count_3 (by decide) (fun h3 => ?_) (fun h3 => absurd (by decide) h3)
  refine ev_iload_1 dX9_count_27 ?_
  refine ev_tableIn (off := 76) (tgt := 104) dX9_count_28 (by decide) (by decide) (by decide) (by decide) ?_
  refine ev_aload_0 dX9_count_104 ?_
  refine gf_X9_47 dX9_count_105 hb.1 rfl ?_
  refine gf_X9_151 dX9_count_108 hb.2.2.2.2.2.2.1.1 rfl ?_
  refine ev_pi dX9_count_111 ⟨?_, rfl⟩
  unfold couA
  rw [if_neg (by decide)]; rw [if_neg (by decide)]; rw [if_pos rfl]
  exact hP.2.2.2.1
set_option maxRecDepth 100000 in
set_option maxHeartbeats 4000000 in
theorem c_count3 {ae ad : Nat → Nat} {sh : mSh} {σ : mSt} {g : Nat → Int32} {D tl : Nat} (hb : mBoard ad sh) (hG : wfP g) (hW : wfL g) (hP : posR σ 20 g) (hR : ritR σ 20 g) (hL : lawR σ 5 g) (hT : trD σ 26 g D) (ht : σ.1 1 1 = nI tl) : Ct yX9_count cX9_count 2 (some .int) 2 0 0 [.ref (ad 0), .int 3] ae ad sh σ (mPi ad sh (fun x σ' => x = couA g D tl 3 ∧ σ' = σ)) := by
  refine Ct.ofL (own := RX9) (ini := false) (ls := [some (.ref (ad 0)), some (.int 3)]) (by decide +kernel) rfl (fun h => by cases h) (Nat.le_of_ble_eq_true rfl) rfl ?_
  refine ev_iload_1 dX9_count_0 ?_
  refine ev_bipush_20 dX9_count_1 ?_
  refine ev_icmp_lt (tgt := 27) dX9_count_3 (by decide) (fun h3 => ?_) (fun h3 => absurd (by decide) h3)
  refine ev_iload_1 dX9_count_27 ?_
  refine ev_tableIn (off := 84) (tgt := 112) dX9_count_28 (by decide) (by decide) (by decide) (by decide) ?_
  refine ev_aload_0 dX9_count_112 ?_
  refine gf_X9_47 dX9_count_113 hb.1 rfl ?_
  refine gf_X9_171 dX9_count_116 hb.2.2.2.2.2.2.1.1 rfl ?_
  refine ev_pi dX9_count_119 ⟨?_, rfl⟩
  unfold couA
  rw [if_neg (by decide)]; rw [if_neg (by decide)]; rw [if_neg (by decide)]; rw [if_pos rfl]
  exact hP.2.2.2.2.1
set_option maxRecDepth 100000 in
set_option maxHeartbeats 4000000 in
theorem c_count4 {ae ad : Nat → Nat} {sh : mSh} {σ : mSt} {g : Nat → Int32} {D tl : Nat} (hb : mBoard ad sh) (hG : wfP g) (hW : wfL g) (hP : posR σ 20 g) (hR : ritR σ 20 g) (hL : lawR σ 5 g) (hT : trD σ 26 g D) (ht : σ.1 1 1 = nI tl) : Ct yX9_count cX9_count 2 (some .int) 2 0 0 [.ref (ad 0), .int 4] ae ad sh σ (mPi ad sh (fun x σ' => x = couA g D tl 4 ∧ σ' = σ)) := by
  refine Ct.ofL (own := RX9) (ini := false) (ls := [some (.ref (ad 0)), some (.int 4)]) (by decide +kernel) rfl (fun h => by cases h) (Nat.le_of_ble_eq_true rfl) rfl ?_
  refine ev_iload_1 dX9_count_0 ?_
  refine ev_bipush_20 dX9_count_1 ?_
  refine ev_icmp_lt (tgt := 27) dX9_count_3 (by decide) (fun h3 => ?_) (fun h3 => absurd (by decide) h3)
  refine ev_iload_1 dX9_count_27 ?_
  refine ev_tableIn (off := 92) (tgt := 120) dX9_count_28 (by decide) (by decide) (by decide) (by decide) ?_
  refine ev_aload_0 dX9_count_120 ?_
  refine gf_X9_57 dX9_count_121 hb.1 rfl ?_
  refine gf_X9_271 dX9_count_124 hb.2.2.2.2.2.2.2.2.1.1 rfl ?_
  refine ev_pi dX9_count_127 ⟨?_, rfl⟩
  unfold couA
  rw [if_neg (by decide)]; rw [if_neg (by decide)]; rw [if_neg (by decide)]; rw [if_neg (by decide)]; rw [if_pos rfl]
  exact hT.2.2.1
set_option maxRecDepth 100000 in
set_option maxHeartbeats 4000000 in
theorem c_count5 {ae ad : Nat → Nat} {sh : mSh} {σ : mSt} {g : Nat → Int32} {D tl : Nat} (hb : mBoard ad sh) (hG : wfP g) (hW : wfL g) (hP : posR σ 20 g) (hR : ritR σ 20 g) (hL : lawR σ 5 g) (hT : trD σ 26 g D) (ht : σ.1 1 1 = nI tl) : Ct yX9_count cX9_count 2 (some .int) 2 0 0 [.ref (ad 0), .int 5] ae ad sh σ (mPi ad sh (fun x σ' => x = couA g D tl 5 ∧ σ' = σ)) := by
  refine Ct.ofL (own := RX9) (ini := false) (ls := [some (.ref (ad 0)), some (.int 5)]) (by decide +kernel) rfl (fun h => by cases h) (Nat.le_of_ble_eq_true rfl) rfl ?_
  refine ev_iload_1 dX9_count_0 ?_
  refine ev_bipush_20 dX9_count_1 ?_
  refine ev_icmp_lt (tgt := 27) dX9_count_3 (by decide) (fun h3 => ?_) (fun h3 => absurd (by decide) h3)
  refine ev_iload_1 dX9_count_27 ?_
  refine ev_tableIn (off := 100) (tgt := 128) dX9_count_28 (by decide) (by decide) (by decide) (by decide) ?_
  refine ev_aload_0 dX9_count_128 ?_
  refine gf_X9_57 dX9_count_129 hb.1 rfl ?_
  refine cl_X9_283 (c_trOcc hb.2.2.2.2.2.2.2.2.1 hT.2.2.1 hT.2.1) hb.2.2.2.2.2.2.2.2.1.1 dX9_count_132 rfl (Nat.le_of_ble_eq_true rfl) ?_
  refine ev_pi dX9_count_135 ⟨?_, rfl⟩
  unfold couA
  rw [if_neg (by decide)]; rw [if_neg (by decide)]; rw [if_neg (by decide)]; rw [if_neg (by decide)]; rw [if_neg (by decide)]; rw [if_pos rfl]
  exact congrArg nI (oc_eq hT)
set_option maxRecDepth 100000 in
set_option maxHeartbeats 4000000 in
theorem c_count6 {ae ad : Nat → Nat} {sh : mSh} {σ : mSt} {g : Nat → Int32} {D tl : Nat} (hb : mBoard ad sh) (hG : wfP g) (hW : wfL g) (hP : posR σ 20 g) (hR : ritR σ 20 g) (hL : lawR σ 5 g) (hT : trD σ 26 g D) (ht : σ.1 1 1 = nI tl) : Ct yX9_count cX9_count 2 (some .int) 2 0 0 [.ref (ad 0), .int 6] ae ad sh σ (mPi ad sh (fun x σ' => x = couA g D tl 6 ∧ σ' = σ)) := by
  refine Ct.ofL (own := RX9) (ini := false) (ls := [some (.ref (ad 0)), some (.int 6)]) (by decide +kernel) rfl (fun h => by cases h) (Nat.le_of_ble_eq_true rfl) rfl ?_
  refine ev_iload_1 dX9_count_0 ?_
  refine ev_bipush_20 dX9_count_1 ?_
  refine ev_icmp_lt (tgt := 27) dX9_count_3 (by decide) (fun h3 => ?_) (fun h3 => absurd (by decide) h3)
  refine ev_iload_1 dX9_count_27 ?_
  refine ev_tableIn (off := 108) (tgt := 136) dX9_count_28 (by decide) (by decide) (by decide) (by decide) ?_
  refine ev_aload_0 dX9_count_136 ?_
  refine gf_X9_24 dX9_count_137 hb.1 rfl ?_
  refine cl_X9_162 (c_castlings hb.2.2.2.1) hb.2.2.2.1.1 dX9_count_140 rfl (Nat.le_of_ble_eq_true rfl) ?_
  refine cl_X9_194 c_popI dX9_count_143 rfl (Nat.le_of_ble_eq_true rfl) ?_
  refine ev_pi dX9_count_146 ⟨?_, rfl⟩
  unfold couA
  rw [if_neg (by decide)]; rw [if_neg (by decide)]; rw [if_neg (by decide)]; rw [if_neg (by decide)]; rw [if_neg (by decide)]; rw [if_neg (by decide)]; rw [if_pos rfl]
  exact by rw [cas_eq hW hL]; rfl
set_option maxRecDepth 100000 in
set_option maxHeartbeats 4000000 in
theorem c_count7 {ae ad : Nat → Nat} {sh : mSh} {σ : mSt} {g : Nat → Int32} {D tl : Nat} (hb : mBoard ad sh) (hG : wfP g) (hW : wfL g) (hP : posR σ 20 g) (hR : ritR σ 20 g) (hL : lawR σ 5 g) (hT : trD σ 26 g D) (ht : σ.1 1 1 = nI tl) : Ct yX9_count cX9_count 2 (some .int) 2 0 0 [.ref (ad 0), .int 7] ae ad sh σ (mPi ad sh (fun x σ' => x = couA g D tl 7 ∧ σ' = σ)) := by
  refine Ct.ofL (own := RX9) (ini := false) (ls := [some (.ref (ad 0)), some (.int 7)]) (by decide +kernel) rfl (fun h => by cases h) (Nat.le_of_ble_eq_true rfl) rfl ?_
  refine ev_iload_1 dX9_count_0 ?_
  refine ev_bipush_20 dX9_count_1 ?_
  refine ev_icmp_lt (tgt := 27) dX9_count_3 (by decide) (fun h3 => ?_) (fun h3 => absurd (by decide) h3)
  refine ev_iload_1 dX9_count_27 ?_
  refine ev_tableIn (off := 119) (tgt := 147) dX9_count_28 (by decide) (by decide) (by decide) (by decide) ?_
  refine ev_aload_0 dX9_count_147 ?_
  refine gf_X9_47 dX9_count_148 hb.1 rfl ?_
  refine gf_X9_165 dX9_count_151 hb.2.2.2.2.2.2.1.1 rfl ?_
  refine cl_X9_194 c_popI dX9_count_154 rfl (Nat.le_of_ble_eq_true rfl) ?_
  refine ev_pi dX9_count_157 ⟨?_, rfl⟩
  unfold couA
  rw [if_neg (by decide)]; rw [if_neg (by decide)]; rw [if_neg (by decide)]; rw [if_neg (by decide)]; rw [if_neg (by decide)]; rw [if_neg (by decide)]; rw [if_neg (by decide)]; rw [if_pos rfl]
  exact by rw [rit_eq hG hR]
set_option maxRecDepth 100000 in
set_option maxHeartbeats 4000000 in
theorem c_count8 {ae ad : Nat → Nat} {sh : mSh} {σ : mSt} {g : Nat → Int32} {D tl : Nat} (hb : mBoard ad sh) (hG : wfP g) (hW : wfL g) (hP : posR σ 20 g) (hR : ritR σ 20 g) (hL : lawR σ 5 g) (hT : trD σ 26 g D) (ht : σ.1 1 1 = nI tl) : Ct yX9_count cX9_count 2 (some .int) 2 0 0 [.ref (ad 0), .int 8] ae ad sh σ (mPi ad sh (fun x σ' => x = couA g D tl 8 ∧ σ' = σ)) := by
  refine Ct.ofL (own := RX9) (ini := false) (ls := [some (.ref (ad 0)), some (.int 8)]) (by decide +kernel) rfl (fun h => by cases h) (Nat.le_of_ble_eq_true rfl) rfl ?_
  refine ev_iload_1 dX9_count_0 ?_
  refine ev_bipush_20 dX9_count_1 ?_
  refine ev_icmp_lt (tgt := 27) dX9_count_3 (by decide) (fun h3 => ?_) (fun h3 => absurd (by decide) h3)
  refine ev_iload_1 dX9_count_27 ?_
  refine ev_tableIn (off := 130) (tgt := 158) dX9_count_28 (by decide) (by decide) (by decide) (by decide) ?_
  refine ev_aload_0 dX9_count_158 ?_
  refine gf_X9_14 dX9_count_159 hb.1 rfl ?_
  refine gf_X9_91 dX9_count_162 hb.2.1.1 rfl ?_
  refine ev_pi dX9_count_165 ⟨?_, rfl⟩
  unfold couA
  rw [if_neg (by decide)]; rw [if_neg (by decide)]; rw [if_neg (by decide)]; rw [if_neg (by decide)]; rw [if_neg (by decide)]; rw [if_neg (by decide)]; rw [if_neg (by decide)]; rw [if_neg (by decide)]; rw [if_pos rfl]
  exact ht
set_option maxRecDepth 100000 in
set_option maxHeartbeats 4000000 in
theorem c_count9 {ae ad : Nat → Nat} {sh : mSh} {σ : mSt} {g : Nat → Int32} {D tl : Nat} (hb : mBoard ad sh) (hG : wfP g) (hW : wfL g) (hP : posR σ 20 g) (hR : ritR σ 20 g) (hL : lawR σ 5 g) (hT : trD σ 26 g D) (ht : σ.1 1 1 = nI tl) : Ct yX9_count cX9_count 2 (some .int) 2 0 0 [.ref (ad 0), .int 9] ae ad sh σ (mPi ad sh (fun x σ' => x = couA g D tl 9 ∧ σ' = σ)) := by
  refine Ct.ofL (own := RX9) (ini := false) (ls := [some (.ref (ad 0)), some (.int 9)]) (by decide +kernel) rfl (fun h => by cases h) (Nat.le_of_ble_eq_true rfl) rfl ?_
  refine ev_iload_1 dX9_count_0 ?_
  refine ev_bipush_20 dX9_count_1 ?_
  refine ev_icmp_lt (tgt := 27) dX9_count_3 (by decide) (fun h3 => ?_) (fun h3 => absurd (by decide) h3)
  refine ev_iload_1 dX9_count_27 ?_
  refine ev_tableIn (off := 138) (tgt := 166) dX9_count_28 (by decide) (by decide) (by decide) (by decide) ?_
  refine ev_aload_0 dX9_count_166 ?_
  refine gf_X9_24 dX9_count_167 hb.1 rfl ?_
  refine gf_X9_142 dX9_count_170 hb.2.2.2.1.1 rfl ?_
  refine ev_pi dX9_count_173 ⟨?_, rfl⟩
  unfold couA
  rw [if_neg (by decide)]; rw [if_neg (by decide)]; rw [if_neg (by decide)]; rw [if_neg (by decide)]; rw [if_neg (by decide)]; rw [if_neg (by decide)]; rw [if_neg (by decide)]; rw [if_neg (by decide)]; rw [if_neg (by decide)]; rw [if_pos rfl]
  exact hL.2.2.2.2.2.2.2.2.1
set_option maxRecDepth 100000 in
set_option maxHeartbeats 4000000 in
theorem c_count10 {ae ad : Nat → Nat} {sh : mSh} {σ : mSt} {g : Nat → Int32} {D tl : Nat} (hb : mBoard ad sh) (hG : wfP g) (hW : wfL g) (hP : posR σ 20 g) (hR : ritR σ 20 g) (hL : lawR σ 5 g) (hT : trD σ 26 g D) (ht : σ.1 1 1 = nI tl) : Ct yX9_count cX9_count 2 (some .int) 2 0 0 [.ref (ad 0), .int 10] ae ad sh σ (mPi ad sh (fun x σ' => x = couA g D tl 10 ∧ σ' = σ)) := by
  refine Ct.ofL (own := RX9) (ini := false) (ls := [some (.ref (ad 0)), some (.int 10)]) (by decide +kernel) rfl (fun h => by cases h) (Nat.le_of_ble_eq_true rfl) rfl ?_
  refine ev_iload_1 dX9_count_0 ?_
  refine ev_bipush_20 dX9_count_1 ?_
  refine ev_icmp_lt (tgt := 27) dX9_count_3 (by decide) (fun h3 => ?_) (fun h3 => absurd (by decide) h3)
  refine ev_iload_1 dX9_count_27 ?_
  refine ev_tableIn (off := 146) (tgt := 174) dX9_count_28 (by decide) (by decide) (by decide) (by decide) ?_
  refine ev_aload_0 dX9_count_174 ?_
  refine gf_X9_24 dX9_count_175 hb.1 rfl ?_
  refine gf_X9_145 dX9_count_178 hb.2.2.2.1.1 rfl ?_
  refine ev_pi dX9_count_181 ⟨?_, rfl⟩
  unfold couA
  rw [if_neg (by decide)]; rw [if_neg (by decide)]; rw [if_neg (by decide)]; rw [if_neg (by decide)]; rw [if_neg (by decide)]; rw [if_neg (by decide)]; rw [if_neg (by decide)]; rw [if_neg (by decide)]; rw [if_neg (by decide)]; rw [if_neg (by decide)]; rw [if_pos rfl]
  exact hL.2.2.2.2.2.2.2.2.2
set_option maxRecDepth 100000 in
set_option maxHeartbeats 4000000 in
theorem c_countH {ae ad : Nat → Nat} {sh : mSh} {σ : mSt} {g : Nat → Int32} {D tl : Nat} (hb : mBoard ad sh) (hG : wfP g) (hW : wfL g) (hP : posR σ 20 g) (hR : ritR σ 20 g) (hL : lawR σ 5 g) (hT : trD σ 26 g D) (ht : σ.1 1 1 = nI tl) {j : Nat} (h1 : 20 ≤ j) (h2 : j < 32) : Ct yX9_count cX9_count 2 (some .int) 2 0 0 [.ref (ad 0), .int (nI j)] ae ad sh σ (mPi ad sh (fun x σ' => x = couA g D tl (nI j) ∧ σ' = σ)) := by
  refine Ct.ofL (own := RX9) (ini := false) (ls := [some (.ref (ad 0)), some (.int (nI j))]) (by decide +kernel) rfl (fun h => by cases h) (Nat.le_of_ble_eq_true rfl) rfl ?_
  refine ev_iload_1 dX9_count_0 ?_
  refine ev_bipush_20 dX9_count_1 ?_
  refine ev_icmp_lt (tgt := 27) dX9_count_3 (by decide) (fun h3 => absurd h3 (by rw [show (20 : Int32) = nI 20 from rfl, nI_ltI (by omega) (by decide)]; omega)) (fun h3 => ?_)
  refine ev_iload_1 dX9_count_6 ?_
  refine ev_bipush_32 dX9_count_7 ?_
  refine ev_icmp_ge (tgt := 27) dX9_count_9 (by decide) (fun h9 => absurd h9 (by rw [show (32 : Int32) = nI 32 from rfl, Int32.not_le, nI_ltI (by omega) (by decide)]; omega)) (fun h9 => ?_)
  refine ev_aload_0 dX9_count_12 ?_
  refine gf_X9_47 dX9_count_13 hb.1 rfl ?_
  refine gf_X9_343 dX9_count_16 hb.2.2.2.2.2.2.1.1 rfl ?_
  refine ev_iload_1 dX9_count_19 ?_
  refine ev_bipush_20 dX9_count_20 ?_
  refine ev_isub dX9_count_22 ?_
  rw [show (20 : Int32) = nI 20 from rfl, nI_sub h1]
  refine cl_X9_134 (c_cell hb.2.2.2.2.2.2.1.2.2 (by decide)) dX9_count_23 rfl (Nat.le_of_ble_eq_true rfl) ?_
  refine ev_pi dX9_count_26 ⟨?_, rfl⟩
  have tj : (nI j).toInt = (j : Int) := nI_toInt (by omega)
  have n : ∀ z : Int32, 0 ≤ z.toInt → z.toInt ≤ 10 → ¬ nI j = z := fun z a b e => by rw [← e, tj] at b; omega
  have e : couA g D tl (nI j) = g (17 + j) := by
    unfold couA
    rw [if_neg (n 0 (by decide) (by decide)), if_neg (n 1 (by decide) (by decide)), if_neg (n 2 (by decide) (by decide)), if_neg (n 3 (by decide) (by decide)), if_neg (n 4 (by decide) (by decide)), if_neg (n 5 (by decide) (by decide)), if_neg (n 6 (by decide) (by decide)), if_neg (n 7 (by decide) (by decide)), if_neg (n 8 (by decide) (by decide)), if_neg (n 9 (by decide) (by decide)), if_neg (n 10 (by decide) (by decide)), if_pos ⟨nI_le (a := 20) h1 (by omega), nI_le (b := 31) (by omega) (by decide)⟩, nI_clamp (by omega)]
  rw [e, cellV_nI (by omega) (by omega), hP.2.1 (j - 20) (by omega)]
  congr 1
  omega
set_option maxRecDepth 100000 in
set_option maxHeartbeats 4000000 in
theorem c_countN {ae ad : Nat → Nat} {sh : mSh} {σ : mSt} {g : Nat → Int32} {D tl : Nat} (hb : mBoard ad sh) (hG : wfP g) (hW : wfL g) (hP : posR σ 20 g) (hR : ritR σ 20 g) (hL : lawR σ 5 g) (hT : trD σ 26 g D) (ht : σ.1 1 1 = nI tl) {c : Int32} (hc : c.toInt < 0 ∨ 10 < c.toInt) (h20 : ¬ (20 ≤ c ∧ c ≤ 31)) : Ct yX9_count cX9_count 2 (some .int) 2 0 0 [.ref (ad 0), .int c] ae ad sh σ (mPi ad sh (fun x σ' => x = couA g D tl c ∧ σ' = σ)) := by
  refine Ct.ofL (own := RX9) (ini := false) (ls := [some (.ref (ad 0)), some (.int c)]) (by decide +kernel) rfl (fun h => by cases h) (Nat.le_of_ble_eq_true rfl) rfl ?_
  refine ev_iload_1 dX9_count_0 ?_
  refine ev_bipush_20 dX9_count_1 ?_
  refine ev_icmp_lt (tgt := 27) dX9_count_3 (by decide) (fun h3 => ?_) (fun h3 => ?_)
  · refine ev_iload_1 dX9_count_27 ?_
    refine ev_tableOut (tgt := 182) dX9_count_28 hc (by decide) ?_
    refine ev_iconst_m1 dX9_count_182 ?_
    refine ev_pi dX9_count_183 ⟨?_, rfl⟩
    have n : ∀ z : Int32, 0 ≤ z.toInt → z.toInt ≤ 10 → ¬ c = z := fun z a b e => by rw [e] at hc; omega
    unfold couA
    rw [if_neg (n 0 (by decide) (by decide)), if_neg (n 1 (by decide) (by decide)), if_neg (n 2 (by decide) (by decide)), if_neg (n 3 (by decide) (by decide)), if_neg (n 4 (by decide) (by decide)), if_neg (n 5 (by decide) (by decide)), if_neg (n 6 (by decide) (by decide)), if_neg (n 7 (by decide) (by decide)), if_neg (n 8 (by decide) (by decide)), if_neg (n 9 (by decide) (by decide)), if_neg (n 10 (by decide) (by decide)), if_neg h20]
  · refine ev_iload_1 dX9_count_6 ?_
    refine ev_bipush_32 dX9_count_7 ?_
    refine ev_icmp_ge (tgt := 27) dX9_count_9 (by decide) (fun h9 => ?_) (fun h9 => ?_)
    · refine ev_iload_1 dX9_count_27 ?_
      refine ev_tableOut (tgt := 182) dX9_count_28 hc (by decide) ?_
      refine ev_iconst_m1 dX9_count_182 ?_
      refine ev_pi dX9_count_183 ⟨?_, rfl⟩
      have n : ∀ z : Int32, 0 ≤ z.toInt → z.toInt ≤ 10 → ¬ c = z := fun z a b e => by rw [e] at hc; omega
      unfold couA
      rw [if_neg (n 0 (by decide) (by decide)), if_neg (n 1 (by decide) (by decide)), if_neg (n 2 (by decide) (by decide)), if_neg (n 3 (by decide) (by decide)), if_neg (n 4 (by decide) (by decide)), if_neg (n 5 (by decide) (by decide)), if_neg (n 6 (by decide) (by decide)), if_neg (n 7 (by decide) (by decide)), if_neg (n 8 (by decide) (by decide)), if_neg (n 9 (by decide) (by decide)), if_neg (n 10 (by decide) (by decide)), if_neg h20]
    · exact absurd ⟨by first | exact Int32.not_lt.mp h3 | exact h3, by
        have h : c < 32 := by first | exact Int32.not_le.mp h9 | exact h9
        rw [Int32.lt_iff_toInt_lt] at h
        rw [Int32.le_iff_toInt_le]
        have e1 : (32 : Int32).toInt = 32 := by decide
        have e2 : (31 : Int32).toInt = 31 := by decide
        omega⟩ h20
theorem c_count {ae ad : Nat → Nat} {sh : mSh} {σ : mSt} {g : Nat → Int32} {D tl : Nat} (hb : mBoard ad sh) (hG : wfP g) (hW : wfL g) (hP : posR σ 20 g) (hR : ritR σ 20 g) (hL : lawR σ 5 g) (hT : trD σ 26 g D) (ht : σ.1 1 1 = nI tl) {c : Int32} : Ct yX9_count cX9_count 2 (some .int) 2 0 0 [.ref (ad 0), .int c] ae ad sh σ (mPi ad sh (fun x σ' => x = couA g D tl c ∧ σ' = σ)) := by
  by_cases h20 : 20 ≤ c ∧ c ≤ 31
  · have a1 := Int32.le_iff_toInt_le.mp h20.1
    have a2 := Int32.le_iff_toInt_le.mp h20.2
    have e1 : (20 : Int32).toInt = 20 := by decide
    have e2 : (31 : Int32).toInt = 31 := by decide
    obtain ⟨j, hj, e⟩ := tab_in (n := 31) (c := c) (by decide) (by omega)
    subst e
    have e3 : (nI j).toInt = (j : Int) := nI_toInt (by omega)
    exact c_countH hb hG hW hP hR hL hT ht (by omega) (by omega)
  · by_cases hc : c.toInt < 0 ∨ 10 < c.toInt
    · exact c_countN hb hG hW hP hR hL hT ht hc h20
    · obtain ⟨k, hk, e⟩ := tab_in (n := 10) (by decide) hc
      subst e
      rcases (show k = 0 ∨ k = 1 ∨ k = 2 ∨ k = 3 ∨ k = 4 ∨ k = 5 ∨ k = 6 ∨ k = 7 ∨ k = 8 ∨ k = 9 ∨ k = 10 by omega) with e | e | e | e | e | e | e | e | e | e | e <;> subst e
      · exact c_count0 hb hG hW hP hR hL hT ht
      · exact c_count1 hb hG hW hP hR hL hT ht
      · exact c_count2 hb hG hW hP hR hL hT ht
      · exact c_count3 hb hG hW hP hR hL hT ht
      · exact c_count4 hb hG hW hP hR hL hT ht
      · exact c_count5 hb hG hW hP hR hL hT ht
      · exact c_count6 hb hG hW hP hR hL hT ht
      · exact c_count7 hb hG hW hP hR hL hT ht
      · exact c_count8 hb hG hW hP hR hL hT ht
      · exact c_count9 hb hG hW hP hR hL hT ht
      · exact c_count10 hb hG hW hP hR hL hT ht
