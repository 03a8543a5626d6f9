def X5G (g : Nat → Int32) (m : Nat) : Int32 := nI (rmN g) &&& (maskF (tchB g m) 4 ^^^ (-1))
def unG (g : Nat → Int32) (m : Nat) : Nat := goerN g m + 16 * capN g m + 256 * (if gainB g m then 1 else 0) + 512 * rmN g
theorem bt_mask (c : Nat → Bool) : ∀ n, n ≤ 31 → ∀ k, k < 32 → bt (maskF c n) k = (decide (k < n) && c k) := by
  intro n
  induction n with
  | zero => intro _ k _; simp [maskF, b_0]
  | succ n ih =>
    intro hn k hk
    have e1 : bt ((1 : Int32) <<< (nI n &&& 31)) k = decide (k = n) := by
      rw [b_shl n (by omega) _ hk]
      have h1 : ∀ i, i < 32 → bt (1 : Int32) i = decide (i = 0) := by decide +kernel
      rw [h1 (k - n) (by omega)]
      by_cases h : k = n
      · subst h; simp
      · simp [h]; omega
    rw [maskF]
    by_cases h : c n = true
    · rw [if_pos h, b_or, ih (by omega) k hk, e1]
      by_cases e : k = n
      · subst e; simp [h]
      · have e2 : decide (k < n + 1) = decide (k < n) := decide_eq_decide.mpr (by omega)
        rw [e2]; simp [e]
    · rw [if_neg h, ih (by omega) k hk]
      by_cases e : k = n
      · subst e; simp [h]
      · have e2 : decide (k < n + 1) = decide (k < n) := decide_eq_decide.mpr (by omega)
        rw [e2]
theorem rm_bt {g : Nat → Int32} (hG : wfP g) {k : Nat} (hk : k < 32) : bt (nI (rmN g)) k = decide (k < 4 ∧ riN g k = 1) := by
  have r0 := (hG.2.2.2.2.1 0 (by decide)).2
  have r1 := (hG.2.2.2.2.1 1 (by decide)).2
  have r2 := (hG.2.2.2.2.1 2 (by decide)).2
  have r3 := (hG.2.2.2.2.1 3 (by decide)).2
  rw [rmN, rm_bits _ r0 _ r1 _ r2 _ r3 k hk, decide_eq_decide]
  constructor
  · rintro (⟨rfl, h⟩ | ⟨rfl, h⟩ | ⟨rfl, h⟩ | ⟨rfl, h⟩) <;> exact ⟨by decide, h⟩
  · rintro ⟨h1, h2⟩
    rcases (show k = 0 ∨ k = 1 ∨ k = 2 ∨ k = 3 by omega) with rfl | rfl | rfl | rfl <;> simp [h2]
theorem rm_le {g : Nat → Int32} (hG : wfP g) : rmN g ≤ 15 := by
  have r0 := (hG.2.2.2.2.1 0 (by decide)).2
  have r1 := (hG.2.2.2.2.1 1 (by decide)).2
  have r2 := (hG.2.2.2.2.1 2 (by decide)).2
  have r3 := (hG.2.2.2.2.1 3 (by decide)).2
  unfold rmN; omega
theorem X5_bt {g : Nat → Int32} (hG : wfP g) (m : Nat) {k : Nat} (hk : k < 32) : bt (X5G g m) k = decide (k < 4 ∧ riP g m k = 1) := by
  unfold X5G riP
  rw [b_and, b_xor, b_m1 k hk, rm_bt hG hk, bt_mask _ 4 (by decide) k hk]
  by_cases h4 : k < 4
  · cases h : tchB g m k <;> simp [h4]
  · simp [h4]
theorem posR.rt {σ : mSt} {p : Nat} {g : Nat → Int32} {x : Int32} (hP : posR σ p g) : posR (mu σ.1 p 5 x, σ.2) p g := by
  obtain ⟨h1, h2, h3, h4, h5, h6, h7, h8⟩ := hP
  refine ⟨fun q hq => ?_, fun i hi => ?_, ?_, ?_, ?_, h6, h7, h8⟩
  · dsimp only; rw [mu_ne _ (by omega)]; exact h1 q hq
  · dsimp only; rw [mu_ne _ (by omega)]; exact h2 i hi
  · simpa [mu, upd] using h3
  · simpa [mu, upd] using h4
  · simpa [mu, upd] using h5
theorem posQ.cong {σ : mSt} {p : Nat} {M Hd M' Hd' : Nat → Nat} {C R T RI : Int32} (h : posQ σ p M Hd C R T RI) (e1 : M = M') (e2 : Hd = Hd') : posQ σ p M' Hd' C R T RI := e1 ▸ e2 ▸ h
theorem or_shl {a b k : Nat} (ha : a < 2 ^ k) (hk : k < 32) : nI a ||| nI b <<< (nI k &&& 31) = nI (a + b * 2 ^ k) := by
  rw [nI_shl b hk, Int32.or_comm, Nat.mul_comm b, fa_or_sum b ha, Nat.add_comm]
theorem two_Q {σ : mSt} {p : Nat} {g : Nat → Int32} {k f t : Nat} {M Hd : Nat → Nat} {C R T RI : Int32} (hW : wfL g) (hQ : posQ σ p M Hd C R T RI) (hk : k < 4) (hf : f ≤ 1) (ht : t ≤ 1) : posQ (two σ p g k f t M) p (updN (updN (updN (updN M (caN g k (2 + f)) 0) (caN g k (4 + f)) 0) (caN g k (2 + t)) (M (caN g k (2 + f)))) (caN g k (4 + t)) (M (caN g k (4 + f)))) Hd C R T RI := by
  have a1 := ca_lt hW hk (show 1 ≤ 2 + f by omega) (by omega)
  have a2 := ca_lt hW hk (show 1 ≤ 4 + f by omega) (by omega)
  have a3 := ca_lt hW hk (show 1 ≤ 2 + t by omega) (by omega)
  have a4 := ca_lt hW hk (show 1 ≤ 4 + t by omega) (by omega)
  exact (((hQ.put a1 (Nat.zero_le _)).put a2 (Nat.zero_le _)).put a3 (hQ.1 _ a1).2).put a4 (hQ.1 _ a2).2
theorem two_fr {σ : mSt} {p : Nat} {g : Nat → Int32} {k f t : Nat} {M : Nat → Nat} : frP σ (two σ p g k f t M) p := ((frP.put.tr frP.put).tr frP.put).tr frP.put
theorem gain_f {g : Nat → Int32} {m : Nat} (h : ¬ mK m = 0) : gainB g m = false := by unfold gainB capN; simp [h]
theorem sq_cast {g : Nat → Int32} {m : Nat} (h : mK m = 1) : updN (updN (updN (updN (mN g) (caN g (mA m) (2 + 0)) 0) (caN g (mA m) (4 + 0)) 0) (caN g (mA m) (2 + 1)) (mN g (caN g (mA m) (2 + 0)))) (caN g (mA m) (4 + 1)) (mN g (caN g (mA m) (4 + 0))) = sqP g m := by
  funext q
  simp [sqP, h, updN]
theorem hd_cast {g : Nat → Int32} {m : Nat} (h : mK m = 1) : hN g = hdP g m := by
  funext i
  simp [hdP, h, gain_f (g := g) (m := m) (by omega)]

set_option maxRecDepth 100000 in
set_option maxHeartbeats 4000000 in
theorem c_apply_171 {ae ad : Nat → Nat} {sh : mSh} {σ : mSt} {y0 l p : Nat} {g : Nat → Int32} (hy : mPlay ad sh y0 l) (hp : mPos ad sh p) (hs : sepL l p) (hG : wfP g) (hW : wfL g) (hP : posR σ p g) (hR : ritR σ p g) (hL : lawR σ l g) {m : Nat} (hm : mvOk g m) {σ2 : mSt} (hQ : posQ σ2 p (sqP g m) (hdP g m) (g 53) (g 54) (g 0) (X5G g m)) (hF : frP σ σ2 p) : Ev RX5 cX5_apply 9 false (some .int) (mRm 4 0 0) ae (mPi ad sh (fun r σ' => r = nI (unG g m) ∧ posQ σ' p (sqP g m) (hdP g m) (g 53) (g 54) (nI (1 - tuN g)) (X5G g m) ∧ frP σ σ' p)) 171 [some (.ref (ad y0)), some (.ref (ad p)), some (.int (nI m)), some (.int (nI (tuN g))), some (.int (nI (rmN g))), some (.int (nI (goerN g m))), some (.int (nI (capN g m))), some (.int (nI (if gainB g m then 1 else 0))), none] [] 0 0 ad sh σ2 := by
  have g1 := goer_le hG hW hm
  have g2 := cap_le hG hm
  have g3 := rm_le hG
  refine ev_aload_1 dX5_apply_171 ?_
  refine ev_iconst_1 dX5_apply_172 ?_
  refine ev_iload_3 dX5_apply_173 ?_
  refine ev_isub dX5_apply_174 ?_
  rw [lI1, nI_sub (tu_le hG)]
  refine pf_X5_131 dX5_apply_175 hp.1 rfl ?_
  refine ev_iload_5 dX5_apply_178 ?_
  refine ev_iload_6 dX5_apply_180 ?_
  refine ev_iconst_4 dX5_apply_182 ?_
  refine ev_ishl dX5_apply_183 ?_
  refine ev_ior dX5_apply_184 ?_
  refine ev_iload_7 dX5_apply_185 ?_
  refine ev_bipush_8 dX5_apply_187 ?_
  refine ev_ishl dX5_apply_189 ?_
  refine ev_ior dX5_apply_190 ?_
  refine ev_iload_4 dX5_apply_191 ?_
  refine ev_bipush_9 dX5_apply_193 ?_
  refine ev_ishl dX5_apply_195 ?_
  refine ev_ior dX5_apply_196 ?_
  exact ev_pi dX5_apply_197 ⟨by rw [show (4 : Int32) = nI 4 from rfl, show (8 : Int32) = nI 8 from rfl, show (9 : Int32) = nI 9 from rfl, or_shl (by omega) (by decide), or_shl (by omega) (by decide), or_shl (by split <;> omega) (by decide)]; exact congrArg nI (by unfold unG; split <;> omega), hQ.turn, hF.tr frP.fld⟩
theorem sq_man {g : Nat → Int32} {m : Nat} (h : mK m = 0) : updN (updN (mN g) (mA m) 0) (mB m) (arrN g m) = sqP g m := by
  funext q
  simp [sqP, h, updN]
theorem sq_drop {g : Nat → Int32} {m : Nat} (h : mK m = 2) : updN (mN g) (mB m) (goerN g m) = sqP g m := by
  funext q
  simp [sqP, h, updN]
theorem hd_drop {g : Nat → Int32} {m : Nat} (h : mK m = 2) : updN (hN g) (6 * tuN g + mA m) (hN g (6 * tuN g + mA m) - 1) = hdP g m := by
  funext i
  simp [hdP, h, gain_f (g := g) (m := m) (by omega), updN]
  split <;> simp_all
theorem hd_no {g : Nat → Int32} {m : Nat} (h : mK m = 0) (h2 : gainB g m = false) : hN g = hdP g m := by
  funext i
  unfold hdP
  rw [if_neg (fun q => by rw [h2] at q; exact absurd q.1 (by decide)), if_neg (by omega)]
theorem hd_yes {g : Nat → Int32} {m : Nat} (h : mK m = 0) (h2 : gainB g m = true) : updN (hN g) (6 * tuN g + tyN (capN g m)) (hN g (6 * tuN g + tyN (capN g m)) + 1) = hdP g m := by
  funext i
  unfold hdP updN
  by_cases hg : i = 6 * tuN g + tyN (capN g m)
  · rw [if_pos hg, if_pos ⟨h2, hg⟩, hg]
  · rw [if_neg hg, if_neg (fun q => hg q.2), if_neg (by omega)]
theorem nI_m1 {n : Nat} (h : 1 ≤ n) : nI n + -1 = nI (n - 1) := by
  have e : n = (n - 1) + 1 := by omega
  rw [e, Nat.add_sub_cancel, ← Int32.sub_eq_add_neg]
  exact nI_pred (n - 1)
theorem arr_le {g : Nat → Int32} (hG : wfP g) (hW : wfL g) {m : Nat} (hm : mvOk g m) : arrN g m ≤ 12 := by
  obtain ⟨g1, g2⟩ := goer_le hG hW hm
  have ht := tyN_lt g1 g2
  have := (hW.2.2.2.1 _ ht).2
  have hs : sdN (goerN g m) ≤ 1 := by unfold sdN; split <;> decide
  unfold arrN
  split
  · unfold proN; omega
  · exact g2
set_option maxRecDepth 100000 in
set_option maxHeartbeats 4000000 in
theorem c_apply {ae ad : Nat → Nat} {sh : mSh} {σ : mSt} {y0 l p : Nat} {g : Nat → Int32} (hy : mPlay ad sh y0 l) (hp : mPos ad sh p) (hs : sepL l p) (hG : wfP g) (hW : wfL g) (hP : posR σ p g) (hR : ritR σ p g) (hL : lawR σ l g) {m : Nat} (hm : mvOk g m) : Ct yX5_apply cX5_apply 9 (some .int) 4 0 0 [.ref (ad y0), .ref (ad p), .int (nI m)] ae ad sh σ (mPi ad sh (fun r σ' => r = nI (unG g m) ∧ posQ σ' p (sqP g m) (hdP g m) (g 53) (g 54) (nI (1 - tuN g)) (X5G g m) ∧ frP σ σ' p)) := by
  refine Ct.ofL (own := RX5) (ini := false) (ls := [some (.ref (ad y0)), some (.ref (ad p)), some (.int (nI m)), none, none, none, none, none, none]) (by decide +kernel) rfl (fun h => by cases h) (Nat.le_of_ble_eq_true rfl) rfl ?_
  have hlt := mvOk_lt hm
  have g1 := goer_le hG hW hm
  have g2 := cap_le hG hm
  have g3 := rm_le hG
  refine ev_aload_1 dX5_apply_0 ?_
  refine gf_X5_131 dX5_apply_1 hp.1 rfl ?_
  rw [hP.turn hG]
  refine ev_istore_3 dX5_apply_4 rfl rfl ?_
  refine ev_aload_1 dX5_apply_5 ?_
  refine gf_X5_155 dX5_apply_6 hp.1 rfl ?_
  rw [(hP.Q hG hR).2.2.2.2.2.1]
  refine ev_istore_4 dX5_apply_9 rfl rfl ?_
  refine ev_aload_0 dX5_apply_11 ?_
  refine ev_aload_1 dX5_apply_12 ?_
  refine ev_iload_2 dX5_apply_13 ?_
  refine cl_X5_137 (c_goer hy hp hG hW hP hL hm) hy.1 dX5_apply_14 rfl (Nat.le_of_ble_eq_true rfl) ?_
  refine ev_istore_5 dX5_apply_17 rfl rfl ?_
  refine ev_aload_0 dX5_apply_19 ?_
  refine ev_aload_1 dX5_apply_20 ?_
  refine ev_iload_2 dX5_apply_21 ?_
  refine cl_X5_158 (c_captured hy hp hG hW hP hL hm) hy.1 dX5_apply_22 rfl (Nat.le_of_ble_eq_true rfl) ?_
  refine ev_istore_6 dX5_apply_25 rfl rfl ?_
  refine ev_iconst_0 dX5_apply_27 ?_
  refine ev_istore_7 dX5_apply_28 rfl rfl ?_
  refine ev_aload_1 dX5_apply_30 ?_
  refine ev_dup dX5_apply_31 rfl ?_
  refine gf_X5_155 dX5_apply_32 hp.1 rfl ?_
  rw [(hP.Q hG hR).2.2.2.2.2.1]
  refine ev_aload_0 dX5_apply_35 ?_
  refine ev_iload_2 dX5_apply_36 ?_
  refine cl_X5_161 (c_rights hy hG hW hL hm) hy.1 dX5_apply_37 rfl (Nat.le_of_ble_eq_true rfl) ?_
  refine ev_iconst_m1 dX5_apply_40 ?_
  refine ev_ixor dX5_apply_41 ?_
  refine ev_iand dX5_apply_42 ?_
  refine pf_X5_155 dX5_apply_43 hp.1 rfl ?_
  obtain ⟨σ1, e1⟩ : ∃ s : mSt, s = (mu σ.1 p 5 (nI (rmN g) &&& (maskF (tchB g m) 4 ^^^ -1)), σ.2) := ⟨_, rfl⟩
  rw [← e1]
  have Q1 : posQ σ1 p (mN g) (hN g) (g 53) (g 54) (g 0) (X5G g m) := by rw [e1]; exact (hP.Q hG hR).rights
  have P1 : posR σ1 p g := by rw [e1]; exact hP.rt
  have F1 : frP σ σ1 p := by rw [e1]; exact frP.fld
  have L1 : lawR σ1 l g := hL.fr F1 hs
  refine ev_iload_2 dX5_apply_46 ?_
  refine cl_X5_121 c_kindOf dX5_apply_47 rfl (Nat.le_of_ble_eq_true rfl) ?_
  rw [kiR_nI (by omega)]
  refine ev_iconst_1 dX5_apply_50 ?_
  refine ev_icmp_ne (tgt := 68) dX5_apply_51 (by decide) (fun h51 => ?_) (fun h51 => ?_)
  · refine ev_iload_2 dX5_apply_68 ?_
    refine cl_X5_121 c_kindOf dX5_apply_69 rfl (Nat.le_of_ble_eq_true rfl) ?_
    rw [kiR_nI (by omega)]
    refine ev_if_ne (tgt := 150) dX5_apply_72 (by decide) (fun h72 => ?_) (fun h72 => ?_)
    · have k0 : ¬ mK m = 0 := fun q => h72 (by rw [q]; rfl)
      have k1 : ¬ mK m = 1 := fun q => h51 (by rw [q]; rfl)
      have hk2 : mK m = 2 := by have := mK_le hm; omega
      have gf := gain_f (g := g) (m := m) (by omega)
      have hb := sq_lt hG hm (by omega)
      have ht6 : mA m < 6 ∧ 1 ≤ hN g (6 * tuN g + mA m) := ⟨(mv2 hm hk2).1, (mv2 hm hk2).2.2.2⟩
      have hgo : goerN g m = 1 + mA m + 6 * tuN g := by unfold goerN; rw [if_neg (by omega), if_neg (by omega)]
      have hty : tyN (goerN g m) = mA m := by rw [hgo]; unfold tyN; split <;> omega
      refine ev_aload_1 dX5_apply_150 ?_
      refine ev_iload_2 dX5_apply_151 ?_
      refine cl_X5_148 c_secondOf dX5_apply_152 rfl (Nat.le_of_ble_eq_true rfl) ?_
      rw [seR_nI]
      refine ev_iload_5 dX5_apply_155 ?_
      refine cl_X5_171 (c_put hp) hp.1 dX5_apply_157 rfl (Nat.le_of_ble_eq_true rfl) ?_
      refine ev_aload_1 dX5_apply_160 ?_
      refine ev_iload_3 dX5_apply_161 ?_
      refine ev_iload_5 dX5_apply_162 ?_
      refine cl_X5_47 c_typeOf dX5_apply_164 rfl (Nat.le_of_ble_eq_true rfl) ?_
      rw [tyR_nI g1.1 (by omega), hty]
      refine ev_iconst_m1 dX5_apply_167 ?_
      refine cl_X5_181 (c_addToHand hp) hp.1 dX5_apply_168 rfl (Nat.le_of_ble_eq_true rfl) ?_
      refine ev_drop_8 ?_
      first
        | (have k1 := hk1
           exact Ev.to (by rw [gf]; rfl) rfl rfl (c_apply_171 hy hp hs hG hW hP hR hL hm ((two_Q hW Q1 h4 (by decide) (by decide)).cong (sq_cast k1) (hd_cast k1)) (F1.tr two_fr)))
        | (have gz : gainB g m = false := by unfold gainB; simp [(nI_eq (b := 0) (a := capN g m) (by omega) (by decide)).mp h104]
           exact Ev.to (by rw [gz]; rfl) rfl rfl (c_apply_171 hy hp hs hG hW hP hR hL hm (Q3.cong rfl (hd_no hk gz)) F3))
        | (have gz : gainB g m = false := by unfold gainB; simp [show ¬ clN g 55 = 1 from fun q => h115 (by rw [q]; rfl)]
           exact Ev.to (by rw [gz]; rfl) rfl rfl (c_apply_171 hy hp hs hG hW hP hR hL hm (Q3.cong rfl (hd_no hk gz)) F3))
        | (have h9 : ¬ hN g (6 * tuN g + tyN (capN g m)) < 9 := fun q => absurd ((nI_leI (a := 9) (by decide) (by omega)).mp h130) (by omega)
           have gz : gainB g m = false := by unfold gainB; simp [h9]
           exact Ev.to (by rw [gz]; rfl) rfl rfl (c_apply_171 hy hp hs hG hW hP hR hL hm (Q3.cong rfl (hd_no hk gz)) F3))
        | (have h8 : hN g (6 * tuN g + tyN (capN g m)) < 9 := Nat.lt_of_not_le (fun q => h130 (nI_le (a := 9) q (by omega)))
           have gt : gainB g m = true := by unfold gainB; simp [hc0, hd1, h8]
           refine Ev.to (by rw [gt]; rfl) rfl ?_ (c_apply_171 hy hp hs hG hW hP hR hL hm ((Q3.hand (n := hN g (6 * tuN g + tyN (capN g m)) + 1) hidx).cong rfl (hd_yes hk gt)) (F3.tr frP.hnd))
           rw [hnd, lI6, nI_mul, nI_add, show tuN g * 6 + tyN (capN g m) = 6 * tuN g + tyN (capN g m) by omega, nI_1, setV_nI (by omega) hidx])
        | (have k2 := hk2
           refine Ev.to (by rw [gf]; rfl) rfl ?_ (c_apply_171 hy hp hs hG hW hP hR hL hm (((Q1.put hb g1.2).hand (i := 6 * tuN g + mA m) (n := hN g (6 * tuN g + mA m) - 1) (by have := tu_le hG; omega)).cong (sq_drop k2) (hd_drop k2)) ((F1.tr frP.put).tr frP.hnd))
           have hi12 : 6 * tuN g + mA m < 12 := by have := tu_le hG; omega
           rw [lI6, nI_mul, nI_add, show tuN g * 6 + mA m = 6 * tuN g + mA m by omega, setV_nI (by omega) hi12, cellV_nI (by omega) hi12, ((Q1.put hb g1.2).2.1 _ hi12), show (nI (hN g (6 * tuN g + mA m)) + -1 : Int32) = nI (hN g (6 * tuN g + mA m) - 1) from nI_m1 ht6.2])
    · have hk : mK m = 0 := (nI_eq (b := 0) (by unfold mK; omega) (by decide)).mp (by first | exact h72 | exact Decidable.not_not.mp h72)
      have hb := sq_lt hG hm (by omega)
      have ha := sa_lt hG hm hk
      have harr : arrN g m ≤ 12 := arr_le hG hW hm
      refine ev_aload_0 dX5_apply_75 ?_
      refine ev_aload_1 dX5_apply_76 ?_
      refine ev_iload_2 dX5_apply_77 ?_
      refine cl_X5_168 (c_arrival hy hp hG hW P1 L1 hm) hy.1 dX5_apply_78 rfl (Nat.le_of_ble_eq_true rfl) ?_
      refine ev_istore_8 dX5_apply_81 rfl rfl ?_
      refine ev_aload_1 dX5_apply_83 ?_
      refine ev_iload_2 dX5_apply_84 ?_
      refine cl_X5_124 c_firstOf dX5_apply_85 rfl (Nat.le_of_ble_eq_true rfl) ?_
      rw [fiR_nI (by omega)]
      refine ev_iconst_0 dX5_apply_88 ?_
      refine cl_X5_171 (c_put hp) hp.1 dX5_apply_89 rfl (Nat.le_of_ble_eq_true rfl) ?_
      skip
      refine ev_aload_1 dX5_apply_92 ?_
      refine ev_iload_2 dX5_apply_93 ?_
      refine cl_X5_148 c_secondOf dX5_apply_94 rfl (Nat.le_of_ble_eq_true rfl) ?_
      rw [seR_nI]
      refine ev_iload_8 dX5_apply_97 ?_
      refine cl_X5_171 (c_put hp) hp.1 dX5_apply_99 rfl (Nat.le_of_ble_eq_true rfl) ?_
      obtain ⟨σ3, e3⟩ : ∃ s : mSt, s = putS (putS σ1 p (nI (mA m)) 0) p (nI (mB m)) (nI (arrN g m)) := ⟨_, rfl⟩
      rw [← e3]
      have Q3 : posQ σ3 p (sqP g m) (hN g) (g 53) (g 54) (g 0) (X5G g m) := by rw [e3]; exact ((Q1.put ha (Nat.zero_le _)).put hb harr).cong (sq_man hk) rfl
      have F3 : frP σ σ3 p := by rw [e3]; exact (F1.tr frP.put).tr frP.put
      have L3 := hL.fr F3 hs
      refine ev_iload_6 dX5_apply_102 ?_
      refine ev_if_eq (tgt := 147) dX5_apply_104 (by decide) (fun h104 => ?_) (fun h104 => ?_)
      · refine ev_goto (tgt := 171) dX5_apply_147 (by decide) ?_
        refine ev_drop_8 ?_
        first
          | (have k1 := hk1
             exact Ev.to (by rw [gf]; rfl) rfl rfl (c_apply_171 hy hp hs hG hW hP hR hL hm ((two_Q hW Q1 h4 (by decide) (by decide)).cong (sq_cast k1) (hd_cast k1)) (F1.tr two_fr)))
          | (have gz : gainB g m = false := by unfold gainB; simp [(nI_eq (b := 0) (a := capN g m) (by omega) (by decide)).mp h104]
             exact Ev.to (by rw [gz]; rfl) rfl rfl (c_apply_171 hy hp hs hG hW hP hR hL hm (Q3.cong rfl (hd_no hk gz)) F3))
          | (have gz : gainB g m = false := by unfold gainB; simp [show ¬ clN g 55 = 1 from fun q => h115 (by rw [q]; rfl)]
             exact Ev.to (by rw [gz]; rfl) rfl rfl (c_apply_171 hy hp hs hG hW hP hR hL hm (Q3.cong rfl (hd_no hk gz)) F3))
          | (have h9 : ¬ hN g (6 * tuN g + tyN (capN g m)) < 9 := fun q => absurd ((nI_leI (a := 9) (by decide) (by omega)).mp h130) (by omega)
             have gz : gainB g m = false := by unfold gainB; simp [h9]
             exact Ev.to (by rw [gz]; rfl) rfl rfl (c_apply_171 hy hp hs hG hW hP hR hL hm (Q3.cong rfl (hd_no hk gz)) F3))
          | (have h8 : hN g (6 * tuN g + tyN (capN g m)) < 9 := Nat.lt_of_not_le (fun q => h130 (nI_le (a := 9) q (by omega)))
             have gt : gainB g m = true := by unfold gainB; simp [hc0, hd1, h8]
             refine Ev.to (by rw [gt]; rfl) rfl ?_ (c_apply_171 hy hp hs hG hW hP hR hL hm ((Q3.hand (n := hN g (6 * tuN g + tyN (capN g m)) + 1) hidx).cong rfl (hd_yes hk gt)) (F3.tr frP.hnd))
             rw [hnd, lI6, nI_mul, nI_add, show tuN g * 6 + tyN (capN g m) = 6 * tuN g + tyN (capN g m) by omega, nI_1, setV_nI (by omega) hidx])
          | (have k2 := hk2
             refine Ev.to (by rw [gf]; rfl) rfl ?_ (c_apply_171 hy hp hs hG hW hP hR hL hm (((Q1.put hb g1.2).hand (i := 6 * tuN g + mA m) (n := hN g (6 * tuN g + mA m) - 1) (by have := tu_le hG; omega)).cong (sq_drop k2) (hd_drop k2)) ((F1.tr frP.put).tr frP.hnd))
             have hi12 : 6 * tuN g + mA m < 12 := by have := tu_le hG; omega
             rw [lI6, nI_mul, nI_add, show tuN g * 6 + mA m = 6 * tuN g + mA m by omega, setV_nI (by omega) hi12, cellV_nI (by omega) hi12, ((Q1.put hb g1.2).2.1 _ hi12), show (nI (hN g (6 * tuN g + mA m)) + -1 : Int32) = nI (hN g (6 * tuN g + mA m) - 1) from nI_m1 ht6.2])
      · have hc0 : ¬ capN g m = 0 := fun q => h104 (by rw [q]; rfl)
        have hc1 : 1 ≤ capN g m := Nat.pos_of_ne_zero hc0
        have hct := tyN_lt hc1 g2
        have hidx : 6 * tuN g + tyN (capN g m) < 12 := by have := tu_le hG; omega
        have hnd : cellV (σ3.1 (p + 2)) 12 (nI (tuN g) * 6 + nI (tyN (capN g m))) = nI (hN g (6 * tuN g + tyN (capN g m))) := by
          rw [lI6, nI_mul, nI_add, show tuN g * 6 + tyN (capN g m) = 6 * tuN g + tyN (capN g m) by omega, cellV_nI (by omega) hidx, Q3.2.1 _ hidx]
        have hh9 : hN g (6 * tuN g + tyN (capN g m)) ≤ 9 := (hG.2.2.2.1 _ hidx).2
        refine ev_aload_0 dX5_apply_107 ?_
        refine gf_X5_9 dX5_apply_108 hy.1 rfl ?_
        refine gf_X5_175 dX5_apply_111 hy.2.1 rfl ?_
        rw [(L3.2.2.2.2.2.2.2.2.1).trans hW.1.1]
        refine ev_iconst_1 dX5_apply_114 ?_
        refine ev_icmp_ne (tgt := 147) dX5_apply_115 (by decide) (fun h115 => ?_) (fun h115 => ?_)
        · refine ev_goto (tgt := 171) dX5_apply_147 (by decide) ?_
          refine ev_drop_8 ?_
          first
            | (have k1 := hk1
               exact Ev.to (by rw [gf]; rfl) rfl rfl (c_apply_171 hy hp hs hG hW hP hR hL hm ((two_Q hW Q1 h4 (by decide) (by decide)).cong (sq_cast k1) (hd_cast k1)) (F1.tr two_fr)))
            | (have gz : gainB g m = false := by unfold gainB; simp [(nI_eq (b := 0) (a := capN g m) (by omega) (by decide)).mp h104]
               exact Ev.to (by rw [gz]; rfl) rfl rfl (c_apply_171 hy hp hs hG hW hP hR hL hm (Q3.cong rfl (hd_no hk gz)) F3))
            | (have gz : gainB g m = false := by unfold gainB; simp [show ¬ clN g 55 = 1 from fun q => h115 (by rw [q]; rfl)]
               exact Ev.to (by rw [gz]; rfl) rfl rfl (c_apply_171 hy hp hs hG hW hP hR hL hm (Q3.cong rfl (hd_no hk gz)) F3))
            | (have h9 : ¬ hN g (6 * tuN g + tyN (capN g m)) < 9 := fun q => absurd ((nI_leI (a := 9) (by decide) (by omega)).mp h130) (by omega)
               have gz : gainB g m = false := by unfold gainB; simp [h9]
               exact Ev.to (by rw [gz]; rfl) rfl rfl (c_apply_171 hy hp hs hG hW hP hR hL hm (Q3.cong rfl (hd_no hk gz)) F3))
            | (have h8 : hN g (6 * tuN g + tyN (capN g m)) < 9 := Nat.lt_of_not_le (fun q => h130 (nI_le (a := 9) q (by omega)))
               have gt : gainB g m = true := by unfold gainB; simp [hc0, hd1, h8]
               refine Ev.to (by rw [gt]; rfl) rfl ?_ (c_apply_171 hy hp hs hG hW hP hR hL hm ((Q3.hand (n := hN g (6 * tuN g + tyN (capN g m)) + 1) hidx).cong rfl (hd_yes hk gt)) (F3.tr frP.hnd))
               rw [hnd, lI6, nI_mul, nI_add, show tuN g * 6 + tyN (capN g m) = 6 * tuN g + tyN (capN g m) by omega, nI_1, setV_nI (by omega) hidx])
            | (have k2 := hk2
               refine Ev.to (by rw [gf]; rfl) rfl ?_ (c_apply_171 hy hp hs hG hW hP hR hL hm (((Q1.put hb g1.2).hand (i := 6 * tuN g + mA m) (n := hN g (6 * tuN g + mA m) - 1) (by have := tu_le hG; omega)).cong (sq_drop k2) (hd_drop k2)) ((F1.tr frP.put).tr frP.hnd))
               have hi12 : 6 * tuN g + mA m < 12 := by have := tu_le hG; omega
               rw [lI6, nI_mul, nI_add, show tuN g * 6 + mA m = 6 * tuN g + mA m by omega, setV_nI (by omega) hi12, cellV_nI (by omega) hi12, ((Q1.put hb g1.2).2.1 _ hi12), show (nI (hN g (6 * tuN g + mA m)) + -1 : Int32) = nI (hN g (6 * tuN g + mA m) - 1) from nI_m1 ht6.2])
        · have hd1 : clN g 55 = 1 := (nI_eq (b := 1) (by have := hW.1.2; omega) (by decide)).mp (by first | exact h115 | exact Decidable.not_not.mp h115)
          refine ev_aload_1 dX5_apply_118 ?_
          refine ev_iload_3 dX5_apply_119 ?_
          refine ev_iload_6 dX5_apply_120 ?_
          refine cl_X5_47 c_typeOf dX5_apply_122 rfl (Nat.le_of_ble_eq_true rfl) ?_
          rw [tyR_nI hc1 (by omega)]
          refine cl_X5_178 (c_inHand hp) hp.1 dX5_apply_125 rfl (Nat.le_of_ble_eq_true rfl) ?_
          rw [hnd]
          refine ev_bipush_9 dX5_apply_128 ?_
          refine ev_icmp_ge (tgt := 147) dX5_apply_130 (by decide) (fun h130 => ?_) (fun h130 => ?_)
          · refine ev_goto (tgt := 171) dX5_apply_147 (by decide) ?_
            refine ev_drop_8 ?_
            first
              | (have k1 := hk1
                 exact Ev.to (by rw [gf]; rfl) rfl rfl (c_apply_171 hy hp hs hG hW hP hR hL hm ((two_Q hW Q1 h4 (by decide) (by decide)).cong (sq_cast k1) (hd_cast k1)) (F1.tr two_fr)))
              | (have gz : gainB g m = false := by unfold gainB; simp [(nI_eq (b := 0) (a := capN g m) (by omega) (by decide)).mp h104]
                 exact Ev.to (by rw [gz]; rfl) rfl rfl (c_apply_171 hy hp hs hG hW hP hR hL hm (Q3.cong rfl (hd_no hk gz)) F3))
              | (have gz : gainB g m = false := by unfold gainB; simp [show ¬ clN g 55 = 1 from fun q => h115 (by rw [q]; rfl)]
                 exact Ev.to (by rw [gz]; rfl) rfl rfl (c_apply_171 hy hp hs hG hW hP hR hL hm (Q3.cong rfl (hd_no hk gz)) F3))
              | (have h9 : ¬ hN g (6 * tuN g + tyN (capN g m)) < 9 := fun q => absurd ((nI_leI (a := 9) (by decide) (by omega)).mp h130) (by omega)
                 have gz : gainB g m = false := by unfold gainB; simp [h9]
                 exact Ev.to (by rw [gz]; rfl) rfl rfl (c_apply_171 hy hp hs hG hW hP hR hL hm (Q3.cong rfl (hd_no hk gz)) F3))
              | (have h8 : hN g (6 * tuN g + tyN (capN g m)) < 9 := Nat.lt_of_not_le (fun q => h130 (nI_le (a := 9) q (by omega)))
                 have gt : gainB g m = true := by unfold gainB; simp [hc0, hd1, h8]
                 refine Ev.to (by rw [gt]; rfl) rfl ?_ (c_apply_171 hy hp hs hG hW hP hR hL hm ((Q3.hand (n := hN g (6 * tuN g + tyN (capN g m)) + 1) hidx).cong rfl (hd_yes hk gt)) (F3.tr frP.hnd))
                 rw [hnd, lI6, nI_mul, nI_add, show tuN g * 6 + tyN (capN g m) = 6 * tuN g + tyN (capN g m) by omega, nI_1, setV_nI (by omega) hidx])
              | (have k2 := hk2
                 refine Ev.to (by rw [gf]; rfl) rfl ?_ (c_apply_171 hy hp hs hG hW hP hR hL hm (((Q1.put hb g1.2).hand (i := 6 * tuN g + mA m) (n := hN g (6 * tuN g + mA m) - 1) (by have := tu_le hG; omega)).cong (sq_drop k2) (hd_drop k2)) ((F1.tr frP.put).tr frP.hnd))
                 have hi12 : 6 * tuN g + mA m < 12 := by have := tu_le hG; omega
                 rw [lI6, nI_mul, nI_add, show tuN g * 6 + mA m = 6 * tuN g + mA m by omega, setV_nI (by omega) hi12, cellV_nI (by omega) hi12, ((Q1.put hb g1.2).2.1 _ hi12), show (nI (hN g (6 * tuN g + mA m)) + -1 : Int32) = nI (hN g (6 * tuN g + mA m) - 1) from nI_m1 ht6.2])
          · refine ev_aload_1 dX5_apply_133 ?_
            refine ev_iload_3 dX5_apply_134 ?_
            refine ev_iload_6 dX5_apply_135 ?_
            refine cl_X5_47 c_typeOf dX5_apply_137 rfl (Nat.le_of_ble_eq_true rfl) ?_
            rw [tyR_nI hc1 (by omega)]
            refine ev_iconst_1 dX5_apply_140 ?_
            refine cl_X5_181 (c_addToHand hp) hp.1 dX5_apply_141 rfl (Nat.le_of_ble_eq_true rfl) ?_
            refine ev_iconst_1 dX5_apply_144 ?_
            refine ev_istore_7 dX5_apply_145 rfl rfl ?_
            refine ev_goto (tgt := 171) dX5_apply_147 (by decide) ?_
            refine ev_drop_8 ?_
            first
              | (have k1 := hk1
                 exact Ev.to (by rw [gf]; rfl) rfl rfl (c_apply_171 hy hp hs hG hW hP hR hL hm ((two_Q hW Q1 h4 (by decide) (by decide)).cong (sq_cast k1) (hd_cast k1)) (F1.tr two_fr)))
              | (have gz : gainB g m = false := by unfold gainB; simp [(nI_eq (b := 0) (a := capN g m) (by omega) (by decide)).mp h104]
                 exact Ev.to (by rw [gz]; rfl) rfl rfl (c_apply_171 hy hp hs hG hW hP hR hL hm (Q3.cong rfl (hd_no hk gz)) F3))
              | (have gz : gainB g m = false := by unfold gainB; simp [show ¬ clN g 55 = 1 from fun q => h115 (by rw [q]; rfl)]
                 exact Ev.to (by rw [gz]; rfl) rfl rfl (c_apply_171 hy hp hs hG hW hP hR hL hm (Q3.cong rfl (hd_no hk gz)) F3))
              | (have h9 : ¬ hN g (6 * tuN g + tyN (capN g m)) < 9 := fun q => absurd ((nI_leI (a := 9) (by decide) (by omega)).mp h130) (by omega)
                 have gz : gainB g m = false := by unfold gainB; simp [h9]
                 exact Ev.to (by rw [gz]; rfl) rfl rfl (c_apply_171 hy hp hs hG hW hP hR hL hm (Q3.cong rfl (hd_no hk gz)) F3))
              | (have h8 : hN g (6 * tuN g + tyN (capN g m)) < 9 := Nat.lt_of_not_le (fun q => h130 (nI_le (a := 9) q (by omega)))
                 have gt : gainB g m = true := by unfold gainB; simp [hc0, hd1, h8]
                 refine Ev.to (by rw [gt]; rfl) rfl ?_ (c_apply_171 hy hp hs hG hW hP hR hL hm ((Q3.hand (n := hN g (6 * tuN g + tyN (capN g m)) + 1) hidx).cong rfl (hd_yes hk gt)) (F3.tr frP.hnd))
                 rw [hnd, lI6, nI_mul, nI_add, show tuN g * 6 + tyN (capN g m) = 6 * tuN g + tyN (capN g m) by omega, nI_1, setV_nI (by omega) hidx])
              | (have k2 := hk2
                 refine Ev.to (by rw [gf]; rfl) rfl ?_ (c_apply_171 hy hp hs hG hW hP hR hL hm (((Q1.put hb g1.2).hand (i := 6 * tuN g + mA m) (n := hN g (6 * tuN g + mA m) - 1) (by have := tu_le hG; omega)).cong (sq_drop k2) (hd_drop k2)) ((F1.tr frP.put).tr frP.hnd))
                 have hi12 : 6 * tuN g + mA m < 12 := by have := tu_le hG; omega
                 rw [lI6, nI_mul, nI_add, show tuN g * 6 + mA m = 6 * tuN g + mA m by omega, setV_nI (by omega) hi12, cellV_nI (by omega) hi12, ((Q1.put hb g1.2).2.1 _ hi12), show (nI (hN g (6 * tuN g + mA m)) + -1 : Int32) = nI (hN g (6 * tuN g + mA m) - 1) from nI_m1 ht6.2])
  · have hk1 : mK m = 1 := (nI_eq (b := 1) (by unfold mK; omega) (by decide)).mp (by first | exact h51 | exact Decidable.not_not.mp h51)
    have h4 := mA_4 hm hk1
    have gf := gain_f (g := g) (m := m) (by omega)
    refine ev_aload_0 dX5_apply_54 ?_
    refine ev_aload_1 dX5_apply_55 ?_
    refine ev_iload_2 dX5_apply_56 ?_
    refine cl_X5_124 c_firstOf dX5_apply_57 rfl (Nat.le_of_ble_eq_true rfl) ?_
    rw [fiR_nI (by omega)]
    refine ev_iconst_0 dX5_apply_60 ?_
    refine ev_iconst_1 dX5_apply_61 ?_
    refine cl_X5_164 (c_moveTwo (f := 0) (t := 1) hy hp hs hW L1 Q1 h4 (by decide) (by decide)) hy.1 dX5_apply_62 rfl (Nat.le_of_ble_eq_true rfl) ?_
    refine ev_goto (tgt := 171) dX5_apply_65 (by decide) ?_
    refine ev_drop_8 ?_
    first
      | (have k1 := hk1
         exact Ev.to (by rw [gf]; rfl) rfl rfl (c_apply_171 hy hp hs hG hW hP hR hL hm ((two_Q hW Q1 h4 (by decide) (by decide)).cong (sq_cast k1) (hd_cast k1)) (F1.tr two_fr)))
      | (have gz : gainB g m = false := by unfold gainB; simp [(nI_eq (b := 0) (a := capN g m) (by omega) (by decide)).mp h104]
         exact Ev.to (by rw [gz]; rfl) rfl rfl (c_apply_171 hy hp hs hG hW hP hR hL hm (Q3.cong rfl (hd_no hk gz)) F3))
      | (have gz : gainB g m = false := by unfold gainB; simp [show ¬ clN g 55 = 1 from fun q => h115 (by rw [q]; rfl)]
         exact Ev.to (by rw [gz]; rfl) rfl rfl (c_apply_171 hy hp hs hG hW hP hR hL hm (Q3.cong rfl (hd_no hk gz)) F3))
      | (have h9 : ¬ hN g (6 * tuN g + tyN (capN g m)) < 9 := fun q => absurd ((nI_leI (a := 9) (by decide) (by omega)).mp h130) (by omega)
         have gz : gainB g m = false := by unfold gainB; simp [h9]
         exact Ev.to (by rw [gz]; rfl) rfl rfl (c_apply_171 hy hp hs hG hW hP hR hL hm (Q3.cong rfl (hd_no hk gz)) F3))
      | (have h8 : hN g (6 * tuN g + tyN (capN g m)) < 9 := Nat.lt_of_not_le (fun q => h130 (nI_le (a := 9) q (by omega)))
         have gt : gainB g m = true := by unfold gainB; simp [hc0, hd1, h8]
         refine Ev.to (by rw [gt]; rfl) rfl ?_ (c_apply_171 hy hp hs hG hW hP hR hL hm ((Q3.hand (n := hN g (6 * tuN g + tyN (capN g m)) + 1) hidx).cong rfl (hd_yes hk gt)) (F3.tr frP.hnd))
         rw [hnd, lI6, nI_mul, nI_add, show tuN g * 6 + tyN (capN g m) = 6 * tuN g + tyN (capN g m) by omega, nI_1, setV_nI (by omega) hidx])
      | (have k2 := hk2
         refine Ev.to (by rw [gf]; rfl) rfl ?_ (c_apply_171 hy hp hs hG hW hP hR hL hm (((Q1.put hb g1.2).hand (i := 6 * tuN g + mA m) (n := hN g (6 * tuN g + mA m) - 1) (by have := tu_le hG; omega)).cong (sq_drop k2) (hd_drop k2)) ((F1.tr frP.put).tr frP.hnd))
         have hi12 : 6 * tuN g + mA m < 12 := by have := tu_le hG; omega
         rw [lI6, nI_mul, nI_add, show tuN g * 6 + mA m = 6 * tuN g + mA m by omega, setV_nI (by omega) hi12, cellV_nI (by omega) hi12, ((Q1.put hb g1.2).2.1 _ hi12), show (nI (hN g (6 * tuN g + mA m)) + -1 : Int32) = nI (hN g (6 * tuN g + mA m) - 1) from nI_m1 ht6.2])
