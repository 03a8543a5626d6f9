section X
variable {ad ad' : Nat → Nat} {sh sh' : mSh} {p : Nat}
def extA (ad ad' : Nat → Nat) (sh sh' : mSh) : Prop := (∀ j, j < sh.length → ad' j = ad j) ∧ ∀ (i : Nat) (e : Nat ⊕ (Nat × List Value)), sh[i]? = some e → sh'[i]? = some e
theorem extA.of {X : mSh} (h : ∀ j, j < sh.length → ad' j = ad j) : extA ad ad' sh (sh ++ X) := ⟨h, fun i e hi => by
  have hl : i < sh.length := (List.getElem?_eq_some_iff.mp hi).1
  rw [List.getElem?_append_left hl]; exact hi⟩
theorem extA.line (x : extA ad ad' sh sh') (h : mLine ad sh p) : mLine ad' sh' p := by
  have l1 := (List.getElem?_eq_some_iff.mp h.2).1
  refine ⟨?_, x.2 _ _ h.2⟩
  rw [x.1 (p + 1) l1]; exact x.2 _ _ h.1
theorem extA.list (x : extA ad ad' sh sh') (h : mList ad sh p) : mList ad' sh' p := by
  have l1 := (List.getElem?_eq_some_iff.mp h.2).1
  refine ⟨?_, x.2 _ _ h.2⟩
  rw [x.1 (p + 1) l1]; exact x.2 _ _ h.1
theorem extA.pos (x : extA ad ad' sh sh') (h : mPos ad sh p) : mPos ad' sh' p := by
  have l2 := (List.getElem?_eq_some_iff.mp h.2.2).1
  refine ⟨?_, x.2 _ _ h.2.1, x.2 _ _ h.2.2⟩
  rw [x.1 (p + 1) (by omega), x.1 (p + 2) l2]; exact x.2 _ _ h.1
theorem extA.trail (x : extA ad ad' sh sh') (h : mTrail ad sh p) : mTrail ad' sh' p := by
  have l3 := (List.getElem?_eq_some_iff.mp h.2.2.2).1
  refine ⟨?_, x.2 _ _ h.2.1, x.2 _ _ h.2.2.1, x.2 _ _ h.2.2.2⟩
  rw [x.1 (p + 1) (by omega), x.1 (p + 2) (by omega), x.1 (p + 3) l3]; exact x.2 _ _ h.1
theorem extA.reader (x : extA ad ad' sh sh') (h : mReader ad sh p) : mReader ad' sh' p := by
  have l3 := (List.getElem?_eq_some_iff.mp h.2.2.2).1
  refine ⟨?_, x.2 _ _ h.2.1, x.2 _ _ h.2.2.1, x.2 _ _ h.2.2.2⟩
  rw [x.1 (p + 1) (by omega), x.1 (p + 2) (by omega), x.1 (p + 3) l3]; exact x.2 _ _ h.1
theorem extA.laws (x : extA ad ad' sh sh') (h : mLaws ad sh p) : mLaws ad' sh' p := by
  obtain ⟨h0, h1, h2, h3, h4, h5, h6, h7, h8, h9⟩ := h
  have l9 := (List.getElem?_eq_some_iff.mp h9).1
  refine ⟨?_, x.2 _ _ h1, x.2 _ _ h2, x.2 _ _ h3, x.2 _ _ h4, x.2 _ _ h5, x.2 _ _ h6, x.2 _ _ h7, x.2 _ _ h8, x.2 _ _ h9⟩
  have e : fLaws ad' p = fLaws ad p := by
    unfold fLaws
    rw [x.1 (p + 1) (by omega), x.1 (p + 2) (by omega), x.1 (p + 3) (by omega), x.1 (p + 4) (by omega), x.1 (p + 5) (by omega), x.1 (p + 6) (by omega), x.1 (p + 7) (by omega), x.1 (p + 8) (by omega), x.1 (p + 9) l9]
  rw [e]; exact x.2 _ _ h0
theorem extA.play {y : Nat} (x : extA ad ad' sh sh') (h : mPlay ad sh y p) : mPlay ad' sh' y p := by
  have l := (List.getElem?_eq_some_iff.mp h.2.1).1
  refine ⟨?_, x.laws h.2⟩
  rw [x.1 p l]; exact x.2 _ _ h.1
theorem extA.counter {c y : Nat} (x : extA ad ad' sh sh') (h : mCounter ad sh c y p) : mCounter ad' sh' c y p := by
  obtain ⟨h0, h1, h2, h3, h4, h5⟩ := h
  have a1 := (List.getElem?_eq_some_iff.mp h1.1).1
  have a2 := (List.getElem?_eq_some_iff.mp h2.1).1
  have a3 := (List.getElem?_eq_some_iff.mp h3.1).1
  have a4 := (List.getElem?_eq_some_iff.mp h4.1).1
  have a5 := (List.getElem?_eq_some_iff.mp h5.1).1
  refine ⟨?_, x.play h1, x.list h2, x.list h3, x.pos h4, x.pos h5⟩
  rw [x.1 y a1, x.1 (c + 1) a2, x.1 (c + 3) a3, x.1 (c + 5) a4, x.1 (c + 8) a5]; exact x.2 _ _ h0
theorem extA.snap (x : extA ad ad' sh sh') (h : mSnap ad sh p) : mSnap ad' sh' p := by
  obtain ⟨h0, h1, h2, h3⟩ := h
  have a1 := (List.getElem?_eq_some_iff.mp h1.1).1
  have a2 := (List.getElem?_eq_some_iff.mp h2.1).1
  have a3 := (List.getElem?_eq_some_iff.mp h3.1).1
  refine ⟨?_, x.laws h1, x.pos h2, x.trail h3⟩
  rw [x.1 (p + 1) a1, x.1 (p + 11) a2, x.1 (p + 14) a3]; exact x.2 _ _ h0
theorem extA.board (x : extA ad ad' sh sh') (h : mBoard ad sh) : mBoard ad' sh' := by
  obtain ⟨h0, h1, h2, h3, h4, h5, h6, h7, h8, h9, h10, h11⟩ := h
  have l := (List.getElem?_eq_some_iff.mp h11.1).1
  refine ⟨?_, x.line h1, x.line h2, x.laws h3, x.play h4, x.reader h5, x.pos h6, x.pos h7, x.trail h8, x.list h9, x.counter h10, x.snap h11⟩
  rw [x.1 1 (by omega), x.1 3 (by omega), x.1 5 (by omega), x.1 15 (by omega), x.1 16 (by omega), x.1 20 (by omega), x.1 23 (by omega), x.1 26 (by omega), x.1 30 (by omega), x.1 32 (by omega), x.1 43 l]
  exact x.2 _ _ h0
theorem extA.model (x : extA ad ad' sh sh') (h : mModel ad sh) : mModel ad' sh' := by
  have l := h.len
  obtain ⟨h1, h2, h3, h4, h5, h6, h7, h8, h9, h10, h11, h12, h13, h14, h15⟩ := h
  refine ⟨?_, x.2 _ _ h2, x.2 _ _ h3, x.2 _ _ h4, x.2 _ _ h5, x.2 _ _ h6, x.2 _ _ h7, x.2 _ _ h8, x.2 _ _ h9, x.2 _ _ h10, x.2 _ _ h11, x.2 _ _ h12, x.2 _ _ h13, x.2 _ _ h14, x.2 _ _ h15⟩
  rw [x.1 62 (by omega), x.1 63 (by omega), x.1 64 (by omega), x.1 65 (by omega), x.1 66 (by omega), x.1 67 (by omega), x.1 68 (by omega), x.1 69 (by omega), x.1 70 (by omega), x.1 71 (by omega), x.1 72 (by omega), x.1 73 (by omega), x.1 74 (by omega), x.1 75 (by omega)]
  exact x.2 _ _ h1
end X
/-- the law's cells -/
def lwR : Room := room_1
/-- both have been made, and agree -/
def jAll (ad : Nat → Nat) (sh : mSh) (σ : mSt) : Prop := mBoard ad sh ∧ mModel ad sh ∧ ∃ g, jRel σ g
theorem jN.all {ad ad' : Nat → Nat} {sh sh' : mSh} {σ σ' : mSt} {V : Value} {v : Option Value} (h : jAll ad sh σ) (n : jN ad sh V v ad' sh' σ') : v = some V ∧ ad' 0 = ad 0 ∧ ad' 61 = ad 61 ∧ jAll ad' sh' σ' := by
  obtain ⟨e1, e2, ⟨X, e3⟩, g, e4⟩ := n
  subst e3
  have l := h.2.1.len
  exact ⟨e1, e2 0 (by omega), e2 61 (by omega), (extA.of e2).board h.1, (extA.of e2).model h.2.1, g, e4⟩
def lwL (ae ad : Nat → Nat) (i : Nat) : List (Option Value) := [some (.ref (ae 60)), some (.ref (ad 0)), some (.ref (ad 61)), some (.int (nI i))]
def lwX (ae : Nat → Nat) (i : Nat) : Int32 := Int32.ofNat (ae (1000 + (nI i).toNatClampNeg))
set_option maxRecDepth 100000 in
set_option maxHeartbeats 4000000 in
theorem lw_op0 {ae ad : Nat → Nat} {sh : mSh} {σ : mSt} {Post : mPost} {i k n : Nat} (h : jAll ad sh σ) (hL : ae 61 ≤ 3584) (hi : i + 7 ≤ ae 61) (hk : k ≤ 10000) (hn : n ≤ 1000000) (K : ∀ (ad' : Nat → Nat) (sh' : mSh) (σ' : mSt) (k' n' : Nat), jAll ad' sh' σ' → k' ≤ k + 1 → n' ≤ n + 60 → Ev RL cL_law 4 false (some .boolean) room_1 ae Post 864 (lwL ae ad' i) [] k' n' ad' sh' σ') : Ev RL cL_law 4 false (some .boolean) room_1 ae Post 152 (lwL ae ad i) [] k n ad sh σ := by
  obtain ⟨hb, hm, g, hg⟩ := id h
  obtain ⟨r, M, hc, hm2⟩ := st_feed (ae := ae) (a := lwX ae (i + 1)) hb hm hg
  unfold lwL
  refine ev_aload_1 dL_law_152 ?_
  refine ev_aload_0 dL_law_153 ?_
  refine ev_iload_3 dL_law_154 ?_
  refine ev_iconst_1 dL_law_155 ?_
  refine ev_iadd dL_law_156 ?_
  rw [show nI i + (1 : Int32) = nI (i + 1) from nI_add i 1]
  refine ev_sld (vp_in_nI (by omega) (by omega)) dL_law_157 ?_
  refine ev_callV (As := [.int (lwX ae (i + 1))]) hc mm_X9_feed lk_L_13 mi_X9_feed ml_X9_feed hb.1 rfl rfl rfl dL_law_158 rfl (by show k + 0 ≤ 600000; omega) (by show n + 0 ≤ 7302250; omega) (Nat.le_of_ble_eq_true rfl) (fun v ad1 sh1 σ1 h1 => ?_)
  obtain ⟨e1, e2, e3, e4⟩ := h1
  subst e1; subst e2; subst e3
  obtain ⟨mc, ms, l1, l2, hM⟩ := hm2 σ1 e4
  refine ev_aload_2 dL_law_161 ?_
  refine ev_aload_0 dL_law_162 ?_
  refine ev_iload_3 dL_law_163 ?_
  refine ev_iconst_1 dL_law_164 ?_
  refine ev_iadd dL_law_165 ?_
  rw [show nI i + (1 : Int32) = nI (i + 1) from nI_add i 1]
  refine ev_sld (vp_in_nI (by omega) (by omega)) dL_law_166 ?_
  refine ev_callV (As := [.int (lwX ae (i + 1))]) hM mm_X10_feed lk_L_17 mi_X10_feed ml_X10_feed hm.1 rfl rfl rfl dL_law_167 rfl (by show k + 0 + mc ≤ 600000; omega) (by show n + 0 + ms ≤ 7302250; omega) (Nat.le_of_ble_eq_true rfl) (fun v ad2 sh2 σ2 h2 => ?_)
  obtain ⟨e1, e2, e3, h9⟩ := h2.all h
  subst e1
  rw [← e2, ← e3]
  refine ev_icmp_eq (tgt := 864) dL_law_170 (by decide) (fun _ => ?_) (fun z => absurd rfl z)
  exact K ad2 sh2 σ2 _ _ h9 (by omega) (by omega)
set_option maxRecDepth 100000 in
set_option maxHeartbeats 4000000 in
theorem lw_op1 {ae ad : Nat → Nat} {sh : mSh} {σ : mSt} {Post : mPost} {i k n : Nat} (h : jAll ad sh σ) (hL : ae 61 ≤ 3584) (hi : i + 7 ≤ ae 61) (hk : k ≤ 10000) (hn : n ≤ 1000000) (K : ∀ (ad' : Nat → Nat) (sh' : mSh) (σ' : mSt) (k' n' : Nat), jAll ad' sh' σ' → k' ≤ k + 1 → n' ≤ n + 60 → Ev RL cL_law 4 false (some .boolean) room_1 ae Post 864 (lwL ae ad' i) [] k' n' ad' sh' σ') : Ev RL cL_law 4 false (some .boolean) room_1 ae Post 175 (lwL ae ad i) [] k n ad sh σ := by
  obtain ⟨hb, hm, g, hg⟩ := id h
  obtain ⟨r, M, hc, hm2⟩ := st_size (ae := ae) (a := lwX ae (i + 1)) (b := lwX ae (i + 2)) hb hm hg
  unfold lwL
  refine ev_aload_1 dL_law_175 ?_
  refine ev_aload_0 dL_law_176 ?_
  refine ev_iload_3 dL_law_177 ?_
  refine ev_iconst_1 dL_law_178 ?_
  refine ev_iadd dL_law_179 ?_
  rw [show nI i + (1 : Int32) = nI (i + 1) from nI_add i 1]
  refine ev_sld (vp_in_nI (by omega) (by omega)) dL_law_180 ?_
  refine ev_aload_0 dL_law_181 ?_
  refine ev_iload_3 dL_law_182 ?_
  refine ev_iconst_2 dL_law_183 ?_
  refine ev_iadd dL_law_184 ?_
  rw [show nI i + (2 : Int32) = nI (i + 2) from nI_add i 2]
  refine ev_sld (vp_in_nI (by omega) (by omega)) dL_law_185 ?_
  refine ev_callV (As := [.int (lwX ae (i + 1)), .int (lwX ae (i + 2))]) hc mm_X9_size lk_L_18 mi_X9_size ml_X9_size hb.1 rfl rfl rfl dL_law_186 rfl (by show k + 0 ≤ 600000; omega) (by show n + 0 ≤ 7302250; omega) (Nat.le_of_ble_eq_true rfl) (fun v ad1 sh1 σ1 h1 => ?_)
  obtain ⟨e1, e2, e3, e4⟩ := h1
  subst e1; subst e2; subst e3
  obtain ⟨mc, ms, l1, l2, hM⟩ := hm2 σ1 e4
  refine ev_aload_2 dL_law_189 ?_
  refine ev_aload_0 dL_law_190 ?_
  refine ev_iload_3 dL_law_191 ?_
  refine ev_iconst_1 dL_law_192 ?_
  refine ev_iadd dL_law_193 ?_
  rw [show nI i + (1 : Int32) = nI (i + 1) from nI_add i 1]
  refine ev_sld (vp_in_nI (by omega) (by omega)) dL_law_194 ?_
  refine ev_aload_0 dL_law_195 ?_
  refine ev_iload_3 dL_law_196 ?_
  refine ev_iconst_2 dL_law_197 ?_
  refine ev_iadd dL_law_198 ?_
  rw [show nI i + (2 : Int32) = nI (i + 2) from nI_add i 2]
  refine ev_sld (vp_in_nI (by omega) (by omega)) dL_law_199 ?_
  refine ev_callV (As := [.int (lwX ae (i + 1)), .int (lwX ae (i + 2))]) hM mm_X10_size lk_L_22 mi_X10_size ml_X10_size hm.1 rfl rfl rfl dL_law_200 rfl (by show k + 0 + mc ≤ 600000; omega) (by show n + 0 + ms ≤ 7302250; omega) (Nat.le_of_ble_eq_true rfl) (fun v ad2 sh2 σ2 h2 => ?_)
  obtain ⟨e1, e2, e3, h9⟩ := h2.all h
  subst e1
  rw [← e2, ← e3]
  refine ev_icmp_eq (tgt := 864) dL_law_203 (by decide) (fun _ => ?_) (fun z => absurd rfl z)
  exact K ad2 sh2 σ2 _ _ h9 (by omega) (by omega)
set_option maxRecDepth 100000 in
set_option maxHeartbeats 4000000 in
theorem lw_op2 {ae ad : Nat → Nat} {sh : mSh} {σ : mSt} {Post : mPost} {i k n : Nat} (h : jAll ad sh σ) (hL : ae 61 ≤ 3584) (hi : i + 7 ≤ ae 61) (hk : k ≤ 10000) (hn : n ≤ 1000000) (K : ∀ (ad' : Nat → Nat) (sh' : mSh) (σ' : mSt) (k' n' : Nat), jAll ad' sh' σ' → k' ≤ k + 1 → n' ≤ n + 60 → Ev RL cL_law 4 false (some .boolean) room_1 ae Post 864 (lwL ae ad' i) [] k' n' ad' sh' σ') : Ev RL cL_law 4 false (some .boolean) room_1 ae Post 208 (lwL ae ad i) [] k n ad sh σ := by
  obtain ⟨hb, hm, g, hg⟩ := id h
  obtain ⟨r, M, hc, hm2⟩ := st_define (ae := ae) (a := lwX ae (i + 1)) hb hm hg
  unfold lwL
  refine ev_aload_1 dL_law_208 ?_
  refine ev_aload_0 dL_law_209 ?_
  refine ev_iload_3 dL_law_210 ?_
  refine ev_iconst_1 dL_law_211 ?_
  refine ev_iadd dL_law_212 ?_
  rw [show nI i + (1 : Int32) = nI (i + 1) from nI_add i 1]
  refine ev_sld (vp_in_nI (by omega) (by omega)) dL_law_213 ?_
  refine ev_callV (As := [.int (lwX ae (i + 1))]) hc mm_X9_define lk_L_23 mi_X9_define ml_X9_define hb.1 rfl rfl rfl dL_law_214 rfl (by show k + 0 ≤ 600000; omega) (by show n + 0 ≤ 7302250; omega) (Nat.le_of_ble_eq_true rfl) (fun v ad1 sh1 σ1 h1 => ?_)
  obtain ⟨e1, e2, e3, e4⟩ := h1
  subst e1; subst e2; subst e3
  obtain ⟨mc, ms, l1, l2, hM⟩ := hm2 σ1 e4
  refine ev_aload_2 dL_law_217 ?_
  refine ev_aload_0 dL_law_218 ?_
  refine ev_iload_3 dL_law_219 ?_
  refine ev_iconst_1 dL_law_220 ?_
  refine ev_iadd dL_law_221 ?_
  rw [show nI i + (1 : Int32) = nI (i + 1) from nI_add i 1]
  refine ev_sld (vp_in_nI (by omega) (by omega)) dL_law_222 ?_
  refine ev_callV (As := [.int (lwX ae (i + 1))]) hM mm_X10_define lk_L_26 mi_X10_define ml_X10_define hm.1 rfl rfl rfl dL_law_223 rfl (by show k + 0 + mc ≤ 600000; omega) (by show n + 0 + ms ≤ 7302250; omega) (Nat.le_of_ble_eq_true rfl) (fun v ad2 sh2 σ2 h2 => ?_)
  obtain ⟨e1, e2, e3, h9⟩ := h2.all h
  subst e1
  rw [← e2, ← e3]
  refine ev_icmp_eq (tgt := 864) dL_law_226 (by decide) (fun _ => ?_) (fun z => absurd rfl z)
  exact K ad2 sh2 σ2 _ _ h9 (by omega) (by omega)
set_option maxRecDepth 100000 in
set_option maxHeartbeats 4000000 in
theorem lw_op3 {ae ad : Nat → Nat} {sh : mSh} {σ : mSt} {Post : mPost} {i k n : Nat} (h : jAll ad sh σ) (hL : ae 61 ≤ 3584) (hi : i + 7 ≤ ae 61) (hk : k ≤ 10000) (hn : n ≤ 1000000) (K : ∀ (ad' : Nat → Nat) (sh' : mSh) (σ' : mSt) (k' n' : Nat), jAll ad' sh' σ' → k' ≤ k + 1 → n' ≤ n + 60 → Ev RL cL_law 4 false (some .boolean) room_1 ae Post 864 (lwL ae ad' i) [] k' n' ad' sh' σ') : Ev RL cL_law 4 false (some .boolean) room_1 ae Post 231 (lwL ae ad i) [] k n ad sh σ := by
  obtain ⟨hb, hm, g, hg⟩ := id h
  obtain ⟨r, M, hc, hm2⟩ := st_type (ae := ae) (a := lwX ae (i + 1)) (b := lwX ae (i + 2)) (c := lwX ae (i + 3)) hb hm hg
  unfold lwL
  refine ev_aload_1 dL_law_231 ?_
  refine ev_aload_0 dL_law_232 ?_
  refine ev_iload_3 dL_law_233 ?_
  refine ev_iconst_1 dL_law_234 ?_
  refine ev_iadd dL_law_235 ?_
  rw [show nI i + (1 : Int32) = nI (i + 1) from nI_add i 1]
  refine ev_sld (vp_in_nI (by omega) (by omega)) dL_law_236 ?_
  refine ev_aload_0 dL_law_237 ?_
  refine ev_iload_3 dL_law_238 ?_
  refine ev_iconst_2 dL_law_239 ?_
  refine ev_iadd dL_law_240 ?_
  rw [show nI i + (2 : Int32) = nI (i + 2) from nI_add i 2]
  refine ev_sld (vp_in_nI (by omega) (by omega)) dL_law_241 ?_
  refine ev_aload_0 dL_law_242 ?_
  refine ev_iload_3 dL_law_243 ?_
  refine ev_iconst_3 dL_law_244 ?_
  refine ev_iadd dL_law_245 ?_
  rw [show nI i + (3 : Int32) = nI (i + 3) from nI_add i 3]
  refine ev_sld (vp_in_nI (by omega) (by omega)) dL_law_246 ?_
  refine ev_callV (As := [.int (lwX ae (i + 1)), .int (lwX ae (i + 2)), .int (lwX ae (i + 3))]) hc mm_X9_type lk_L_27 mi_X9_type ml_X9_type hb.1 rfl rfl rfl dL_law_247 rfl (by show k + 0 ≤ 600000; omega) (by show n + 0 ≤ 7302250; omega) (Nat.le_of_ble_eq_true rfl) (fun v ad1 sh1 σ1 h1 => ?_)
  obtain ⟨e1, e2, e3, e4⟩ := h1
  subst e1; subst e2; subst e3
  obtain ⟨mc, ms, l1, l2, hM⟩ := hm2 σ1 e4
  refine ev_aload_2 dL_law_250 ?_
  refine ev_aload_0 dL_law_251 ?_
  refine ev_iload_3 dL_law_252 ?_
  refine ev_iconst_1 dL_law_253 ?_
  refine ev_iadd dL_law_254 ?_
  rw [show nI i + (1 : Int32) = nI (i + 1) from nI_add i 1]
  refine ev_sld (vp_in_nI (by omega) (by omega)) dL_law_255 ?_
  refine ev_aload_0 dL_law_256 ?_
  refine ev_iload_3 dL_law_257 ?_
  refine ev_iconst_2 dL_law_258 ?_
  refine ev_iadd dL_law_259 ?_
  rw [show nI i + (2 : Int32) = nI (i + 2) from nI_add i 2]
  refine ev_sld (vp_in_nI (by omega) (by omega)) dL_law_260 ?_
  refine ev_aload_0 dL_law_261 ?_
  refine ev_iload_3 dL_law_262 ?_
  refine ev_iconst_3 dL_law_263 ?_
  refine ev_iadd dL_law_264 ?_
  rw [show nI i + (3 : Int32) = nI (i + 3) from nI_add i 3]
  refine ev_sld (vp_in_nI (by omega) (by omega)) dL_law_265 ?_
  refine ev_callV (As := [.int (lwX ae (i + 1)), .int (lwX ae (i + 2)), .int (lwX ae (i + 3))]) hM mm_X10_type lk_L_31 mi_X10_type ml_X10_type hm.1 rfl rfl rfl dL_law_266 rfl (by show k + 0 + mc ≤ 600000; omega) (by show n + 0 + ms ≤ 7302250; omega) (Nat.le_of_ble_eq_true rfl) (fun v ad2 sh2 σ2 h2 => ?_)
  obtain ⟨e1, e2, e3, h9⟩ := h2.all h
  subst e1
  rw [← e2, ← e3]
  refine ev_icmp_eq (tgt := 864) dL_law_269 (by decide) (fun _ => ?_) (fun z => absurd rfl z)
  exact K ad2 sh2 σ2 _ _ h9 (by omega) (by omega)
set_option maxRecDepth 100000 in
set_option maxHeartbeats 4000000 in
theorem lw_op4 {ae ad : Nat → Nat} {sh : mSh} {σ : mSt} {Post : mPost} {i k n : Nat} (h : jAll ad sh σ) (hL : ae 61 ≤ 3584) (hi : i + 7 ≤ ae 61) (hk : k ≤ 10000) (hn : n ≤ 1000000) (K : ∀ (ad' : Nat → Nat) (sh' : mSh) (σ' : mSt) (k' n' : Nat), jAll ad' sh' σ' → k' ≤ k + 1 → n' ≤ n + 60 → Ev RL cL_law 4 false (some .boolean) room_1 ae Post 864 (lwL ae ad' i) [] k' n' ad' sh' σ') : Ev RL cL_law 4 false (some .boolean) room_1 ae Post 274 (lwL ae ad i) [] k n ad sh σ := by
  obtain ⟨hb, hm, g, hg⟩ := id h
  obtain ⟨r, M, hc, hm2⟩ := st_rule (ae := ae) (a := lwX ae (i + 1)) (b := lwX ae (i + 2)) hb hm hg
  unfold lwL
  refine ev_aload_1 dL_law_274 ?_
  refine ev_aload_0 dL_law_275 ?_
  refine ev_iload_3 dL_law_276 ?_
  refine ev_iconst_1 dL_law_277 ?_
  refine ev_iadd dL_law_278 ?_
  rw [show nI i + (1 : Int32) = nI (i + 1) from nI_add i 1]
  refine ev_sld (vp_in_nI (by omega) (by omega)) dL_law_279 ?_
  refine ev_aload_0 dL_law_280 ?_
  refine ev_iload_3 dL_law_281 ?_
  refine ev_iconst_2 dL_law_282 ?_
  refine ev_iadd dL_law_283 ?_
  rw [show nI i + (2 : Int32) = nI (i + 2) from nI_add i 2]
  refine ev_sld (vp_in_nI (by omega) (by omega)) dL_law_284 ?_
  refine ev_callV (As := [.int (lwX ae (i + 1)), .int (lwX ae (i + 2))]) hc mm_X9_rule lk_L_32 mi_X9_rule ml_X9_rule hb.1 rfl rfl rfl dL_law_285 rfl (by show k + 0 ≤ 600000; omega) (by show n + 0 ≤ 7302250; omega) (Nat.le_of_ble_eq_true rfl) (fun v ad1 sh1 σ1 h1 => ?_)
  obtain ⟨e1, e2, e3, e4⟩ := h1
  subst e1; subst e2; subst e3
  obtain ⟨mc, ms, l1, l2, hM⟩ := hm2 σ1 e4
  refine ev_aload_2 dL_law_288 ?_
  refine ev_aload_0 dL_law_289 ?_
  refine ev_iload_3 dL_law_290 ?_
  refine ev_iconst_1 dL_law_291 ?_
  refine ev_iadd dL_law_292 ?_
  rw [show nI i + (1 : Int32) = nI (i + 1) from nI_add i 1]
  refine ev_sld (vp_in_nI (by omega) (by omega)) dL_law_293 ?_
  refine ev_aload_0 dL_law_294 ?_
  refine ev_iload_3 dL_law_295 ?_
  refine ev_iconst_2 dL_law_296 ?_
  refine ev_iadd dL_law_297 ?_
  rw [show nI i + (2 : Int32) = nI (i + 2) from nI_add i 2]
  refine ev_sld (vp_in_nI (by omega) (by omega)) dL_law_298 ?_
  refine ev_callV (As := [.int (lwX ae (i + 1)), .int (lwX ae (i + 2))]) hM mm_X10_rule lk_L_35 mi_X10_rule ml_X10_rule hm.1 rfl rfl rfl dL_law_299 rfl (by show k + 0 + mc ≤ 600000; omega) (by show n + 0 + ms ≤ 7302250; omega) (Nat.le_of_ble_eq_true rfl) (fun v ad2 sh2 σ2 h2 => ?_)
  obtain ⟨e1, e2, e3, h9⟩ := h2.all h
  subst e1
  rw [← e2, ← e3]
  refine ev_icmp_eq (tgt := 864) dL_law_302 (by decide) (fun _ => ?_) (fun z => absurd rfl z)
  exact K ad2 sh2 σ2 _ _ h9 (by omega) (by omega)
set_option maxRecDepth 100000 in
set_option maxHeartbeats 4000000 in
theorem lw_op5 {ae ad : Nat → Nat} {sh : mSh} {σ : mSt} {Post : mPost} {i k n : Nat} (h : jAll ad sh σ) (hL : ae 61 ≤ 3584) (hi : i + 7 ≤ ae 61) (hk : k ≤ 10000) (hn : n ≤ 1000000) (K : ∀ (ad' : Nat → Nat) (sh' : mSh) (σ' : mSt) (k' n' : Nat), jAll ad' sh' σ' → k' ≤ k + 1 → n' ≤ n + 60 → Ev RL cL_law 4 false (some .boolean) room_1 ae Post 864 (lwL ae ad' i) [] k' n' ad' sh' σ') : Ev RL cL_law 4 false (some .boolean) room_1 ae Post 307 (lwL ae ad i) [] k n ad sh σ := by
  obtain ⟨hb, hm, g, hg⟩ := id h
  obtain ⟨r, M, hc, hm2⟩ := st_setup (ae := ae)  hb hm hg
  unfold lwL
  refine ev_aload_1 dL_law_307 ?_
  refine ev_callV (As := []) hc mm_X9_setup lk_L_36 mi_X9_setup ml_X9_setup hb.1 rfl rfl rfl dL_law_308 rfl (by show k + 0 ≤ 600000; omega) (by show n + 0 ≤ 7302250; omega) (Nat.le_of_ble_eq_true rfl) (fun v ad1 sh1 σ1 h1 => ?_)
  obtain ⟨e1, e2, e3, e4⟩ := h1
  subst e1; subst e2; subst e3
  obtain ⟨mc, ms, l1, l2, hM⟩ := hm2 σ1 e4
  refine ev_aload_2 dL_law_311 ?_
  refine ev_callV (As := []) hM mm_X10_setup lk_L_40 mi_X10_setup ml_X10_setup hm.1 rfl rfl rfl dL_law_312 rfl (by show k + 0 + mc ≤ 600000; omega) (by show n + 0 + ms ≤ 7302250; omega) (Nat.le_of_ble_eq_true rfl) (fun v ad2 sh2 σ2 h2 => ?_)
  obtain ⟨e1, e2, e3, h9⟩ := h2.all h
  subst e1
  rw [← e2, ← e3]
  refine ev_icmp_eq (tgt := 864) dL_law_315 (by decide) (fun _ => ?_) (fun z => absurd rfl z)
  exact K ad2 sh2 σ2 _ _ h9 (by omega) (by omega)
set_option maxRecDepth 100000 in
set_option maxHeartbeats 4000000 in
theorem lw_op6 {ae ad : Nat → Nat} {sh : mSh} {σ : mSt} {Post : mPost} {i k n : Nat} (h : jAll ad sh σ) (hL : ae 61 ≤ 3584) (hi : i + 7 ≤ ae 61) (hk : k ≤ 10000) (hn : n ≤ 1000000) (K : ∀ (ad' : Nat → Nat) (sh' : mSh) (σ' : mSt) (k' n' : Nat), jAll ad' sh' σ' → k' ≤ k + 1 → n' ≤ n + 60 → Ev RL cL_law 4 false (some .boolean) room_1 ae Post 864 (lwL ae ad' i) [] k' n' ad' sh' σ') : Ev RL cL_law 4 false (some .boolean) room_1 ae Post 320 (lwL ae ad i) [] k n ad sh σ := by
  obtain ⟨hb, hm, g, hg⟩ := id h
  obtain ⟨r, M, hc, hm2⟩ := st_side (ae := ae) (a := lwX ae (i + 1)) hb hm hg
  unfold lwL
  refine ev_aload_1 dL_law_320 ?_
  refine ev_aload_0 dL_law_321 ?_
  refine ev_iload_3 dL_law_322 ?_
  refine ev_iconst_1 dL_law_323 ?_
  refine ev_iadd dL_law_324 ?_
  rw [show nI i + (1 : Int32) = nI (i + 1) from nI_add i 1]
  refine ev_sld (vp_in_nI (by omega) (by omega)) dL_law_325 ?_
  refine ev_callV (As := [.int (lwX ae (i + 1))]) hc mm_X9_side lk_L_41 mi_X9_side ml_X9_side hb.1 rfl rfl rfl dL_law_326 rfl (by show k + 0 ≤ 600000; omega) (by show n + 0 ≤ 7302250; omega) (Nat.le_of_ble_eq_true rfl) (fun v ad1 sh1 σ1 h1 => ?_)
  obtain ⟨e1, e2, e3, e4⟩ := h1
  subst e1; subst e2; subst e3
  obtain ⟨mc, ms, l1, l2, hM⟩ := hm2 σ1 e4
  refine ev_aload_2 dL_law_329 ?_
  refine ev_aload_0 dL_law_330 ?_
  refine ev_iload_3 dL_law_331 ?_
  refine ev_iconst_1 dL_law_332 ?_
  refine ev_iadd dL_law_333 ?_
  rw [show nI i + (1 : Int32) = nI (i + 1) from nI_add i 1]
  refine ev_sld (vp_in_nI (by omega) (by omega)) dL_law_334 ?_
  refine ev_callV (As := [.int (lwX ae (i + 1))]) hM mm_X10_side lk_L_44 mi_X10_side ml_X10_side hm.1 rfl rfl rfl dL_law_335 rfl (by show k + 0 + mc ≤ 600000; omega) (by show n + 0 + ms ≤ 7302250; omega) (Nat.le_of_ble_eq_true rfl) (fun v ad2 sh2 σ2 h2 => ?_)
  obtain ⟨e1, e2, e3, h9⟩ := h2.all h
  subst e1
  rw [← e2, ← e3]
  refine ev_icmp_eq (tgt := 864) dL_law_338 (by decide) (fun _ => ?_) (fun z => absurd rfl z)
  exact K ad2 sh2 σ2 _ _ h9 (by omega) (by omega)
set_option maxRecDepth 100000 in
set_option maxHeartbeats 4000000 in
theorem lw_op7 {ae ad : Nat → Nat} {sh : mSh} {σ : mSt} {Post : mPost} {i k n : Nat} (h : jAll ad sh σ) (hL : ae 61 ≤ 3584) (hi : i + 7 ≤ ae 61) (hk : k ≤ 10000) (hn : n ≤ 1000000) (K : ∀ (ad' : Nat → Nat) (sh' : mSh) (σ' : mSt) (k' n' : Nat), jAll ad' sh' σ' → k' ≤ k + 1 → n' ≤ n + 60 → Ev RL cL_law 4 false (some .boolean) room_1 ae Post 864 (lwL ae ad' i) [] k' n' ad' sh' σ') : Ev RL cL_law 4 false (some .boolean) room_1 ae Post 343 (lwL ae ad i) [] k n ad sh σ := by
  obtain ⟨hb, hm, g, hg⟩ := id h
  obtain ⟨r, M, hc, hm2⟩ := st_hand (ae := ae) (a := lwX ae (i + 1)) (b := lwX ae (i + 2)) (c := lwX ae (i + 3)) hb hm hg
  unfold lwL
  refine ev_aload_1 dL_law_343 ?_
  refine ev_aload_0 dL_law_344 ?_
  refine ev_iload_3 dL_law_345 ?_
  refine ev_iconst_1 dL_law_346 ?_
  refine ev_iadd dL_law_347 ?_
  rw [show nI i + (1 : Int32) = nI (i + 1) from nI_add i 1]
  refine ev_sld (vp_in_nI (by omega) (by omega)) dL_law_348 ?_
  refine ev_aload_0 dL_law_349 ?_
  refine ev_iload_3 dL_law_350 ?_
  refine ev_iconst_2 dL_law_351 ?_
  refine ev_iadd dL_law_352 ?_
  rw [show nI i + (2 : Int32) = nI (i + 2) from nI_add i 2]
  refine ev_sld (vp_in_nI (by omega) (by omega)) dL_law_353 ?_
  refine ev_aload_0 dL_law_354 ?_
  refine ev_iload_3 dL_law_355 ?_
  refine ev_iconst_3 dL_law_356 ?_
  refine ev_iadd dL_law_357 ?_
  rw [show nI i + (3 : Int32) = nI (i + 3) from nI_add i 3]
  refine ev_sld (vp_in_nI (by omega) (by omega)) dL_law_358 ?_
  refine ev_callV (As := [.int (lwX ae (i + 1)), .int (lwX ae (i + 2)), .int (lwX ae (i + 3))]) hc mm_X9_hand lk_L_45 mi_X9_hand ml_X9_hand hb.1 rfl rfl rfl dL_law_359 rfl (by show k + 0 ≤ 600000; omega) (by show n + 0 ≤ 7302250; omega) (Nat.le_of_ble_eq_true rfl) (fun v ad1 sh1 σ1 h1 => ?_)
  obtain ⟨e1, e2, e3, e4⟩ := h1
  subst e1; subst e2; subst e3
  obtain ⟨mc, ms, l1, l2, hM⟩ := hm2 σ1 e4
  refine ev_aload_2 dL_law_362 ?_
  refine ev_aload_0 dL_law_363 ?_
  refine ev_iload_3 dL_law_364 ?_
  refine ev_iconst_1 dL_law_365 ?_
  refine ev_iadd dL_law_366 ?_
  rw [show nI i + (1 : Int32) = nI (i + 1) from nI_add i 1]
  refine ev_sld (vp_in_nI (by omega) (by omega)) dL_law_367 ?_
  refine ev_aload_0 dL_law_368 ?_
  refine ev_iload_3 dL_law_369 ?_
  refine ev_iconst_2 dL_law_370 ?_
  refine ev_iadd dL_law_371 ?_
  rw [show nI i + (2 : Int32) = nI (i + 2) from nI_add i 2]
  refine ev_sld (vp_in_nI (by omega) (by omega)) dL_law_372 ?_
  refine ev_aload_0 dL_law_373 ?_
  refine ev_iload_3 dL_law_374 ?_
  refine ev_iconst_3 dL_law_375 ?_
  refine ev_iadd dL_law_376 ?_
  rw [show nI i + (3 : Int32) = nI (i + 3) from nI_add i 3]
  refine ev_sld (vp_in_nI (by omega) (by omega)) dL_law_377 ?_
  refine ev_callV (As := [.int (lwX ae (i + 1)), .int (lwX ae (i + 2)), .int (lwX ae (i + 3))]) hM mm_X10_hand lk_L_48 mi_X10_hand ml_X10_hand hm.1 rfl rfl rfl dL_law_378 rfl (by show k + 0 + mc ≤ 600000; omega) (by show n + 0 + ms ≤ 7302250; omega) (Nat.le_of_ble_eq_true rfl) (fun v ad2 sh2 σ2 h2 => ?_)
  obtain ⟨e1, e2, e3, h9⟩ := h2.all h
  subst e1
  rw [← e2, ← e3]
  refine ev_icmp_eq (tgt := 864) dL_law_381 (by decide) (fun _ => ?_) (fun z => absurd rfl z)
  exact K ad2 sh2 σ2 _ _ h9 (by omega) (by omega)
set_option maxRecDepth 100000 in
set_option maxHeartbeats 4000000 in
theorem lw_op8 {ae ad : Nat → Nat} {sh : mSh} {σ : mSt} {Post : mPost} {i k n : Nat} (h : jAll ad sh σ) (hL : ae 61 ≤ 3584) (hi : i + 7 ≤ ae 61) (hk : k ≤ 10000) (hn : n ≤ 1000000) (K : ∀ (ad' : Nat → Nat) (sh' : mSh) (σ' : mSt) (k' n' : Nat), jAll ad' sh' σ' → k' ≤ k + 1 → n' ≤ n + 60 → Ev RL cL_law 4 false (some .boolean) room_1 ae Post 864 (lwL ae ad' i) [] k' n' ad' sh' σ') : Ev RL cL_law 4 false (some .boolean) room_1 ae Post 386 (lwL ae ad i) [] k n ad sh σ := by
  obtain ⟨hb, hm, g, hg⟩ := id h
  obtain ⟨r, M, hc, hm2⟩ := st_castle (ae := ae) (a := lwX ae (i + 1)) (b := lwX ae (i + 2)) (c := lwX ae (i + 3)) (d := lwX ae (i + 4)) (e := lwX ae (i + 5)) (f := lwX ae (i + 6)) hb hm hg
  unfold lwL
  refine ev_aload_1 dL_law_386 ?_
  refine ev_aload_0 dL_law_387 ?_
  refine ev_iload_3 dL_law_388 ?_
  refine ev_iconst_1 dL_law_389 ?_
  refine ev_iadd dL_law_390 ?_
  rw [show nI i + (1 : Int32) = nI (i + 1) from nI_add i 1]
  refine ev_sld (vp_in_nI (by omega) (by omega)) dL_law_391 ?_
  refine ev_aload_0 dL_law_392 ?_
  refine ev_iload_3 dL_law_393 ?_
  refine ev_iconst_2 dL_law_394 ?_
  refine ev_iadd dL_law_395 ?_
  rw [show nI i + (2 : Int32) = nI (i + 2) from nI_add i 2]
  refine ev_sld (vp_in_nI (by omega) (by omega)) dL_law_396 ?_
  refine ev_aload_0 dL_law_397 ?_
  refine ev_iload_3 dL_law_398 ?_
  refine ev_iconst_3 dL_law_399 ?_
  refine ev_iadd dL_law_400 ?_
  rw [show nI i + (3 : Int32) = nI (i + 3) from nI_add i 3]
  refine ev_sld (vp_in_nI (by omega) (by omega)) dL_law_401 ?_
  refine ev_aload_0 dL_law_402 ?_
  refine ev_iload_3 dL_law_403 ?_
  refine ev_iconst_4 dL_law_404 ?_
  refine ev_iadd dL_law_405 ?_
  rw [show nI i + (4 : Int32) = nI (i + 4) from nI_add i 4]
  refine ev_sld (vp_in_nI (by omega) (by omega)) dL_law_406 ?_
  refine ev_aload_0 dL_law_407 ?_
  refine ev_iload_3 dL_law_408 ?_
  refine ev_iconst_5 dL_law_409 ?_
  refine ev_iadd dL_law_410 ?_
  rw [show nI i + (5 : Int32) = nI (i + 5) from nI_add i 5]
  refine ev_sld (vp_in_nI (by omega) (by omega)) dL_law_411 ?_
  refine ev_aload_0 dL_law_412 ?_
  refine ev_iload_3 dL_law_413 ?_
  refine ev_bipush_6 dL_law_414 ?_
  refine ev_iadd dL_law_416 ?_
  rw [show nI i + (6 : Int32) = nI (i + 6) from nI_add i 6]
  refine ev_sld (vp_in_nI (by omega) (by omega)) dL_law_417 ?_
  refine ev_callV (As := [.int (lwX ae (i + 1)), .int (lwX ae (i + 2)), .int (lwX ae (i + 3)), .int (lwX ae (i + 4)), .int (lwX ae (i + 5)), .int (lwX ae (i + 6))]) hc mm_X9_castle lk_L_49 mi_X9_castle ml_X9_castle hb.1 rfl rfl rfl dL_law_418 rfl (by show k + 0 ≤ 600000; omega) (by show n + 0 ≤ 7302250; omega) (Nat.le_of_ble_eq_true rfl) (fun v ad1 sh1 σ1 h1 => ?_)
  obtain ⟨e1, e2, e3, e4⟩ := h1
  subst e1; subst e2; subst e3
  obtain ⟨mc, ms, l1, l2, hM⟩ := hm2 σ1 e4
  refine ev_aload_2 dL_law_421 ?_
  refine ev_aload_0 dL_law_422 ?_
  refine ev_iload_3 dL_law_423 ?_
  refine ev_iconst_1 dL_law_424 ?_
  refine ev_iadd dL_law_425 ?_
  rw [show nI i + (1 : Int32) = nI (i + 1) from nI_add i 1]
  refine ev_sld (vp_in_nI (by omega) (by omega)) dL_law_426 ?_
  refine ev_aload_0 dL_law_427 ?_
  refine ev_iload_3 dL_law_428 ?_
  refine ev_iconst_2 dL_law_429 ?_
  refine ev_iadd dL_law_430 ?_
  rw [show nI i + (2 : Int32) = nI (i + 2) from nI_add i 2]
  refine ev_sld (vp_in_nI (by omega) (by omega)) dL_law_431 ?_
  refine ev_aload_0 dL_law_432 ?_
  refine ev_iload_3 dL_law_433 ?_
  refine ev_iconst_3 dL_law_434 ?_
  refine ev_iadd dL_law_435 ?_
  rw [show nI i + (3 : Int32) = nI (i + 3) from nI_add i 3]
  refine ev_sld (vp_in_nI (by omega) (by omega)) dL_law_436 ?_
  refine ev_aload_0 dL_law_437 ?_
  refine ev_iload_3 dL_law_438 ?_
  refine ev_iconst_4 dL_law_439 ?_
  refine ev_iadd dL_law_440 ?_
  rw [show nI i + (4 : Int32) = nI (i + 4) from nI_add i 4]
  refine ev_sld (vp_in_nI (by omega) (by omega)) dL_law_441 ?_
  refine ev_aload_0 dL_law_442 ?_
  refine ev_iload_3 dL_law_443 ?_
  refine ev_iconst_5 dL_law_444 ?_
  refine ev_iadd dL_law_445 ?_
  rw [show nI i + (5 : Int32) = nI (i + 5) from nI_add i 5]
  refine ev_sld (vp_in_nI (by omega) (by omega)) dL_law_446 ?_
  refine ev_aload_0 dL_law_447 ?_
  refine ev_iload_3 dL_law_448 ?_
  refine ev_bipush_6 dL_law_449 ?_
  refine ev_iadd dL_law_451 ?_
  rw [show nI i + (6 : Int32) = nI (i + 6) from nI_add i 6]
  refine ev_sld (vp_in_nI (by omega) (by omega)) dL_law_452 ?_
  refine ev_callV (As := [.int (lwX ae (i + 1)), .int (lwX ae (i + 2)), .int (lwX ae (i + 3)), .int (lwX ae (i + 4)), .int (lwX ae (i + 5)), .int (lwX ae (i + 6))]) hM mm_X10_castle lk_L_53 mi_X10_castle ml_X10_castle hm.1 rfl rfl rfl dL_law_453 rfl (by show k + 0 + mc ≤ 600000; omega) (by show n + 0 + ms ≤ 7302250; omega) (Nat.le_of_ble_eq_true rfl) (fun v ad2 sh2 σ2 h2 => ?_)
  obtain ⟨e1, e2, e3, h9⟩ := h2.all h
  subst e1
  rw [← e2, ← e3]
  refine ev_icmp_eq (tgt := 864) dL_law_456 (by decide) (fun _ => ?_) (fun z => absurd rfl z)
  exact K ad2 sh2 σ2 _ _ h9 (by omega) (by omega)
set_option maxRecDepth 100000 in
set_option maxHeartbeats 4000000 in
theorem lw_op9 {ae ad : Nat → Nat} {sh : mSh} {σ : mSt} {Post : mPost} {i k n : Nat} (h : jAll ad sh σ) (hL : ae 61 ≤ 3584) (hi : i + 7 ≤ ae 61) (hk : k ≤ 10000) (hn : n ≤ 1000000) (K : ∀ (ad' : Nat → Nat) (sh' : mSh) (σ' : mSt) (k' n' : Nat), jAll ad' sh' σ' → k' ≤ k + 1 → n' ≤ n + 60 → Ev RL cL_law 4 false (some .boolean) room_1 ae Post 864 (lwL ae ad' i) [] k' n' ad' sh' σ') : Ev RL cL_law 4 false (some .boolean) room_1 ae Post 461 (lwL ae ad i) [] k n ad sh σ := by
  obtain ⟨hb, hm, g, hg⟩ := id h
  obtain ⟨r, M, hc, hm2⟩ := st_at (ae := ae) (a := lwX ae (i + 1)) hb hm hg
  unfold lwL
  refine ev_aload_1 dL_law_461 ?_
  refine ev_aload_0 dL_law_462 ?_
  refine ev_iload_3 dL_law_463 ?_
  refine ev_iconst_1 dL_law_464 ?_
  refine ev_iadd dL_law_465 ?_
  rw [show nI i + (1 : Int32) = nI (i + 1) from nI_add i 1]
  refine ev_sld (vp_in_nI (by omega) (by omega)) dL_law_466 ?_
  refine ev_callV (As := [.int (lwX ae (i + 1))]) hc mm_X9_at lk_L_54 mi_X9_at ml_X9_at hb.1 rfl rfl rfl dL_law_467 rfl (by show k + 0 ≤ 600000; omega) (by show n + 0 ≤ 7302250; omega) (Nat.le_of_ble_eq_true rfl) (fun v ad1 sh1 σ1 h1 => ?_)
  obtain ⟨e1, e2, e3, e4⟩ := h1
  subst e1; subst e2; subst e3
  obtain ⟨mc, ms, l1, l2, hM⟩ := hm2 σ1 e4
  refine ev_aload_2 dL_law_470 ?_
  refine ev_aload_0 dL_law_471 ?_
  refine ev_iload_3 dL_law_472 ?_
  refine ev_iconst_1 dL_law_473 ?_
  refine ev_iadd dL_law_474 ?_
  rw [show nI i + (1 : Int32) = nI (i + 1) from nI_add i 1]
  refine ev_sld (vp_in_nI (by omega) (by omega)) dL_law_475 ?_
  refine ev_callV (As := [.int (lwX ae (i + 1))]) hM mm_X10_at lk_L_57 mi_X10_at ml_X10_at hm.1 rfl rfl rfl dL_law_476 rfl (by show k + 0 + mc ≤ 600000; omega) (by show n + 0 + ms ≤ 7302250; omega) (Nat.le_of_ble_eq_true rfl) (fun v ad2 sh2 σ2 h2 => ?_)
  obtain ⟨e1, e2, e3, h9⟩ := h2.all h
  subst e1
  rw [← e2, ← e3]
  refine ev_icmp_eq (tgt := 864) dL_law_479 (by decide) (fun _ => ?_) (fun z => absurd rfl z)
  exact K ad2 sh2 σ2 _ _ h9 (by omega) (by omega)
set_option maxRecDepth 100000 in
set_option maxHeartbeats 4000000 in
theorem lw_op10 {ae ad : Nat → Nat} {sh : mSh} {σ : mSt} {Post : mPost} {i k n : Nat} (h : jAll ad sh σ) (hL : ae 61 ≤ 3584) (hi : i + 7 ≤ ae 61) (hk : k ≤ 10000) (hn : n ≤ 1000000) (K : ∀ (ad' : Nat → Nat) (sh' : mSh) (σ' : mSt) (k' n' : Nat), jAll ad' sh' σ' → k' ≤ k + 1 → n' ≤ n + 60 → Ev RL cL_law 4 false (some .boolean) room_1 ae Post 864 (lwL ae ad' i) [] k' n' ad' sh' σ') : Ev RL cL_law 4 false (some .boolean) room_1 ae Post 484 (lwL ae ad i) [] k n ad sh σ := by
  obtain ⟨hb, hm, g, hg⟩ := id h
  obtain ⟨r, M, hc, hm2⟩ := st_moves (ae := ae) (a := lwX ae (i + 1)) hb hm hg
  unfold lwL
  refine ev_aload_1 dL_law_484 ?_
  refine ev_aload_0 dL_law_485 ?_
  refine ev_iload_3 dL_law_486 ?_
  refine ev_iconst_1 dL_law_487 ?_
  refine ev_iadd dL_law_488 ?_
  rw [show nI i + (1 : Int32) = nI (i + 1) from nI_add i 1]
  refine ev_sld (vp_in_nI (by omega) (by omega)) dL_law_489 ?_
  refine ev_callV (As := [.int (lwX ae (i + 1))]) hc mm_X9_moves lk_L_58 mi_X9_moves ml_X9_moves hb.1 rfl rfl rfl dL_law_490 rfl (by show k + 0 ≤ 600000; omega) (by show n + 0 ≤ 7302250; omega) (Nat.le_of_ble_eq_true rfl) (fun v ad1 sh1 σ1 h1 => ?_)
  obtain ⟨e1, e2, e3, e4⟩ := h1
  subst e1; subst e2; subst e3
  obtain ⟨mc, ms, l1, l2, hM⟩ := hm2 σ1 e4
  refine ev_aload_2 dL_law_493 ?_
  refine ev_aload_0 dL_law_494 ?_
  refine ev_iload_3 dL_law_495 ?_
  refine ev_iconst_1 dL_law_496 ?_
  refine ev_iadd dL_law_497 ?_
  rw [show nI i + (1 : Int32) = nI (i + 1) from nI_add i 1]
  refine ev_sld (vp_in_nI (by omega) (by omega)) dL_law_498 ?_
  refine ev_callV (As := [.int (lwX ae (i + 1))]) hM mm_X10_moves lk_L_61 mi_X10_moves ml_X10_moves hm.1 rfl rfl rfl dL_law_499 rfl (by show k + 0 + mc ≤ 600000; omega) (by show n + 0 + ms ≤ 7302250; omega) (Nat.le_of_ble_eq_true rfl) (fun v ad2 sh2 σ2 h2 => ?_)
  obtain ⟨e1, e2, e3, h9⟩ := h2.all h
  subst e1
  rw [← e2, ← e3]
  refine ev_icmp_eq (tgt := 864) dL_law_502 (by decide) (fun _ => ?_) (fun z => absurd rfl z)
  exact K ad2 sh2 σ2 _ _ h9 (by omega) (by omega)
set_option maxRecDepth 100000 in
set_option maxHeartbeats 4000000 in
theorem lw_op11 {ae ad : Nat → Nat} {sh : mSh} {σ : mSt} {Post : mPost} {i k n : Nat} (h : jAll ad sh σ) (hL : ae 61 ≤ 3584) (hi : i + 7 ≤ ae 61) (hk : k ≤ 10000) (hn : n ≤ 1000000) (K : ∀ (ad' : Nat → Nat) (sh' : mSh) (σ' : mSt) (k' n' : Nat), jAll ad' sh' σ' → k' ≤ k + 1 → n' ≤ n + 60 → Ev RL cL_law 4 false (some .boolean) room_1 ae Post 864 (lwL ae ad' i) [] k' n' ad' sh' σ') : Ev RL cL_law 4 false (some .boolean) room_1 ae Post 507 (lwL ae ad i) [] k n ad sh σ := by
  obtain ⟨hb, hm, g, hg⟩ := id h
  obtain ⟨r, M, hc, hm2⟩ := st_move (ae := ae) (a := lwX ae (i + 1)) (b := lwX ae (i + 2)) hb hm hg
  unfold lwL
  refine ev_aload_1 dL_law_507 ?_
  refine ev_aload_0 dL_law_508 ?_
  refine ev_iload_3 dL_law_509 ?_
  refine ev_iconst_1 dL_law_510 ?_
  refine ev_iadd dL_law_511 ?_
  rw [show nI i + (1 : Int32) = nI (i + 1) from nI_add i 1]
  refine ev_sld (vp_in_nI (by omega) (by omega)) dL_law_512 ?_
  refine ev_aload_0 dL_law_513 ?_
  refine ev_iload_3 dL_law_514 ?_
  refine ev_iconst_2 dL_law_515 ?_
  refine ev_iadd dL_law_516 ?_
  rw [show nI i + (2 : Int32) = nI (i + 2) from nI_add i 2]
  refine ev_sld (vp_in_nI (by omega) (by omega)) dL_law_517 ?_
  refine ev_callV (As := [.int (lwX ae (i + 1)), .int (lwX ae (i + 2))]) hc mm_X9_move lk_L_62 mi_X9_move ml_X9_move hb.1 rfl rfl rfl dL_law_518 rfl (by show k + 0 ≤ 600000; omega) (by show n + 0 ≤ 7302250; omega) (Nat.le_of_ble_eq_true rfl) (fun v ad1 sh1 σ1 h1 => ?_)
  obtain ⟨e1, e2, e3, e4⟩ := h1
  subst e1; subst e2; subst e3
  obtain ⟨mc, ms, l1, l2, hM⟩ := hm2 σ1 e4
  refine ev_aload_2 dL_law_521 ?_
  refine ev_aload_0 dL_law_522 ?_
  refine ev_iload_3 dL_law_523 ?_
  refine ev_iconst_1 dL_law_524 ?_
  refine ev_iadd dL_law_525 ?_
  rw [show nI i + (1 : Int32) = nI (i + 1) from nI_add i 1]
  refine ev_sld (vp_in_nI (by omega) (by omega)) dL_law_526 ?_
  refine ev_aload_0 dL_law_527 ?_
  refine ev_iload_3 dL_law_528 ?_
  refine ev_iconst_2 dL_law_529 ?_
  refine ev_iadd dL_law_530 ?_
  rw [show nI i + (2 : Int32) = nI (i + 2) from nI_add i 2]
  refine ev_sld (vp_in_nI (by omega) (by omega)) dL_law_531 ?_
  refine ev_callV (As := [.int (lwX ae (i + 1)), .int (lwX ae (i + 2))]) hM mm_X10_move lk_L_65 mi_X10_move ml_X10_move hm.1 rfl rfl rfl dL_law_532 rfl (by show k + 0 + mc ≤ 600000; omega) (by show n + 0 + ms ≤ 7302250; omega) (Nat.le_of_ble_eq_true rfl) (fun v ad2 sh2 σ2 h2 => ?_)
  obtain ⟨e1, e2, e3, h9⟩ := h2.all h
  subst e1
  rw [← e2, ← e3]
  refine ev_icmp_eq (tgt := 864) dL_law_535 (by decide) (fun _ => ?_) (fun z => absurd rfl z)
  exact K ad2 sh2 σ2 _ _ h9 (by omega) (by omega)
set_option maxRecDepth 100000 in
set_option maxHeartbeats 4000000 in
theorem lw_op12 {ae ad : Nat → Nat} {sh : mSh} {σ : mSt} {Post : mPost} {i k n : Nat} (h : jAll ad sh σ) (hL : ae 61 ≤ 3584) (hi : i + 7 ≤ ae 61) (hk : k ≤ 10000) (hn : n ≤ 1000000) (K : ∀ (ad' : Nat → Nat) (sh' : mSh) (σ' : mSt) (k' n' : Nat), jAll ad' sh' σ' → k' ≤ k + 1 → n' ≤ n + 60 → Ev RL cL_law 4 false (some .boolean) room_1 ae Post 864 (lwL ae ad' i) [] k' n' ad' sh' σ') : Ev RL cL_law 4 false (some .boolean) room_1 ae Post 540 (lwL ae ad i) [] k n ad sh σ := by
  obtain ⟨hb, hm, g, hg⟩ := id h
  obtain ⟨r, M, hc, hm2⟩ := st_proof (ae := ae) (a := lwX ae (i + 1)) (b := lwX ae (i + 2)) hb hm hg
  unfold lwL
  refine ev_aload_1 dL_law_540 ?_
  refine ev_aload_0 dL_law_541 ?_
  refine ev_iload_3 dL_law_542 ?_
  refine ev_iconst_1 dL_law_543 ?_
  refine ev_iadd dL_law_544 ?_
  rw [show nI i + (1 : Int32) = nI (i + 1) from nI_add i 1]
  refine ev_sld (vp_in_nI (by omega) (by omega)) dL_law_545 ?_
  refine ev_aload_0 dL_law_546 ?_
  refine ev_iload_3 dL_law_547 ?_
  refine ev_iconst_2 dL_law_548 ?_
  refine ev_iadd dL_law_549 ?_
  rw [show nI i + (2 : Int32) = nI (i + 2) from nI_add i 2]
  refine ev_sld (vp_in_nI (by omega) (by omega)) dL_law_550 ?_
  refine ev_callV (As := [.int (lwX ae (i + 1)), .int (lwX ae (i + 2))]) hc mm_X9_proof lk_L_66 mi_X9_proof ml_X9_proof hb.1 rfl rfl rfl dL_law_551 rfl (by show k + 0 ≤ 600000; omega) (by show n + 0 ≤ 7302250; omega) (Nat.le_of_ble_eq_true rfl) (fun v ad1 sh1 σ1 h1 => ?_)
  obtain ⟨e1, e2, e3, e4⟩ := h1
  subst e1; subst e2; subst e3
  obtain ⟨mc, ms, l1, l2, hM⟩ := hm2 σ1 e4
  refine ev_aload_2 dL_law_554 ?_
  refine ev_aload_0 dL_law_555 ?_
  refine ev_iload_3 dL_law_556 ?_
  refine ev_iconst_1 dL_law_557 ?_
  refine ev_iadd dL_law_558 ?_
  rw [show nI i + (1 : Int32) = nI (i + 1) from nI_add i 1]
  refine ev_sld (vp_in_nI (by omega) (by omega)) dL_law_559 ?_
  refine ev_aload_0 dL_law_560 ?_
  refine ev_iload_3 dL_law_561 ?_
  refine ev_iconst_2 dL_law_562 ?_
  refine ev_iadd dL_law_563 ?_
  rw [show nI i + (2 : Int32) = nI (i + 2) from nI_add i 2]
  refine ev_sld (vp_in_nI (by omega) (by omega)) dL_law_564 ?_
  refine ev_callV (As := [.int (lwX ae (i + 1)), .int (lwX ae (i + 2))]) hM mm_X10_proof lk_L_69 mi_X10_proof ml_X10_proof hm.1 rfl rfl rfl dL_law_565 rfl (by show k + 0 + mc ≤ 600000; omega) (by show n + 0 + ms ≤ 7302250; omega) (Nat.le_of_ble_eq_true rfl) (fun v ad2 sh2 σ2 h2 => ?_)
  obtain ⟨e1, e2, e3, h9⟩ := h2.all h
  subst e1
  rw [← e2, ← e3]
  refine ev_icmp_eq (tgt := 864) dL_law_568 (by decide) (fun _ => ?_) (fun z => absurd rfl z)
  exact K ad2 sh2 σ2 _ _ h9 (by omega) (by omega)
set_option maxRecDepth 100000 in
set_option maxHeartbeats 4000000 in
theorem lw_op13 {ae ad : Nat → Nat} {sh : mSh} {σ : mSt} {Post : mPost} {i k n : Nat} (h : jAll ad sh σ) (hL : ae 61 ≤ 3584) (hi : i + 7 ≤ ae 61) (hk : k ≤ 10000) (hn : n ≤ 1000000) (K : ∀ (ad' : Nat → Nat) (sh' : mSh) (σ' : mSt) (k' n' : Nat), jAll ad' sh' σ' → k' ≤ k + 1 → n' ≤ n + 60 → Ev RL cL_law 4 false (some .boolean) room_1 ae Post 864 (lwL ae ad' i) [] k' n' ad' sh' σ') : Ev RL cL_law 4 false (some .boolean) room_1 ae Post 573 (lwL ae ad i) [] k n ad sh σ := by
  obtain ⟨hb, hm, g, hg⟩ := id h
  obtain ⟨r, M, hc, hm2⟩ := st_make (ae := ae) (a := lwX ae (i + 1)) hb hm hg
  unfold lwL
  refine ev_aload_1 dL_law_573 ?_
  refine ev_aload_0 dL_law_574 ?_
  refine ev_iload_3 dL_law_575 ?_
  refine ev_iconst_1 dL_law_576 ?_
  refine ev_iadd dL_law_577 ?_
  rw [show nI i + (1 : Int32) = nI (i + 1) from nI_add i 1]
  refine ev_sld (vp_in_nI (by omega) (by omega)) dL_law_578 ?_
  refine ev_callV (As := [.int (lwX ae (i + 1))]) hc mm_X9_make lk_L_70 mi_X9_make ml_X9_make hb.1 rfl rfl rfl dL_law_579 rfl (by show k + 0 ≤ 600000; omega) (by show n + 0 ≤ 7302250; omega) (Nat.le_of_ble_eq_true rfl) (fun v ad1 sh1 σ1 h1 => ?_)
  obtain ⟨e1, e2, e3, e4⟩ := h1
  subst e1; subst e2; subst e3
  obtain ⟨mc, ms, l1, l2, hM⟩ := hm2 σ1 e4
  refine ev_aload_2 dL_law_582 ?_
  refine ev_aload_0 dL_law_583 ?_
  refine ev_iload_3 dL_law_584 ?_
  refine ev_iconst_1 dL_law_585 ?_
  refine ev_iadd dL_law_586 ?_
  rw [show nI i + (1 : Int32) = nI (i + 1) from nI_add i 1]
  refine ev_sld (vp_in_nI (by omega) (by omega)) dL_law_587 ?_
  refine ev_callV (As := [.int (lwX ae (i + 1))]) hM mm_X10_make lk_L_73 mi_X10_make ml_X10_make hm.1 rfl rfl rfl dL_law_588 rfl (by show k + 0 + mc ≤ 600000; omega) (by show n + 0 + ms ≤ 7302250; omega) (Nat.le_of_ble_eq_true rfl) (fun v ad2 sh2 σ2 h2 => ?_)
  obtain ⟨e1, e2, e3, h9⟩ := h2.all h
  subst e1
  rw [← e2, ← e3]
  refine ev_icmp_eq (tgt := 864) dL_law_591 (by decide) (fun _ => ?_) (fun z => absurd rfl z)
  exact K ad2 sh2 σ2 _ _ h9 (by omega) (by omega)
set_option maxRecDepth 100000 in
set_option maxHeartbeats 4000000 in
theorem lw_op14 {ae ad : Nat → Nat} {sh : mSh} {σ : mSt} {Post : mPost} {i k n : Nat} (h : jAll ad sh σ) (hL : ae 61 ≤ 3584) (hi : i + 7 ≤ ae 61) (hk : k ≤ 10000) (hn : n ≤ 1000000) (K : ∀ (ad' : Nat → Nat) (sh' : mSh) (σ' : mSt) (k' n' : Nat), jAll ad' sh' σ' → k' ≤ k + 1 → n' ≤ n + 60 → Ev RL cL_law 4 false (some .boolean) room_1 ae Post 864 (lwL ae ad' i) [] k' n' ad' sh' σ') : Ev RL cL_law 4 false (some .boolean) room_1 ae Post 596 (lwL ae ad i) [] k n ad sh σ := by
  obtain ⟨hb, hm, g, hg⟩ := id h
  obtain ⟨r, M, hc, hm2⟩ := st_back (ae := ae)  hb hm hg
  unfold lwL
  refine ev_aload_1 dL_law_596 ?_
  refine ev_callV (As := []) hc mm_X9_back lk_L_74 mi_X9_back ml_X9_back hb.1 rfl rfl rfl dL_law_597 rfl (by show k + 0 ≤ 600000; omega) (by show n + 0 ≤ 7302250; omega) (Nat.le_of_ble_eq_true rfl) (fun v ad1 sh1 σ1 h1 => ?_)
  obtain ⟨e1, e2, e3, e4⟩ := h1
  subst e1; subst e2; subst e3
  obtain ⟨mc, ms, l1, l2, hM⟩ := hm2 σ1 e4
  refine ev_aload_2 dL_law_600 ?_
  refine ev_callV (As := []) hM mm_X10_back lk_L_77 mi_X10_back ml_X10_back hm.1 rfl rfl rfl dL_law_601 rfl (by show k + 0 + mc ≤ 600000; omega) (by show n + 0 + ms ≤ 7302250; omega) (Nat.le_of_ble_eq_true rfl) (fun v ad2 sh2 σ2 h2 => ?_)
  obtain ⟨e1, e2, e3, h9⟩ := h2.all h
  subst e1
  rw [← e2, ← e3]
  refine ev_icmp_eq (tgt := 864) dL_law_604 (by decide) (fun _ => ?_) (fun z => absurd rfl z)
  exact K ad2 sh2 σ2 _ _ h9 (by omega) (by omega)
set_option maxRecDepth 100000 in
set_option maxHeartbeats 4000000 in
theorem lw_op15 {ae ad : Nat → Nat} {sh : mSh} {σ : mSt} {Post : mPost} {i k n : Nat} (h : jAll ad sh σ) (hL : ae 61 ≤ 3584) (hi : i + 7 ≤ ae 61) (hk : k ≤ 10000) (hn : n ≤ 1000000) (K : ∀ (ad' : Nat → Nat) (sh' : mSh) (σ' : mSt) (k' n' : Nat), jAll ad' sh' σ' → k' ≤ k + 1 → n' ≤ n + 60 → Ev RL cL_law 4 false (some .boolean) room_1 ae Post 864 (lwL ae ad' i) [] k' n' ad' sh' σ') : Ev RL cL_law 4 false (some .boolean) room_1 ae Post 609 (lwL ae ad i) [] k n ad sh σ := by
  obtain ⟨hb, hm, g, hg⟩ := id h
  obtain ⟨r, M, hc, hm2⟩ := st_attackers (ae := ae) (a := lwX ae (i + 1)) (b := lwX ae (i + 2)) hb hm hg
  unfold lwL
  refine ev_aload_1 dL_law_609 ?_
  refine ev_aload_0 dL_law_610 ?_
  refine ev_iload_3 dL_law_611 ?_
  refine ev_iconst_1 dL_law_612 ?_
  refine ev_iadd dL_law_613 ?_
  rw [show nI i + (1 : Int32) = nI (i + 1) from nI_add i 1]
  refine ev_sld (vp_in_nI (by omega) (by omega)) dL_law_614 ?_
  refine ev_aload_0 dL_law_615 ?_
  refine ev_iload_3 dL_law_616 ?_
  refine ev_iconst_2 dL_law_617 ?_
  refine ev_iadd dL_law_618 ?_
  rw [show nI i + (2 : Int32) = nI (i + 2) from nI_add i 2]
  refine ev_sld (vp_in_nI (by omega) (by omega)) dL_law_619 ?_
  refine ev_callV (As := [.int (lwX ae (i + 1)), .int (lwX ae (i + 2))]) hc mm_X9_attackers lk_L_78 mi_X9_attackers ml_X9_attackers hb.1 rfl rfl rfl dL_law_620 rfl (by show k + 0 ≤ 600000; omega) (by show n + 0 ≤ 7302250; omega) (Nat.le_of_ble_eq_true rfl) (fun v ad1 sh1 σ1 h1 => ?_)
  obtain ⟨e1, e2, e3, e4⟩ := h1
  subst e1; subst e2; subst e3
  obtain ⟨mc, ms, l1, l2, hM⟩ := hm2 σ1 e4
  refine ev_aload_2 dL_law_623 ?_
  refine ev_aload_0 dL_law_624 ?_
  refine ev_iload_3 dL_law_625 ?_
  refine ev_iconst_1 dL_law_626 ?_
  refine ev_iadd dL_law_627 ?_
  rw [show nI i + (1 : Int32) = nI (i + 1) from nI_add i 1]
  refine ev_sld (vp_in_nI (by omega) (by omega)) dL_law_628 ?_
  refine ev_aload_0 dL_law_629 ?_
  refine ev_iload_3 dL_law_630 ?_
  refine ev_iconst_2 dL_law_631 ?_
  refine ev_iadd dL_law_632 ?_
  rw [show nI i + (2 : Int32) = nI (i + 2) from nI_add i 2]
  refine ev_sld (vp_in_nI (by omega) (by omega)) dL_law_633 ?_
  refine ev_callV (As := [.int (lwX ae (i + 1)), .int (lwX ae (i + 2))]) hM mm_X10_attackers lk_L_82 mi_X10_attackers ml_X10_attackers hm.1 rfl rfl rfl dL_law_634 rfl (by show k + 0 + mc ≤ 600000; omega) (by show n + 0 + ms ≤ 7302250; omega) (Nat.le_of_ble_eq_true rfl) (fun v ad2 sh2 σ2 h2 => ?_)
  obtain ⟨e1, e2, e3, h9⟩ := h2.all h
  subst e1
  rw [← e2, ← e3]
  refine ev_lcmp dL_law_637 ?_
  refine ev_if_eq (tgt := 864) dL_law_638 (by decide) (fun _ => ?_) (fun z => absurd ((lg_cmp_0 _ _).mpr rfl) z)
  exact K ad2 sh2 σ2 _ _ h9 (by omega) (by omega)
set_option maxRecDepth 100000 in
set_option maxHeartbeats 4000000 in
theorem lw_op16 {ae ad : Nat → Nat} {sh : mSh} {σ : mSt} {Post : mPost} {i k n : Nat} (h : jAll ad sh σ) (hL : ae 61 ≤ 3584) (hi : i + 7 ≤ ae 61) (hk : k ≤ 10000) (hn : n ≤ 1000000) (K : ∀ (ad' : Nat → Nat) (sh' : mSh) (σ' : mSt) (k' n' : Nat), jAll ad' sh' σ' → k' ≤ k + 1 → n' ≤ n + 60 → Ev RL cL_law 4 false (some .boolean) room_1 ae Post 864 (lwL ae ad' i) [] k' n' ad' sh' σ') : Ev RL cL_law 4 false (some .boolean) room_1 ae Post 643 (lwL ae ad i) [] k n ad sh σ := by
  obtain ⟨hb, hm, g, hg⟩ := id h
  obtain ⟨r, M, hc, hm2⟩ := st_attacked (ae := ae) (a := lwX ae (i + 1)) hb hm hg
  unfold lwL
  refine ev_aload_1 dL_law_643 ?_
  refine ev_aload_0 dL_law_644 ?_
  refine ev_iload_3 dL_law_645 ?_
  refine ev_iconst_1 dL_law_646 ?_
  refine ev_iadd dL_law_647 ?_
  rw [show nI i + (1 : Int32) = nI (i + 1) from nI_add i 1]
  refine ev_sld (vp_in_nI (by omega) (by omega)) dL_law_648 ?_
  refine ev_callV (As := [.int (lwX ae (i + 1))]) hc mm_X9_attacked lk_L_83 mi_X9_attacked ml_X9_attacked hb.1 rfl rfl rfl dL_law_649 rfl (by show k + 0 ≤ 600000; omega) (by show n + 0 ≤ 7302250; omega) (Nat.le_of_ble_eq_true rfl) (fun v ad1 sh1 σ1 h1 => ?_)
  obtain ⟨e1, e2, e3, e4⟩ := h1
  subst e1; subst e2; subst e3
  obtain ⟨mc, ms, l1, l2, hM⟩ := hm2 σ1 e4
  refine ev_aload_2 dL_law_652 ?_
  refine ev_aload_0 dL_law_653 ?_
  refine ev_iload_3 dL_law_654 ?_
  refine ev_iconst_1 dL_law_655 ?_
  refine ev_iadd dL_law_656 ?_
  rw [show nI i + (1 : Int32) = nI (i + 1) from nI_add i 1]
  refine ev_sld (vp_in_nI (by omega) (by omega)) dL_law_657 ?_
  refine ev_callV (As := [.int (lwX ae (i + 1))]) hM mm_X10_attacked lk_L_87 mi_X10_attacked ml_X10_attacked hm.1 rfl rfl rfl dL_law_658 rfl (by show k + 0 + mc ≤ 600000; omega) (by show n + 0 + ms ≤ 7302250; omega) (Nat.le_of_ble_eq_true rfl) (fun v ad2 sh2 σ2 h2 => ?_)
  obtain ⟨e1, e2, e3, h9⟩ := h2.all h
  subst e1
  rw [← e2, ← e3]
  refine ev_lcmp dL_law_661 ?_
  refine ev_if_eq (tgt := 864) dL_law_662 (by decide) (fun _ => ?_) (fun z => absurd ((lg_cmp_0 _ _).mpr rfl) z)
  exact K ad2 sh2 σ2 _ _ h9 (by omega) (by omega)
set_option maxRecDepth 100000 in
set_option maxHeartbeats 4000000 in
theorem lw_op17 {ae ad : Nat → Nat} {sh : mSh} {σ : mSt} {Post : mPost} {i k n : Nat} (h : jAll ad sh σ) (hL : ae 61 ≤ 3584) (hi : i + 7 ≤ ae 61) (hk : k ≤ 10000) (hn : n ≤ 1000000) (K : ∀ (ad' : Nat → Nat) (sh' : mSh) (σ' : mSt) (k' n' : Nat), jAll ad' sh' σ' → k' ≤ k + 1 → n' ≤ n + 60 → Ev RL cL_law 4 false (some .boolean) room_1 ae Post 864 (lwL ae ad' i) [] k' n' ad' sh' σ') : Ev RL cL_law 4 false (some .boolean) room_1 ae Post 667 (lwL ae ad i) [] k n ad sh σ := by
  obtain ⟨hb, hm, g, hg⟩ := id h
  obtain ⟨r, M, hc, hm2⟩ := st_status (ae := ae)  hb hm hg
  unfold lwL
  refine ev_aload_1 dL_law_667 ?_
  refine ev_callV (As := []) hc mm_X9_status lk_L_88 mi_X9_status ml_X9_status hb.1 rfl rfl rfl dL_law_668 rfl (by show k + 0 ≤ 600000; omega) (by show n + 0 ≤ 7302250; omega) (Nat.le_of_ble_eq_true rfl) (fun v ad1 sh1 σ1 h1 => ?_)
  obtain ⟨e1, e2, e3, e4⟩ := h1
  subst e1; subst e2; subst e3
  obtain ⟨mc, ms, l1, l2, hM⟩ := hm2 σ1 e4
  refine ev_aload_2 dL_law_671 ?_
  refine ev_callV (As := []) hM mm_X10_status lk_L_91 mi_X10_status ml_X10_status hm.1 rfl rfl rfl dL_law_672 rfl (by show k + 0 + mc ≤ 600000; omega) (by show n + 0 + ms ≤ 7302250; omega) (Nat.le_of_ble_eq_true rfl) (fun v ad2 sh2 σ2 h2 => ?_)
  obtain ⟨e1, e2, e3, h9⟩ := h2.all h
  subst e1
  rw [← e2, ← e3]
  refine ev_icmp_eq (tgt := 864) dL_law_675 (by decide) (fun _ => ?_) (fun z => absurd rfl z)
  exact K ad2 sh2 σ2 _ _ h9 (by omega) (by omega)
set_option maxRecDepth 100000 in
set_option maxHeartbeats 4000000 in
theorem lw_op18 {ae ad : Nat → Nat} {sh : mSh} {σ : mSt} {Post : mPost} {i k n : Nat} (h : jAll ad sh σ) (hL : ae 61 ≤ 3584) (hi : i + 7 ≤ ae 61) (hk : k ≤ 10000) (hn : n ≤ 1000000) (K : ∀ (ad' : Nat → Nat) (sh' : mSh) (σ' : mSt) (k' n' : Nat), jAll ad' sh' σ' → k' ≤ k + 1 → n' ≤ n + 60 → Ev RL cL_law 4 false (some .boolean) room_1 ae Post 864 (lwL ae ad' i) [] k' n' ad' sh' σ') : Ev RL cL_law 4 false (some .boolean) room_1 ae Post 680 (lwL ae ad i) [] k n ad sh σ := by
  obtain ⟨hb, hm, g, hg⟩ := id h
  obtain ⟨r, M, hc, hm2⟩ := st_seq (ae := ae) (a := lwX ae (i + 1)) (b := lwX ae (i + 2)) hb hm hg
  unfold lwL
  refine ev_aload_1 dL_law_680 ?_
  refine ev_aload_0 dL_law_681 ?_
  refine ev_iload_3 dL_law_682 ?_
  refine ev_iconst_1 dL_law_683 ?_
  refine ev_iadd dL_law_684 ?_
  rw [show nI i + (1 : Int32) = nI (i + 1) from nI_add i 1]
  refine ev_sld (vp_in_nI (by omega) (by omega)) dL_law_685 ?_
  refine ev_aload_0 dL_law_686 ?_
  refine ev_iload_3 dL_law_687 ?_
  refine ev_iconst_2 dL_law_688 ?_
  refine ev_iadd dL_law_689 ?_
  rw [show nI i + (2 : Int32) = nI (i + 2) from nI_add i 2]
  refine ev_sld (vp_in_nI (by omega) (by omega)) dL_law_690 ?_
  refine ev_callV (As := [.int (lwX ae (i + 1)), .int (lwX ae (i + 2))]) hc mm_X9_sequences lk_L_92 mi_X9_sequences ml_X9_sequences hb.1 rfl rfl rfl dL_law_691 rfl (by show k + 0 ≤ 600000; omega) (by show n + 0 ≤ 7302250; omega) (Nat.le_of_ble_eq_true rfl) (fun v ad1 sh1 σ1 h1 => ?_)
  obtain ⟨e1, e2, e3, e4⟩ := h1
  subst e1; subst e2; subst e3
  obtain ⟨mc, ms, l1, l2, hM⟩ := hm2 σ1 e4
  refine ev_aload_2 dL_law_694 ?_
  refine ev_aload_0 dL_law_695 ?_
  refine ev_iload_3 dL_law_696 ?_
  refine ev_iconst_1 dL_law_697 ?_
  refine ev_iadd dL_law_698 ?_
  rw [show nI i + (1 : Int32) = nI (i + 1) from nI_add i 1]
  refine ev_sld (vp_in_nI (by omega) (by omega)) dL_law_699 ?_
  refine ev_aload_0 dL_law_700 ?_
  refine ev_iload_3 dL_law_701 ?_
  refine ev_iconst_2 dL_law_702 ?_
  refine ev_iadd dL_law_703 ?_
  rw [show nI i + (2 : Int32) = nI (i + 2) from nI_add i 2]
  refine ev_sld (vp_in_nI (by omega) (by omega)) dL_law_704 ?_
  refine ev_callV (As := [.int (lwX ae (i + 1)), .int (lwX ae (i + 2))]) hM mm_X10_sequences lk_L_95 mi_X10_sequences ml_X10_sequences hm.1 rfl rfl rfl dL_law_705 rfl (by show k + 0 + mc ≤ 600000; omega) (by show n + 0 + ms ≤ 7302250; omega) (Nat.le_of_ble_eq_true rfl) (fun v ad2 sh2 σ2 h2 => ?_)
  obtain ⟨e1, e2, e3, h9⟩ := h2.all h
  subst e1
  rw [← e2, ← e3]
  refine ev_icmp_eq (tgt := 864) dL_law_708 (by decide) (fun _ => ?_) (fun z => absurd rfl z)
  exact K ad2 sh2 σ2 _ _ h9 (by omega) (by omega)
set_option maxRecDepth 100000 in
set_option maxHeartbeats 4000000 in
theorem lw_op19 {ae ad : Nat → Nat} {sh : mSh} {σ : mSt} {Post : mPost} {i k n : Nat} (h : jAll ad sh σ) (hL : ae 61 ≤ 3584) (hi : i + 7 ≤ ae 61) (hk : k ≤ 10000) (hn : n ≤ 1000000) (K : ∀ (ad' : Nat → Nat) (sh' : mSh) (σ' : mSt) (k' n' : Nat), jAll ad' sh' σ' → k' ≤ k + 1 → n' ≤ n + 60 → Ev RL cL_law 4 false (some .boolean) room_1 ae Post 864 (lwL ae ad' i) [] k' n' ad' sh' σ') : Ev RL cL_law 4 false (some .boolean) room_1 ae Post 713 (lwL ae ad i) [] k n ad sh σ := by
  obtain ⟨hb, hm, g, hg⟩ := id h
  obtain ⟨r, M, hc, hm2⟩ := st_text (ae := ae) (a := lwX ae (i + 1)) hb hm hg
  unfold lwL
  refine ev_aload_1 dL_law_713 ?_
  refine ev_aload_0 dL_law_714 ?_
  refine ev_iload_3 dL_law_715 ?_
  refine ev_iconst_1 dL_law_716 ?_
  refine ev_iadd dL_law_717 ?_
  rw [show nI i + (1 : Int32) = nI (i + 1) from nI_add i 1]
  refine ev_sld (vp_in_nI (by omega) (by omega)) dL_law_718 ?_
  refine ev_callV (As := [.int (lwX ae (i + 1))]) hc mm_X9_text lk_L_96 mi_X9_text ml_X9_text hb.1 rfl rfl rfl dL_law_719 rfl (by show k + 0 ≤ 600000; omega) (by show n + 0 ≤ 7302250; omega) (Nat.le_of_ble_eq_true rfl) (fun v ad1 sh1 σ1 h1 => ?_)
  obtain ⟨e1, e2, e3, e4⟩ := h1
  subst e1; subst e2; subst e3
  obtain ⟨mc, ms, l1, l2, hM⟩ := hm2 σ1 e4
  refine ev_aload_2 dL_law_722 ?_
  refine ev_aload_0 dL_law_723 ?_
  refine ev_iload_3 dL_law_724 ?_
  refine ev_iconst_1 dL_law_725 ?_
  refine ev_iadd dL_law_726 ?_
  rw [show nI i + (1 : Int32) = nI (i + 1) from nI_add i 1]
  refine ev_sld (vp_in_nI (by omega) (by omega)) dL_law_727 ?_
  refine ev_callV (As := [.int (lwX ae (i + 1))]) hM mm_X10_text lk_L_99 mi_X10_text ml_X10_text hm.1 rfl rfl rfl dL_law_728 rfl (by show k + 0 + mc ≤ 600000; omega) (by show n + 0 + ms ≤ 7302250; omega) (Nat.le_of_ble_eq_true rfl) (fun v ad2 sh2 σ2 h2 => ?_)
  obtain ⟨e1, e2, e3, h9⟩ := h2.all h
  subst e1
  rw [← e2, ← e3]
  refine ev_icmp_eq (tgt := 864) dL_law_731 (by decide) (fun _ => ?_) (fun z => absurd rfl z)
  exact K ad2 sh2 σ2 _ _ h9 (by omega) (by omega)
set_option maxRecDepth 100000 in
set_option maxHeartbeats 4000000 in
theorem lw_op20 {ae ad : Nat → Nat} {sh : mSh} {σ : mSt} {Post : mPost} {i k n : Nat} (h : jAll ad sh σ) (hL : ae 61 ≤ 3584) (hi : i + 7 ≤ ae 61) (hk : k ≤ 10000) (hn : n ≤ 1000000) (K : ∀ (ad' : Nat → Nat) (sh' : mSh) (σ' : mSt) (k' n' : Nat), jAll ad' sh' σ' → k' ≤ k + 1 → n' ≤ n + 60 → Ev RL cL_law 4 false (some .boolean) room_1 ae Post 864 (lwL ae ad' i) [] k' n' ad' sh' σ') : Ev RL cL_law 4 false (some .boolean) room_1 ae Post 736 (lwL ae ad i) [] k n ad sh σ := by
  obtain ⟨hb, hm, g, hg⟩ := id h
  obtain ⟨r, M, hc, hm2⟩ := st_told (ae := ae) (a := lwX ae (i + 1)) (b := lwX ae (i + 2)) hb hm hg
  unfold lwL
  refine ev_aload_1 dL_law_736 ?_
  refine ev_aload_0 dL_law_737 ?_
  refine ev_iload_3 dL_law_738 ?_
  refine ev_iconst_1 dL_law_739 ?_
  refine ev_iadd dL_law_740 ?_
  rw [show nI i + (1 : Int32) = nI (i + 1) from nI_add i 1]
  refine ev_sld (vp_in_nI (by omega) (by omega)) dL_law_741 ?_
  refine ev_aload_0 dL_law_742 ?_
  refine ev_iload_3 dL_law_743 ?_
  refine ev_iconst_2 dL_law_744 ?_
  refine ev_iadd dL_law_745 ?_
  rw [show nI i + (2 : Int32) = nI (i + 2) from nI_add i 2]
  refine ev_sld (vp_in_nI (by omega) (by omega)) dL_law_746 ?_
  refine ev_callV (As := [.int (lwX ae (i + 1)), .int (lwX ae (i + 2))]) hc mm_X9_told lk_L_100 mi_X9_told ml_X9_told hb.1 rfl rfl rfl dL_law_747 rfl (by show k + 0 ≤ 600000; omega) (by show n + 0 ≤ 7302250; omega) (Nat.le_of_ble_eq_true rfl) (fun v ad1 sh1 σ1 h1 => ?_)
  obtain ⟨e1, e2, e3, e4⟩ := h1
  subst e1; subst e2; subst e3
  obtain ⟨mc, ms, l1, l2, hM⟩ := hm2 σ1 e4
  refine ev_aload_2 dL_law_750 ?_
  refine ev_aload_0 dL_law_751 ?_
  refine ev_iload_3 dL_law_752 ?_
  refine ev_iconst_1 dL_law_753 ?_
  refine ev_iadd dL_law_754 ?_
  rw [show nI i + (1 : Int32) = nI (i + 1) from nI_add i 1]
  refine ev_sld (vp_in_nI (by omega) (by omega)) dL_law_755 ?_
  refine ev_aload_0 dL_law_756 ?_
  refine ev_iload_3 dL_law_757 ?_
  refine ev_iconst_2 dL_law_758 ?_
  refine ev_iadd dL_law_759 ?_
  rw [show nI i + (2 : Int32) = nI (i + 2) from nI_add i 2]
  refine ev_sld (vp_in_nI (by omega) (by omega)) dL_law_760 ?_
  refine ev_callV (As := [.int (lwX ae (i + 1)), .int (lwX ae (i + 2))]) hM mm_X10_told lk_L_103 mi_X10_told ml_X10_told hm.1 rfl rfl rfl dL_law_761 rfl (by show k + 0 + mc ≤ 600000; omega) (by show n + 0 + ms ≤ 7302250; omega) (Nat.le_of_ble_eq_true rfl) (fun v ad2 sh2 σ2 h2 => ?_)
  obtain ⟨e1, e2, e3, h9⟩ := h2.all h
  subst e1
  rw [← e2, ← e3]
  refine ev_icmp_eq (tgt := 864) dL_law_764 (by decide) (fun _ => ?_) (fun z => absurd rfl z)
  exact K ad2 sh2 σ2 _ _ h9 (by omega) (by omega)
set_option maxRecDepth 100000 in
set_option maxHeartbeats 4000000 in
theorem lw_op21 {ae ad : Nat → Nat} {sh : mSh} {σ : mSt} {Post : mPost} {i k n : Nat} (h : jAll ad sh σ) (hL : ae 61 ≤ 3584) (hi : i + 7 ≤ ae 61) (hk : k ≤ 10000) (hn : n ≤ 1000000) (K : ∀ (ad' : Nat → Nat) (sh' : mSh) (σ' : mSt) (k' n' : Nat), jAll ad' sh' σ' → k' ≤ k + 1 → n' ≤ n + 60 → Ev RL cL_law 4 false (some .boolean) room_1 ae Post 864 (lwL ae ad' i) [] k' n' ad' sh' σ') : Ev RL cL_law 4 false (some .boolean) room_1 ae Post 769 (lwL ae ad i) [] k n ad sh σ := by
  obtain ⟨hb, hm, g, hg⟩ := id h
  obtain ⟨r, M, hc, hm2⟩ := st_property (ae := ae) (a := lwX ae (i + 1)) (b := lwX ae (i + 2)) hb hm hg
  unfold lwL
  refine ev_aload_1 dL_law_769 ?_
  refine ev_aload_0 dL_law_770 ?_
  refine ev_iload_3 dL_law_771 ?_
  refine ev_iconst_1 dL_law_772 ?_
  refine ev_iadd dL_law_773 ?_
  rw [show nI i + (1 : Int32) = nI (i + 1) from nI_add i 1]
  refine ev_sld (vp_in_nI (by omega) (by omega)) dL_law_774 ?_
  refine ev_aload_0 dL_law_775 ?_
  refine ev_iload_3 dL_law_776 ?_
  refine ev_iconst_2 dL_law_777 ?_
  refine ev_iadd dL_law_778 ?_
  rw [show nI i + (2 : Int32) = nI (i + 2) from nI_add i 2]
  refine ev_sld (vp_in_nI (by omega) (by omega)) dL_law_779 ?_
  refine ev_callV (As := [.int (lwX ae (i + 1)), .int (lwX ae (i + 2))]) hc mm_X9_property lk_L_104 mi_X9_property ml_X9_property hb.1 rfl rfl rfl dL_law_780 rfl (by show k + 0 ≤ 600000; omega) (by show n + 0 ≤ 7302250; omega) (Nat.le_of_ble_eq_true rfl) (fun v ad1 sh1 σ1 h1 => ?_)
  obtain ⟨e1, e2, e3, e4⟩ := h1
  subst e1; subst e2; subst e3
  obtain ⟨mc, ms, l1, l2, hM⟩ := hm2 σ1 e4
  refine ev_aload_2 dL_law_783 ?_
  refine ev_aload_0 dL_law_784 ?_
  refine ev_iload_3 dL_law_785 ?_
  refine ev_iconst_1 dL_law_786 ?_
  refine ev_iadd dL_law_787 ?_
  rw [show nI i + (1 : Int32) = nI (i + 1) from nI_add i 1]
  refine ev_sld (vp_in_nI (by omega) (by omega)) dL_law_788 ?_
  refine ev_aload_0 dL_law_789 ?_
  refine ev_iload_3 dL_law_790 ?_
  refine ev_iconst_2 dL_law_791 ?_
  refine ev_iadd dL_law_792 ?_
  rw [show nI i + (2 : Int32) = nI (i + 2) from nI_add i 2]
  refine ev_sld (vp_in_nI (by omega) (by omega)) dL_law_793 ?_
  refine ev_callV (As := [.int (lwX ae (i + 1)), .int (lwX ae (i + 2))]) hM mm_X10_property lk_L_107 mi_X10_property ml_X10_property hm.1 rfl rfl rfl dL_law_794 rfl (by show k + 0 + mc ≤ 600000; omega) (by show n + 0 + ms ≤ 7302250; omega) (Nat.le_of_ble_eq_true rfl) (fun v ad2 sh2 σ2 h2 => ?_)
  obtain ⟨e1, e2, e3, h9⟩ := h2.all h
  subst e1
  rw [← e2, ← e3]
  refine ev_icmp_eq (tgt := 864) dL_law_797 (by decide) (fun _ => ?_) (fun z => absurd rfl z)
  exact K ad2 sh2 σ2 _ _ h9 (by omega) (by omega)
set_option maxRecDepth 100000 in
set_option maxHeartbeats 4000000 in
theorem lw_op22 {ae ad : Nat → Nat} {sh : mSh} {σ : mSt} {Post : mPost} {i k n : Nat} (h : jAll ad sh σ) (hL : ae 61 ≤ 3584) (hi : i + 7 ≤ ae 61) (hk : k ≤ 10000) (hn : n ≤ 1000000) (K : ∀ (ad' : Nat → Nat) (sh' : mSh) (σ' : mSt) (k' n' : Nat), jAll ad' sh' σ' → k' ≤ k + 1 → n' ≤ n + 60 → Ev RL cL_law 4 false (some .boolean) room_1 ae Post 864 (lwL ae ad' i) [] k' n' ad' sh' σ') : Ev RL cL_law 4 false (some .boolean) room_1 ae Post 802 (lwL ae ad i) [] k n ad sh σ := by
  obtain ⟨hb, hm, g, hg⟩ := id h
  obtain ⟨r, M, hc, hm2⟩ := st_digest (ae := ae)  hb hm hg
  unfold lwL
  refine ev_aload_1 dL_law_802 ?_
  refine ev_callV (As := []) hc mm_X9_digest lk_L_108 mi_X9_digest ml_X9_digest hb.1 rfl rfl rfl dL_law_803 rfl (by show k + 0 ≤ 600000; omega) (by show n + 0 ≤ 7302250; omega) (Nat.le_of_ble_eq_true rfl) (fun v ad1 sh1 σ1 h1 => ?_)
  obtain ⟨e1, e2, e3, e4⟩ := h1
  subst e1; subst e2; subst e3
  obtain ⟨mc, ms, l1, l2, hM⟩ := hm2 σ1 e4
  refine ev_aload_2 dL_law_806 ?_
  refine ev_callV (As := []) hM mm_X10_digest lk_L_111 mi_X10_digest ml_X10_digest hm.1 rfl rfl rfl dL_law_807 rfl (by show k + 0 + mc ≤ 600000; omega) (by show n + 0 + ms ≤ 7302250; omega) (Nat.le_of_ble_eq_true rfl) (fun v ad2 sh2 σ2 h2 => ?_)
  obtain ⟨e1, e2, e3, h9⟩ := h2.all h
  subst e1
  rw [← e2, ← e3]
  refine ev_icmp_eq (tgt := 864) dL_law_810 (by decide) (fun _ => ?_) (fun z => absurd rfl z)
  exact K ad2 sh2 σ2 _ _ h9 (by omega) (by omega)
set_option maxRecDepth 100000 in
set_option maxHeartbeats 4000000 in
theorem lw_op23 {ae ad : Nat → Nat} {sh : mSh} {σ : mSt} {Post : mPost} {i k n : Nat} (h : jAll ad sh σ) (hL : ae 61 ≤ 3584) (hi : i + 7 ≤ ae 61) (hk : k ≤ 10000) (hn : n ≤ 1000000) (K : ∀ (ad' : Nat → Nat) (sh' : mSh) (σ' : mSt) (k' n' : Nat), jAll ad' sh' σ' → k' ≤ k + 1 → n' ≤ n + 60 → Ev RL cL_law 4 false (some .boolean) room_1 ae Post 864 (lwL ae ad' i) [] k' n' ad' sh' σ') : Ev RL cL_law 4 false (some .boolean) room_1 ae Post 815 (lwL ae ad i) [] k n ad sh σ := by
  obtain ⟨hb, hm, g, hg⟩ := id h
  obtain ⟨r, M, hc, hm2⟩ := st_image (ae := ae)  hb hm hg
  unfold lwL
  refine ev_aload_1 dL_law_815 ?_
  refine ev_callV (As := []) hc mm_X9_image lk_L_112 mi_X9_image ml_X9_image hb.1 rfl rfl rfl dL_law_816 rfl (by show k + 0 ≤ 600000; omega) (by show n + 0 ≤ 7302250; omega) (Nat.le_of_ble_eq_true rfl) (fun v ad1 sh1 σ1 h1 => ?_)
  obtain ⟨e1, e2, e3, e4⟩ := h1
  subst e1; subst e2; subst e3
  obtain ⟨mc, ms, l1, l2, hM⟩ := hm2 σ1 e4
  refine ev_aload_2 dL_law_819 ?_
  refine ev_callV (As := []) hM mm_X10_image lk_L_115 mi_X10_image ml_X10_image hm.1 rfl rfl rfl dL_law_820 rfl (by show k + 0 + mc ≤ 600000; omega) (by show n + 0 + ms ≤ 7302250; omega) (Nat.le_of_ble_eq_true rfl) (fun v ad2 sh2 σ2 h2 => ?_)
  obtain ⟨e1, e2, e3, h9⟩ := h2.all h
  subst e1
  rw [← e2, ← e3]
  refine ev_icmp_eq (tgt := 864) dL_law_823 (by decide) (fun _ => ?_) (fun z => absurd rfl z)
  exact K ad2 sh2 σ2 _ _ h9 (by omega) (by omega)
set_option maxRecDepth 100000 in
set_option maxHeartbeats 4000000 in
theorem lw_op24 {ae ad : Nat → Nat} {sh : mSh} {σ : mSt} {Post : mPost} {i k n : Nat} (h : jAll ad sh σ) (hL : ae 61 ≤ 3584) (hi : i + 7 ≤ ae 61) (hk : k ≤ 10000) (hn : n ≤ 1000000) (K : ∀ (ad' : Nat → Nat) (sh' : mSh) (σ' : mSt) (k' n' : Nat), jAll ad' sh' σ' → k' ≤ k + 1 → n' ≤ n + 60 → Ev RL cL_law 4 false (some .boolean) room_1 ae Post 864 (lwL ae ad' i) [] k' n' ad' sh' σ') : Ev RL cL_law 4 false (some .boolean) room_1 ae Post 828 (lwL ae ad i) [] k n ad sh σ := by
  obtain ⟨hb, hm, g, hg⟩ := id h
  obtain ⟨r, M, hc, hm2⟩ := st_undo (ae := ae)  hb hm hg
  unfold lwL
  refine ev_aload_1 dL_law_828 ?_
  refine ev_callV (As := []) hc mm_X9_undo lk_L_116 mi_X9_undo ml_X9_undo hb.1 rfl rfl rfl dL_law_829 rfl (by show k + 0 ≤ 600000; omega) (by show n + 0 ≤ 7302250; omega) (Nat.le_of_ble_eq_true rfl) (fun v ad1 sh1 σ1 h1 => ?_)
  obtain ⟨e1, e2, e3, e4⟩ := h1
  subst e1; subst e2; subst e3
  obtain ⟨mc, ms, l1, l2, hM⟩ := hm2 σ1 e4
  refine ev_aload_2 dL_law_832 ?_
  refine ev_callV (As := []) hM mm_X10_undo lk_L_119 mi_X10_undo ml_X10_undo hm.1 rfl rfl rfl dL_law_833 rfl (by show k + 0 + mc ≤ 600000; omega) (by show n + 0 + ms ≤ 7302250; omega) (Nat.le_of_ble_eq_true rfl) (fun v ad2 sh2 σ2 h2 => ?_)
  obtain ⟨e1, e2, e3, h9⟩ := h2.all h
  subst e1
  rw [← e2, ← e3]
  refine ev_icmp_eq (tgt := 864) dL_law_836 (by decide) (fun _ => ?_) (fun z => absurd rfl z)
  exact K ad2 sh2 σ2 _ _ h9 (by omega) (by omega)
set_option maxRecDepth 100000 in
set_option maxHeartbeats 4000000 in
theorem lw_op25 {ae ad : Nat → Nat} {sh : mSh} {σ : mSt} {Post : mPost} {i k n : Nat} (h : jAll ad sh σ) (hL : ae 61 ≤ 3584) (hi : i + 7 ≤ ae 61) (hk : k ≤ 10000) (hn : n ≤ 1000000) (K : ∀ (ad' : Nat → Nat) (sh' : mSh) (σ' : mSt) (k' n' : Nat), jAll ad' sh' σ' → k' ≤ k + 1 → n' ≤ n + 60 → Ev RL cL_law 4 false (some .boolean) room_1 ae Post 864 (lwL ae ad' i) [] k' n' ad' sh' σ') : Ev RL cL_law 4 false (some .boolean) room_1 ae Post 841 (lwL ae ad i) [] k n ad sh σ := by
  obtain ⟨hb, hm, g, hg⟩ := id h
  obtain ⟨r, M, hc, hm2⟩ := st_count (ae := ae) (a := lwX ae (i + 1)) hb hm hg
  unfold lwL
  refine ev_aload_1 dL_law_841 ?_
  refine ev_aload_0 dL_law_842 ?_
  refine ev_iload_3 dL_law_843 ?_
  refine ev_iconst_1 dL_law_844 ?_
  refine ev_iadd dL_law_845 ?_
  rw [show nI i + (1 : Int32) = nI (i + 1) from nI_add i 1]
  refine ev_sld (vp_in_nI (by omega) (by omega)) dL_law_846 ?_
  refine ev_callV (As := [.int (lwX ae (i + 1))]) hc mm_X9_count lk_L_120 mi_X9_count ml_X9_count hb.1 rfl rfl rfl dL_law_847 rfl (by show k + 0 ≤ 600000; omega) (by show n + 0 ≤ 7302250; omega) (Nat.le_of_ble_eq_true rfl) (fun v ad1 sh1 σ1 h1 => ?_)
  obtain ⟨e1, e2, e3, e4⟩ := h1
  subst e1; subst e2; subst e3
  obtain ⟨mc, ms, l1, l2, hM⟩ := hm2 σ1 e4
  refine ev_aload_2 dL_law_850 ?_
  refine ev_aload_0 dL_law_851 ?_
  refine ev_iload_3 dL_law_852 ?_
  refine ev_iconst_1 dL_law_853 ?_
  refine ev_iadd dL_law_854 ?_
  rw [show nI i + (1 : Int32) = nI (i + 1) from nI_add i 1]
  refine ev_sld (vp_in_nI (by omega) (by omega)) dL_law_855 ?_
  refine ev_callV (As := [.int (lwX ae (i + 1))]) hM mm_X10_count lk_L_123 mi_X10_count ml_X10_count hm.1 rfl rfl rfl dL_law_856 rfl (by show k + 0 + mc ≤ 600000; omega) (by show n + 0 + ms ≤ 7302250; omega) (Nat.le_of_ble_eq_true rfl) (fun v ad2 sh2 σ2 h2 => ?_)
  obtain ⟨e1, e2, e3, h9⟩ := h2.all h
  subst e1
  rw [← e2, ← e3]
  refine ev_icmp_eq (tgt := 864) dL_law_859 (by decide) (fun _ => ?_) (fun z => absurd rfl z)
  exact K ad2 sh2 σ2 _ _ h9 (by omega) (by omega)
