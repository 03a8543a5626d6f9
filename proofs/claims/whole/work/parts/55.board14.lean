/-- the legal move with a number -/
def pickG (g : Nat → Int32) (i : Int32) : Option Nat := if i < 0 then none else (legalG g)[i.toNatClampNeg]?
theorem pick_none {σ : mSt} {g : Nat → Int32} {i : Int32} (_h : lgR σ g) (hp : pickG g i = none) : cellD (-1) (σ.1 31) (legalG g).length i = -1 := by
  unfold pickG at hp
  rw [cellD]
  split at hp
  · rename_i h0; rw [if_pos (Or.inl h0)]
  · rw [if_pos (Or.inr (List.getElem?_eq_none_iff.mp hp))]
theorem pick_some {σ : mSt} {g : Nat → Int32} {i : Int32} {m : Nat} (h : lgR σ g) (hp : pickG g i = some m) : cellD (-1) (σ.1 31) (legalG g).length i = nI m := by
  unfold pickG at hp
  split at hp
  · cases hp
  · rename_i h0
    rw [cellD, if_neg (fun z => z.elim h0 (fun y => by rw [List.getElem?_eq_none_iff.mpr y] at hp; cases hp))]
    exact h.2.2.2 _ m hp
theorem pick_ok {g : Nat → Int32} (hG : wfP g) (hW : wfL g) {i : Int32} {m : Nat} (hp : pickG g i = some m) : mvOk g m := by
  unfold pickG at hp
  split at hp
  · cases hp
  · exact legal_ok hG hW (List.mem_of_getElem? hp)
theorem lgR.P {σ σ' : mSt} {g : Nat → Int32} (h : lgR σ g) (f : frP σ σ' 20) : lgR σ' g := by
  unfold lgR listR at *
  rw [(f 0 (by decide) (by decide) (by decide)).1, (f 30 (by decide) (by decide) (by decide)).1, (f 31 (by decide) (by decide) (by decide)).1]
  exact h
theorem frB.P {σ σ1 σ2 : mSt} (h : frB σ σ1) (f : frP σ1 σ2 20) : frB σ σ2 := fun k a b c d e z => ⟨(f k b c d).1.trans (h k a b c d e z).1, (f k b c d).2.trans (h k a b c d e z).2⟩
/-- what is told of a legal move -/
def movA (g : Nat → Int32) (m : Nat) (c : Int32) : Int32 := if c = 0 then nI (mK m) else if c = 1 then fromN g m else if c = 2 then toN g m else if c = 3 then nI (tyN (goerN g m)) else if c = 4 then (if capN g m = 0 then -5 else nI (tyN (capN g m))) else if c = 5 then nI (tyN (arrN g m)) else if c = 6 then b2i (chkB g m) else if c = 7 then dgG (playsG g m) else -1
def movG (g : Nat → Int32) (i c : Int32) : Int32 := match pickG g i with | none => -1 | some m => movA g m c
theorem arr_ge {g : Nat → Int32} (hG : wfP g) (hW : wfL g) {m : Nat} (hm : mvOk g m) : 1 ≤ arrN g m := by
  have := (goer_le hG hW hm).1
  unfold arrN
  split <;> omega

set_option maxRecDepth 100000 in
set_option maxHeartbeats 4000000 in
theorem c_moveNo {ae ad : Nat → Nat} {sh : mSh} {σ : mSt} {g : Nat → Int32} (hb : mBoard ad sh) (hG : wfP g) (hW : wfL g) (hP : posR σ 20 g) (hR : ritR σ 20 g) (hL : lawR σ 5 g) (hl : (σ.1 0 11 = 0) ∨ lgR σ g) {i c : Int32} (hi : pickG g i = none) : Ct yX9_move cX9_move 4 (some .int) 8 0 0 [.ref (ad 0), .int i, .int c] ae ad sh σ (mPi ad sh (fun x σ' => x = movG g i c ∧ lgR σ' g ∧ (posR σ' 20 g ∧ ritR σ' 20 g) ∧ lawR σ' 5 g ∧ frB σ σ')) := by
  refine Ct.ofL (own := RX9) (ini := false) (ls := [some (.ref (ad 0)), some (.int i), some (.int c), none]) (by decide +kernel) rfl (fun h => by cases h) (Nat.le_of_ble_eq_true rfl) rfl ?_
  refine ev_aload_0 dX9_move_0 ?_
  refine cg_X9_202 (c_listed hb hG hW hP hR hL hl) hb.1 dX9_move_1 rfl (Nat.le_of_ble_eq_true rfl) (fun σ1 h1 => ?_)
  obtain ⟨h1, h2, f1⟩ := h1
  have hL1 := hL.B f1
  have h445 := legal_len hG
  refine ev_aload_0 dX9_move_4 ?_
  refine gf_X9_64 dX9_move_5 hb.1 rfl ?_
  refine ev_iload_1 dX9_move_8 ?_
  refine cl_X9_206 (c_moveAt hb.2.2.2.2.2.2.2.2.2.1 h1.2.1 h445) hb.2.2.2.2.2.2.2.2.2.1.1 dX9_move_9 rfl (Nat.le_of_ble_eq_true rfl) ?_
  rw [pick_none h1 hi]
  refine ev_istore_3 dX9_move_12 rfl rfl ?_
  refine ev_iload_3 dX9_move_13 ?_
  refine ev_if_ge (tgt := 19) dX9_move_14 (by decide) (fun h14 => absurd h14 (by decide)) (fun h14 => ?_)
  refine ev_iconst_m1 dX9_move_17 ?_
  exact ev_pi dX9_move_18 ⟨by rw [movG, hi], h1, h2, hL1, f1⟩
set_option maxRecDepth 100000 in
set_option maxHeartbeats 4000000 in
theorem c_move0 {ae ad : Nat → Nat} {sh : mSh} {σ : mSt} {g : Nat → Int32} (hb : mBoard ad sh) (hG : wfP g) (hW : wfL g) (hP : posR σ 20 g) (hR : ritR σ 20 g) (hL : lawR σ 5 g) (hl : (σ.1 0 11 = 0) ∨ lgR σ g) {i : Int32} {m : Nat} (hi : pickG g i = some m) : Ct yX9_move cX9_move 4 (some .int) 8 0 0 [.ref (ad 0), .int i, .int 0] ae ad sh σ (mPi ad sh (fun x σ' => x = movG g i 0 ∧ lgR σ' g ∧ (posR σ' 20 g ∧ ritR σ' 20 g) ∧ lawR σ' 5 g ∧ frB σ σ')) := by
  refine Ct.ofL (own := RX9) (ini := false) (ls := [some (.ref (ad 0)), some (.int i), some (.int 0), none]) (by decide +kernel) rfl (fun h => by cases h) (Nat.le_of_ble_eq_true rfl) rfl ?_
  have hm := pick_ok hG hW hi
  refine ev_aload_0 dX9_move_0 ?_
  refine cg_X9_202 (c_listed hb hG hW hP hR hL hl) hb.1 dX9_move_1 rfl (Nat.le_of_ble_eq_true rfl) (fun σ1 h1 => ?_)
  obtain ⟨h1, h2, f1⟩ := h1
  have hL1 := hL.B f1
  have h445 := legal_len hG
  refine ev_aload_0 dX9_move_4 ?_
  refine gf_X9_64 dX9_move_5 hb.1 rfl ?_
  refine ev_iload_1 dX9_move_8 ?_
  refine cl_X9_206 (c_moveAt hb.2.2.2.2.2.2.2.2.2.1 h1.2.1 h445) hb.2.2.2.2.2.2.2.2.2.1.1 dX9_move_9 rfl (Nat.le_of_ble_eq_true rfl) ?_
  rw [pick_some h1 hi]
  refine ev_istore_3 dX9_move_12 rfl rfl ?_
  refine ev_iload_3 dX9_move_13 ?_
  refine ev_if_ge (tgt := 19) dX9_move_14 (by decide) (fun h14 => ?_) (fun h14 => absurd (nI_pos' (by have := mvOk_lt hm; omega)) h14)
  refine ev_iload_2 dX9_move_19 ?_
  refine ev_tableIn (off := 48) (tgt := 68) dX9_move_20 (by decide) (by decide) (by decide) (by decide) ?_
  refine ev_iload_3 dX9_move_68 ?_
  refine cl_X9_213 c_kindOf dX9_move_69 rfl (Nat.le_of_ble_eq_true rfl) ?_
  have hm2 := mvOk_lt hm
  have hcap := cap_le hG hm
  have hgo := goer_le hG hW hm
  have har := arr_ge hG hW hm
  have har2 := arr_le hG hW hm
  exact ev_pi dX9_move_72 ⟨by rw [movG, hi]; show _ = movA g m 0; unfold movA; rw [if_pos rfl, kiR_nI (by omega)], h1, h2, hL1, f1⟩
set_option maxRecDepth 100000 in
set_option maxHeartbeats 4000000 in
theorem c_move1 {ae ad : Nat → Nat} {sh : mSh} {σ : mSt} {g : Nat → Int32} (hb : mBoard ad sh) (hG : wfP g) (hW : wfL g) (hP : posR σ 20 g) (hR : ritR σ 20 g) (hL : lawR σ 5 g) (hl : (σ.1 0 11 = 0) ∨ lgR σ g) {i : Int32} {m : Nat} (hi : pickG g i = some m) : Ct yX9_move cX9_move 4 (some .int) 8 0 0 [.ref (ad 0), .int i, .int 1] ae ad sh σ (mPi ad sh (fun x σ' => x = movG g i 1 ∧ lgR σ' g ∧ (posR σ' 20 g ∧ ritR σ' 20 g) ∧ lawR σ' 5 g ∧ frB σ σ')) := by
  refine Ct.ofL (own := RX9) (ini := false) (ls := [some (.ref (ad 0)), some (.int i), some (.int 1), none]) (by decide +kernel) rfl (fun h => by cases h) (Nat.le_of_ble_eq_true rfl) rfl ?_
  have hm := pick_ok hG hW hi
  refine ev_aload_0 dX9_move_0 ?_
  refine cg_X9_202 (c_listed hb hG hW hP hR hL hl) hb.1 dX9_move_1 rfl (Nat.le_of_ble_eq_true rfl) (fun σ1 h1 => ?_)
  obtain ⟨h1, h2, f1⟩ := h1
  have hL1 := hL.B f1
  have h445 := legal_len hG
  refine ev_aload_0 dX9_move_4 ?_
  refine gf_X9_64 dX9_move_5 hb.1 rfl ?_
  refine ev_iload_1 dX9_move_8 ?_
  refine cl_X9_206 (c_moveAt hb.2.2.2.2.2.2.2.2.2.1 h1.2.1 h445) hb.2.2.2.2.2.2.2.2.2.1.1 dX9_move_9 rfl (Nat.le_of_ble_eq_true rfl) ?_
  rw [pick_some h1 hi]
  refine ev_istore_3 dX9_move_12 rfl rfl ?_
  refine ev_iload_3 dX9_move_13 ?_
  refine ev_if_ge (tgt := 19) dX9_move_14 (by decide) (fun h14 => ?_) (fun h14 => absurd (nI_pos' (by have := mvOk_lt hm; omega)) h14)
  refine ev_iload_2 dX9_move_19 ?_
  refine ev_tableIn (off := 53) (tgt := 73) dX9_move_20 (by decide) (by decide) (by decide) (by decide) ?_
  refine ev_aload_0 dX9_move_73 ?_
  refine ev_iload_3 dX9_move_74 ?_
  refine cl_X9_216 (c_from hb hG hW hL1 hm) hb.1 dX9_move_75 rfl (Nat.le_of_ble_eq_true rfl) ?_
  have hm2 := mvOk_lt hm
  have hcap := cap_le hG hm
  have hgo := goer_le hG hW hm
  have har := arr_ge hG hW hm
  have har2 := arr_le hG hW hm
  exact ev_pi dX9_move_78 ⟨by rw [movG, hi]; show _ = movA g m 1; unfold movA; simp, h1, h2, hL1, f1⟩
set_option maxRecDepth 100000 in
set_option maxHeartbeats 4000000 in
theorem c_move2 {ae ad : Nat → Nat} {sh : mSh} {σ : mSt} {g : Nat → Int32} (hb : mBoard ad sh) (hG : wfP g) (hW : wfL g) (hP : posR σ 20 g) (hR : ritR σ 20 g) (hL : lawR σ 5 g) (hl : (σ.1 0 11 = 0) ∨ lgR σ g) {i : Int32} {m : Nat} (hi : pickG g i = some m) : Ct yX9_move cX9_move 4 (some .int) 8 0 0 [.ref (ad 0), .int i, .int 2] ae ad sh σ (mPi ad sh (fun x σ' => x = movG g i 2 ∧ lgR σ' g ∧ (posR σ' 20 g ∧ ritR σ' 20 g) ∧ lawR σ' 5 g ∧ frB σ σ')) := by
  refine Ct.ofL (own := RX9) (ini := false) (ls := [some (.ref (ad 0)), some (.int i), some (.int 2), none]) (by decide +kernel) rfl (fun h => by cases h) (Nat.le_of_ble_eq_true rfl) rfl ?_
  have hm := pick_ok hG hW hi
  refine ev_aload_0 dX9_move_0 ?_
  refine cg_X9_202 (c_listed hb hG hW hP hR hL hl) hb.1 dX9_move_1 rfl (Nat.le_of_ble_eq_true rfl) (fun σ1 h1 => ?_)
  obtain ⟨h1, h2, f1⟩ := h1
  have hL1 := hL.B f1
  have h445 := legal_len hG
  refine ev_aload_0 dX9_move_4 ?_
  refine gf_X9_64 dX9_move_5 hb.1 rfl ?_
  refine ev_iload_1 dX9_move_8 ?_
  refine cl_X9_206 (c_moveAt hb.2.2.2.2.2.2.2.2.2.1 h1.2.1 h445) hb.2.2.2.2.2.2.2.2.2.1.1 dX9_move_9 rfl (Nat.le_of_ble_eq_true rfl) ?_
  rw [pick_some h1 hi]
  refine ev_istore_3 dX9_move_12 rfl rfl ?_
  refine ev_iload_3 dX9_move_13 ?_
  refine ev_if_ge (tgt := 19) dX9_move_14 (by decide) (fun h14 => ?_) (fun h14 => absurd (nI_pos' (by have := mvOk_lt hm; omega)) h14)
  refine ev_iload_2 dX9_move_19 ?_
  refine ev_tableIn (off := 59) (tgt := 79) dX9_move_20 (by decide) (by decide) (by decide) (by decide) ?_
  refine ev_aload_0 dX9_move_79 ?_
  refine ev_iload_3 dX9_move_80 ?_
  refine cl_X9_219 (c_to hb hG hW hL1 hm) hb.1 dX9_move_81 rfl (Nat.le_of_ble_eq_true rfl) ?_
  have hm2 := mvOk_lt hm
  have hcap := cap_le hG hm
  have hgo := goer_le hG hW hm
  have har := arr_ge hG hW hm
  have har2 := arr_le hG hW hm
  exact ev_pi dX9_move_84 ⟨by rw [movG, hi]; show _ = movA g m 2; unfold movA; simp, h1, h2, hL1, f1⟩
set_option maxRecDepth 100000 in
set_option maxHeartbeats 4000000 in
theorem c_move3 {ae ad : Nat → Nat} {sh : mSh} {σ : mSt} {g : Nat → Int32} (hb : mBoard ad sh) (hG : wfP g) (hW : wfL g) (hP : posR σ 20 g) (hR : ritR σ 20 g) (hL : lawR σ 5 g) (hl : (σ.1 0 11 = 0) ∨ lgR σ g) {i : Int32} {m : Nat} (hi : pickG g i = some m) : Ct yX9_move cX9_move 4 (some .int) 8 0 0 [.ref (ad 0), .int i, .int 3] ae ad sh σ (mPi ad sh (fun x σ' => x = movG g i 3 ∧ lgR σ' g ∧ (posR σ' 20 g ∧ ritR σ' 20 g) ∧ lawR σ' 5 g ∧ frB σ σ')) := by
  refine Ct.ofL (own := RX9) (ini := false) (ls := [some (.ref (ad 0)), some (.int i), some (.int 3), none]) (by decide +kernel) rfl (fun h => by cases h) (Nat.le_of_ble_eq_true rfl) rfl ?_
  have hm := pick_ok hG hW hi
  refine ev_aload_0 dX9_move_0 ?_
  refine cg_X9_202 (c_listed hb hG hW hP hR hL hl) hb.1 dX9_move_1 rfl (Nat.le_of_ble_eq_true rfl) (fun σ1 h1 => ?_)
  obtain ⟨h1, h2, f1⟩ := h1
  have hL1 := hL.B f1
  have h445 := legal_len hG
  refine ev_aload_0 dX9_move_4 ?_
  refine gf_X9_64 dX9_move_5 hb.1 rfl ?_
  refine ev_iload_1 dX9_move_8 ?_
  refine cl_X9_206 (c_moveAt hb.2.2.2.2.2.2.2.2.2.1 h1.2.1 h445) hb.2.2.2.2.2.2.2.2.2.1.1 dX9_move_9 rfl (Nat.le_of_ble_eq_true rfl) ?_
  rw [pick_some h1 hi]
  refine ev_istore_3 dX9_move_12 rfl rfl ?_
  refine ev_iload_3 dX9_move_13 ?_
  refine ev_if_ge (tgt := 19) dX9_move_14 (by decide) (fun h14 => ?_) (fun h14 => absurd (nI_pos' (by have := mvOk_lt hm; omega)) h14)
  refine ev_iload_2 dX9_move_19 ?_
  refine ev_tableIn (off := 65) (tgt := 85) dX9_move_20 (by decide) (by decide) (by decide) (by decide) ?_
  refine ev_aload_0 dX9_move_85 ?_
  refine gf_X9_33 dX9_move_86 hb.1 rfl ?_
  refine ev_aload_0 dX9_move_89 ?_
  refine gf_X9_47 dX9_move_90 hb.1 rfl ?_
  refine ev_iload_3 dX9_move_93 ?_
  refine cl_X9_222 (c_goer hb.2.2.2.2.1 hb.2.2.2.2.2.2.1 hG hW h2.1 hL1 hm) hb.2.2.2.2.1.1 dX9_move_94 rfl (Nat.le_of_ble_eq_true rfl) ?_
  refine cl_X9_226 c_typeOf dX9_move_97 rfl (Nat.le_of_ble_eq_true rfl) ?_
  have hm2 := mvOk_lt hm
  have hcap := cap_le hG hm
  have hgo := goer_le hG hW hm
  have har := arr_ge hG hW hm
  have har2 := arr_le hG hW hm
  exact ev_pi dX9_move_100 ⟨by rw [movG, hi]; show _ = movA g m 3; unfold movA; rw [tyR_nI hgo.1 (by omega)]; simp, h1, h2, hL1, f1⟩
set_option maxRecDepth 100000 in
set_option maxHeartbeats 4000000 in
theorem c_move4 {ae ad : Nat → Nat} {sh : mSh} {σ : mSt} {g : Nat → Int32} (hb : mBoard ad sh) (hG : wfP g) (hW : wfL g) (hP : posR σ 20 g) (hR : ritR σ 20 g) (hL : lawR σ 5 g) (hl : (σ.1 0 11 = 0) ∨ lgR σ g) {i : Int32} {m : Nat} (hi : pickG g i = some m) : Ct yX9_move cX9_move 4 (some .int) 8 0 0 [.ref (ad 0), .int i, .int 4] ae ad sh σ (mPi ad sh (fun x σ' => x = movG g i 4 ∧ lgR σ' g ∧ (posR σ' 20 g ∧ ritR σ' 20 g) ∧ lawR σ' 5 g ∧ frB σ σ')) := by
  refine Ct.ofL (own := RX9) (ini := false) (ls := [some (.ref (ad 0)), some (.int i), some (.int 4), none]) (by decide +kernel) rfl (fun h => by cases h) (Nat.le_of_ble_eq_true rfl) rfl ?_
  have hm := pick_ok hG hW hi
  refine ev_aload_0 dX9_move_0 ?_
  refine cg_X9_202 (c_listed hb hG hW hP hR hL hl) hb.1 dX9_move_1 rfl (Nat.le_of_ble_eq_true rfl) (fun σ1 h1 => ?_)
  obtain ⟨h1, h2, f1⟩ := h1
  have hL1 := hL.B f1
  have h445 := legal_len hG
  refine ev_aload_0 dX9_move_4 ?_
  refine gf_X9_64 dX9_move_5 hb.1 rfl ?_
  refine ev_iload_1 dX9_move_8 ?_
  refine cl_X9_206 (c_moveAt hb.2.2.2.2.2.2.2.2.2.1 h1.2.1 h445) hb.2.2.2.2.2.2.2.2.2.1.1 dX9_move_9 rfl (Nat.le_of_ble_eq_true rfl) ?_
  rw [pick_some h1 hi]
  refine ev_istore_3 dX9_move_12 rfl rfl ?_
  refine ev_iload_3 dX9_move_13 ?_
  refine ev_if_ge (tgt := 19) dX9_move_14 (by decide) (fun h14 => ?_) (fun h14 => absurd (nI_pos' (by have := mvOk_lt hm; omega)) h14)
  refine ev_iload_2 dX9_move_19 ?_
  refine ev_tableIn (off := 81) (tgt := 101) dX9_move_20 (by decide) (by decide) (by decide) (by decide) ?_
  refine ev_aload_0 dX9_move_101 ?_
  refine ev_iload_3 dX9_move_102 ?_
  refine cl_X9_229 (c_capType hb hG hW h2.1 hL1 hm) hb.1 dX9_move_103 rfl (Nat.le_of_ble_eq_true rfl) ?_
  have hm2 := mvOk_lt hm
  have hcap := cap_le hG hm
  have hgo := goer_le hG hW hm
  have har := arr_ge hG hW hm
  have har2 := arr_le hG hW hm
  exact ev_pi dX9_move_106 ⟨by rw [movG, hi]; show _ = movA g m 4; unfold movA; by_cases z : capN g m = 0 <;> simp [z]; rw [tyR_nI (by omega) (by omega)], h1, h2, hL1, f1⟩
set_option maxRecDepth 100000 in
set_option maxHeartbeats 4000000 in
theorem c_move5 {ae ad : Nat → Nat} {sh : mSh} {σ : mSt} {g : Nat → Int32} (hb : mBoard ad sh) (hG : wfP g) (hW : wfL g) (hP : posR σ 20 g) (hR : ritR σ 20 g) (hL : lawR σ 5 g) (hl : (σ.1 0 11 = 0) ∨ lgR σ g) {i : Int32} {m : Nat} (hi : pickG g i = some m) : Ct yX9_move cX9_move 4 (some .int) 8 0 0 [.ref (ad 0), .int i, .int 5] ae ad sh σ (mPi ad sh (fun x σ' => x = movG g i 5 ∧ lgR σ' g ∧ (posR σ' 20 g ∧ ritR σ' 20 g) ∧ lawR σ' 5 g ∧ frB σ σ')) := by
  refine Ct.ofL (own := RX9) (ini := false) (ls := [some (.ref (ad 0)), some (.int i), some (.int 5), none]) (by decide +kernel) rfl (fun h => by cases h) (Nat.le_of_ble_eq_true rfl) rfl ?_
  have hm := pick_ok hG hW hi
  refine ev_aload_0 dX9_move_0 ?_
  refine cg_X9_202 (c_listed hb hG hW hP hR hL hl) hb.1 dX9_move_1 rfl (Nat.le_of_ble_eq_true rfl) (fun σ1 h1 => ?_)
  obtain ⟨h1, h2, f1⟩ := h1
  have hL1 := hL.B f1
  have h445 := legal_len hG
  refine ev_aload_0 dX9_move_4 ?_
  refine gf_X9_64 dX9_move_5 hb.1 rfl ?_
  refine ev_iload_1 dX9_move_8 ?_
  refine cl_X9_206 (c_moveAt hb.2.2.2.2.2.2.2.2.2.1 h1.2.1 h445) hb.2.2.2.2.2.2.2.2.2.1.1 dX9_move_9 rfl (Nat.le_of_ble_eq_true rfl) ?_
  rw [pick_some h1 hi]
  refine ev_istore_3 dX9_move_12 rfl rfl ?_
  refine ev_iload_3 dX9_move_13 ?_
  refine ev_if_ge (tgt := 19) dX9_move_14 (by decide) (fun h14 => ?_) (fun h14 => absurd (nI_pos' (by have := mvOk_lt hm; omega)) h14)
  refine ev_iload_2 dX9_move_19 ?_
  refine ev_tableIn (off := 87) (tgt := 107) dX9_move_20 (by decide) (by decide) (by decide) (by decide) ?_
  refine ev_aload_0 dX9_move_107 ?_
  refine gf_X9_33 dX9_move_108 hb.1 rfl ?_
  refine ev_aload_0 dX9_move_111 ?_
  refine gf_X9_47 dX9_move_112 hb.1 rfl ?_
  refine ev_iload_3 dX9_move_115 ?_
  refine cl_X9_232 (c_arrival hb.2.2.2.2.1 hb.2.2.2.2.2.2.1 hG hW h2.1 hL1 hm) hb.2.2.2.2.1.1 dX9_move_116 rfl (Nat.le_of_ble_eq_true rfl) ?_
  refine cl_X9_226 c_typeOf dX9_move_119 rfl (Nat.le_of_ble_eq_true rfl) ?_
  have hm2 := mvOk_lt hm
  have hcap := cap_le hG hm
  have hgo := goer_le hG hW hm
  have har := arr_ge hG hW hm
  have har2 := arr_le hG hW hm
  exact ev_pi dX9_move_122 ⟨by rw [movG, hi]; show _ = movA g m 5; unfold movA; rw [tyR_nI har (by omega)]; simp, h1, h2, hL1, f1⟩
set_option maxRecDepth 100000 in
set_option maxHeartbeats 4000000 in
theorem c_move6 {ae ad : Nat → Nat} {sh : mSh} {σ : mSt} {g : Nat → Int32} (hb : mBoard ad sh) (hG : wfP g) (hW : wfL g) (hP : posR σ 20 g) (hR : ritR σ 20 g) (hL : lawR σ 5 g) (hl : (σ.1 0 11 = 0) ∨ lgR σ g) {i : Int32} {m : Nat} (hi : pickG g i = some m) : Ct yX9_move cX9_move 4 (some .int) 8 0 0 [.ref (ad 0), .int i, .int 6] ae ad sh σ (mPi ad sh (fun x σ' => x = movG g i 6 ∧ lgR σ' g ∧ (posR σ' 20 g ∧ ritR σ' 20 g) ∧ lawR σ' 5 g ∧ frB σ σ')) := by
  refine Ct.ofL (own := RX9) (ini := false) (ls := [some (.ref (ad 0)), some (.int i), some (.int 6), none]) (by decide +kernel) rfl (fun h => by cases h) (Nat.le_of_ble_eq_true rfl) rfl ?_
  have hm := pick_ok hG hW hi
  refine ev_aload_0 dX9_move_0 ?_
  refine cg_X9_202 (c_listed hb hG hW hP hR hL hl) hb.1 dX9_move_1 rfl (Nat.le_of_ble_eq_true rfl) (fun σ1 h1 => ?_)
  obtain ⟨h1, h2, f1⟩ := h1
  have hL1 := hL.B f1
  have h445 := legal_len hG
  refine ev_aload_0 dX9_move_4 ?_
  refine gf_X9_64 dX9_move_5 hb.1 rfl ?_
  refine ev_iload_1 dX9_move_8 ?_
  refine cl_X9_206 (c_moveAt hb.2.2.2.2.2.2.2.2.2.1 h1.2.1 h445) hb.2.2.2.2.2.2.2.2.2.1.1 dX9_move_9 rfl (Nat.le_of_ble_eq_true rfl) ?_
  rw [pick_some h1 hi]
  refine ev_istore_3 dX9_move_12 rfl rfl ?_
  refine ev_iload_3 dX9_move_13 ?_
  refine ev_if_ge (tgt := 19) dX9_move_14 (by decide) (fun h14 => ?_) (fun h14 => absurd (nI_pos' (by have := mvOk_lt hm; omega)) h14)
  refine ev_iload_2 dX9_move_19 ?_
  refine ev_tableIn (off := 103) (tgt := 123) dX9_move_20 (by decide) (by decide) (by decide) (by decide) ?_
  refine ev_aload_0 dX9_move_123 ?_
  refine ev_iload_3 dX9_move_124 ?_
  refine cg_X9_235 (c_gvCheck hb hG hW h2.1 h2.2 hL1 hm) hb.1 dX9_move_125 rfl (Nat.le_of_ble_eq_true rfl) (fun r2 σ2 h4 => ?_)
  obtain ⟨e4, h4, f4⟩ := h4
  subst e4
  refine ev_if_eq (tgt := 135) dX9_move_128 (by decide) (fun h128 => ?_) (fun h128 => ?_)
  · refine ev_iconst_0 dX9_move_135 ?_
    have hm2 := mvOk_lt hm
    have hcap := cap_le hG hm
    have hgo := goer_le hG hW hm
    have har := arr_ge hG hW hm
    have har2 := arr_le hG hW hm
    exact ev_pi dX9_move_136 ⟨by rw [movG, hi]; show _ = movA g m 6; unfold movA; cases z : chkB g m <;> simp_all [b2i], h1.P f4, h4, (hL1.fr f4 sep520), f1.P f4⟩
  · refine ev_iconst_1 dX9_move_131 ?_
    refine ev_goto (tgt := 136) dX9_move_132 (by decide) ?_
    have hm2 := mvOk_lt hm
    have hcap := cap_le hG hm
    have hgo := goer_le hG hW hm
    have har := arr_ge hG hW hm
    have har2 := arr_le hG hW hm
    exact ev_pi dX9_move_136 ⟨by rw [movG, hi]; show _ = movA g m 6; unfold movA; cases z : chkB g m <;> simp_all [b2i], h1.P f4, h4, (hL1.fr f4 sep520), f1.P f4⟩
set_option maxRecDepth 100000 in
set_option maxHeartbeats 4000000 in
theorem c_move7 {ae ad : Nat → Nat} {sh : mSh} {σ : mSt} {g : Nat → Int32} (hb : mBoard ad sh) (hG : wfP g) (hW : wfL g) (hP : posR σ 20 g) (hR : ritR σ 20 g) (hL : lawR σ 5 g) (hl : (σ.1 0 11 = 0) ∨ lgR σ g) {i : Int32} {m : Nat} (hi : pickG g i = some m) : Ct yX9_move cX9_move 4 (some .int) 8 0 0 [.ref (ad 0), .int i, .int 7] ae ad sh σ (mPi ad sh (fun x σ' => x = movG g i 7 ∧ lgR σ' g ∧ (posR σ' 20 g ∧ ritR σ' 20 g) ∧ lawR σ' 5 g ∧ frB σ σ')) := by
  refine Ct.ofL (own := RX9) (ini := false) (ls := [some (.ref (ad 0)), some (.int i), some (.int 7), none]) (by decide +kernel) rfl (fun h => by cases h) (Nat.le_of_ble_eq_true rfl) rfl ?_
  have hm := pick_ok hG hW hi
  refine ev_aload_0 dX9_move_0 ?_
  refine cg_X9_202 (c_listed hb hG hW hP hR hL hl) hb.1 dX9_move_1 rfl (Nat.le_of_ble_eq_true rfl) (fun σ1 h1 => ?_)
  obtain ⟨h1, h2, f1⟩ := h1
  have hL1 := hL.B f1
  have h445 := legal_len hG
  refine ev_aload_0 dX9_move_4 ?_
  refine gf_X9_64 dX9_move_5 hb.1 rfl ?_
  refine ev_iload_1 dX9_move_8 ?_
  refine cl_X9_206 (c_moveAt hb.2.2.2.2.2.2.2.2.2.1 h1.2.1 h445) hb.2.2.2.2.2.2.2.2.2.1.1 dX9_move_9 rfl (Nat.le_of_ble_eq_true rfl) ?_
  rw [pick_some h1 hi]
  refine ev_istore_3 dX9_move_12 rfl rfl ?_
  refine ev_iload_3 dX9_move_13 ?_
  refine ev_if_ge (tgt := 19) dX9_move_14 (by decide) (fun h14 => ?_) (fun h14 => absurd (nI_pos' (by have := mvOk_lt hm; omega)) h14)
  refine ev_iload_2 dX9_move_19 ?_
  refine ev_tableIn (off := 117) (tgt := 137) dX9_move_20 (by decide) (by decide) (by decide) (by decide) ?_
  refine ev_aload_0 dX9_move_137 ?_
  refine ev_iload_3 dX9_move_138 ?_
  refine cg_X9_238 (c_dgAfter hb hG hW h2.1 h2.2 hL1 hm) hb.1 dX9_move_139 rfl (Nat.le_of_ble_eq_true rfl) (fun r2 σ2 h4 => ?_)
  obtain ⟨⟨σ3, q1, q2, e4⟩, h4, f4⟩ := h4
  have e5 : r2 = dgG (playsG g m) := by rw [e4, ← pl_sq2 hG hW, dgQ_G (pl_wfP hG hW hm) q1 q2]
  have hm2 := mvOk_lt hm
  have hcap := cap_le hG hm
  have hgo := goer_le hG hW hm
  have har := arr_ge hG hW hm
  have har2 := arr_le hG hW hm
  exact ev_pi dX9_move_142 ⟨by rw [movG, hi]; show _ = movA g m 7; unfold movA; rw [e5]; simp, h1.P f4, h4, (hL1.fr f4 sep520), f1.P f4⟩
set_option maxRecDepth 100000 in
set_option maxHeartbeats 4000000 in
theorem c_moveN {ae ad : Nat → Nat} {sh : mSh} {σ : mSt} {g : Nat → Int32} (hb : mBoard ad sh) (hG : wfP g) (hW : wfL g) (hP : posR σ 20 g) (hR : ritR σ 20 g) (hL : lawR σ 5 g) (hl : (σ.1 0 11 = 0) ∨ lgR σ g) {i c : Int32} {m : Nat} (hi : pickG g i = some m) (hc : c.toInt < 0 ∨ 7 < c.toInt) : Ct yX9_move cX9_move 4 (some .int) 8 0 0 [.ref (ad 0), .int i, .int c] ae ad sh σ (mPi ad sh (fun x σ' => x = movG g i c ∧ lgR σ' g ∧ (posR σ' 20 g ∧ ritR σ' 20 g) ∧ lawR σ' 5 g ∧ frB σ σ')) := by
  refine Ct.ofL (own := RX9) (ini := false) (ls := [some (.ref (ad 0)), some (.int i), some (.int c), none]) (by decide +kernel) rfl (fun h => by cases h) (Nat.le_of_ble_eq_true rfl) rfl ?_
  have hm := pick_ok hG hW hi
  refine ev_aload_0 dX9_move_0 ?_
  refine cg_X9_202 (c_listed hb hG hW hP hR hL hl) hb.1 dX9_move_1 rfl (Nat.le_of_ble_eq_true rfl) (fun σ1 h1 => ?_)
  obtain ⟨h1, h2, f1⟩ := h1
  have hL1 := hL.B f1
  have h445 := legal_len hG
  refine ev_aload_0 dX9_move_4 ?_
  refine gf_X9_64 dX9_move_5 hb.1 rfl ?_
  refine ev_iload_1 dX9_move_8 ?_
  refine cl_X9_206 (c_moveAt hb.2.2.2.2.2.2.2.2.2.1 h1.2.1 h445) hb.2.2.2.2.2.2.2.2.2.1.1 dX9_move_9 rfl (Nat.le_of_ble_eq_true rfl) ?_
  rw [pick_some h1 hi]
  refine ev_istore_3 dX9_move_12 rfl rfl ?_
  refine ev_iload_3 dX9_move_13 ?_
  refine ev_if_ge (tgt := 19) dX9_move_14 (by decide) (fun h14 => ?_) (fun h14 => absurd (nI_pos' (by have := mvOk_lt hm; omega)) h14)
  refine ev_iload_2 dX9_move_19 ?_
  refine ev_tableOut (tgt := 143) dX9_move_20 hc (by decide) ?_
  refine ev_iconst_m1 dX9_move_143 ?_
  refine ev_pi dX9_move_144 ⟨?_, h1, h2, hL1, f1⟩
  rw [movG, hi]
  have n : ∀ z : Int32, 0 ≤ z.toInt → z.toInt ≤ 7 → ¬ c = z := fun z a b e => by rw [e] at hc; omega
  show _ = movA g m c
  unfold movA
  rw [if_neg (n 0 (by decide) (by decide)), if_neg (n 1 (by decide) (by decide)), if_neg (n 2 (by decide) (by decide)), if_neg (n 3 (by decide) (by decide)), if_neg (n 4 (by decide) (by decide)), if_neg (n 5 (by decide) (by decide)), if_neg (n 6 (by decide) (by decide)), if_neg (n 7 (by decide) (by decide))]
theorem tab_in {c : Int32} {n : Nat} (hn : n < 2 ^ 31) (h : ¬ (c.toInt < 0 ∨ (n : Int) < c.toInt)) : ∃ k, k ≤ n ∧ c = nI k := by
  have h0 : ¬ c < 0 := fun z => h (Or.inl (by have := Int32.lt_iff_toInt_lt.mp z; simpa using this))
  obtain ⟨j, hj, e⟩ := nI_of h0
  refine ⟨j, ?_, e⟩
  subst e
  have : (nI j).toInt = (j : Int) := nI_toInt hj
  omega
theorem c_move {ae ad : Nat → Nat} {sh : mSh} {σ : mSt} {g : Nat → Int32} (hb : mBoard ad sh) (hG : wfP g) (hW : wfL g) (hP : posR σ 20 g) (hR : ritR σ 20 g) (hL : lawR σ 5 g) (hl : (σ.1 0 11 = 0) ∨ lgR σ g) {i c : Int32} : Ct yX9_move cX9_move 4 (some .int) 8 0 0 [.ref (ad 0), .int i, .int c] ae ad sh σ (mPi ad sh (fun x σ' => x = movG g i c ∧ lgR σ' g ∧ (posR σ' 20 g ∧ ritR σ' 20 g) ∧ lawR σ' 5 g ∧ frB σ σ')) := by
  rcases hi : pickG g i with _ | m
  · exact c_moveNo hb hG hW hP hR hL hl hi
  · by_cases hc : c.toInt < 0 ∨ 7 < c.toInt
    · exact c_moveN hb hG hW hP hR hL hl hi hc
    · obtain ⟨k, hk, e⟩ := tab_in (n := 7) (by decide) hc
      subst e
      rcases (show k = 0 ∨ k = 1 ∨ k = 2 ∨ k = 3 ∨ k = 4 ∨ k = 5 ∨ k = 6 ∨ k = 7 by omega) with e | e | e | e | e | e | e | e <;> subst e
      · exact c_move0 hb hG hW hP hR hL hl hi
      · exact c_move1 hb hG hW hP hR hL hl hi
      · exact c_move2 hb hG hW hP hR hL hl hi
      · exact c_move3 hb hG hW hP hR hL hl hi
      · exact c_move4 hb hG hW hP hR hL hl hi
      · exact c_move5 hb hG hW hP hR hL hl hi
      · exact c_move6 hb hG hW hP hR hL hl hi
      · exact c_move7 hb hG hW hP hR hL hl hi
