theorem legal_ok {g : Nat → Int32} (hG : wfP g) (hW : wfL g) {m : Nat} (h : m ∈ legalG g) : mvOk g m := cand_ok hG hW (List.mem_filter.mp h).1
/-- the legal moves of the kind c -/
def kindG (g : Nat → Int32) (c : Int32) : List Nat := (legalG g).filter (fun m => kinB g m c)

set_option maxRecDepth 100000 in
set_option maxHeartbeats 4000000 in
theorem c_moves_19 {ae ad : Nat → Nat} {sh : mSh} {σ : mSt} {g : Nat → Int32} {c : Int32} (hb : mBoard ad sh) (hG : wfP g) (hW : wfL g) (hP : posR σ 20 g) (hL : lawR σ 5 g) (hlg : lgR σ g) {P : Int32 → mSt → Prop} (hE : P (nI (kindG g c).length) σ) : ∀ (n i : Nat), (legalG g).length - i = n → i ≤ (legalG g).length → Ev RX9 cX9_moves 4 false (some .int) (mRm 8 0 0) ae (mPi ad sh P) 19 [some (.ref (ad 0)), some (.int c), some (.int (nI (((legalG g).take i).filter (fun m => kinB g m c)).length)), some (.int (nI i))] [] 0 0 ad sh σ := by
  have h445 := legal_len hG
  intro n
  induction n with
  | zero =>
    intro i hn hi
    have e : i = (legalG g).length := by omega
    subst e
    refine ev_iload_3 dX9_moves_19 ?_
    refine ev_aload_0 dX9_moves_20 ?_
    refine gf_X9_64 dX9_moves_21 hb.1 rfl ?_
    refine gf_X9_205 dX9_moves_24 hb.2.2.2.2.2.2.2.2.2.1.1 rfl ?_
    rw [hlg.2.1]
    refine ev_icmp_ge (tgt := 55) dX9_moves_27 (by decide) (fun h27 => ?_) (fun h27 => absurd (Int32.le_refl _) h27)
    refine ev_iload_2 dX9_moves_55 ?_
    exact ev_pi dX9_moves_56 (by rw [List.take_length]; exact hE)
  | succ n ih =>
    intro i hn hi
    have hlt : i < (legalG g).length := by omega
    obtain ⟨m, hx⟩ : ∃ m, (legalG g)[i]? = some m := ⟨_, List.getElem?_eq_getElem hlt⟩
    have hm : mvOk g m := legal_ok hG hW (List.mem_of_getElem? hx)
    refine ev_iload_3 dX9_moves_19 ?_
    refine ev_aload_0 dX9_moves_20 ?_
    refine gf_X9_64 dX9_moves_21 hb.1 rfl ?_
    refine gf_X9_205 dX9_moves_24 hb.2.2.2.2.2.2.2.2.2.1.1 rfl ?_
    rw [hlg.2.1]
    refine ev_icmp_ge (tgt := 55) dX9_moves_27 (by decide) (fun h27 => absurd h27 (nI_ge hlt (by omega))) (fun h27 => ?_)
    refine ev_aload_0 dX9_moves_30 ?_
    refine ev_aload_0 dX9_moves_31 ?_
    refine gf_X9_64 dX9_moves_32 hb.1 rfl ?_
    refine ev_iload_3 dX9_moves_35 ?_
    refine cl_X9_206 (c_moveAt hb.2.2.2.2.2.2.2.2.2.1 hlg.2.1 h445) hb.2.2.2.2.2.2.2.2.2.1.1 dX9_moves_36 rfl (Nat.le_of_ble_eq_true rfl) ?_
    rw [cellD_nI (by omega) hlt, hlg.2.2.2 i m hx]
    refine ev_iload_1 dX9_moves_39 ?_
    refine cl_X9_209 (c_isOfKind hb hG hW hP hL hm) hb.1 dX9_moves_40 rfl (Nat.le_of_ble_eq_true rfl) ?_
    refine ev_if_eq (tgt := 49) dX9_moves_43 (by decide) (fun h43 => ?_) (fun h43 => ?_)
    · have hok : kinB g m c = false := (b2i_0 _).mp h43
      refine ev_iinc_3 (v := 1) dX9_moves_49 (by decide) rfl rfl ?_
      refine ev_goto (tgt := 19) dX9_moves_52 (by decide) ?_
      exact Ev.to (by rw [nI_1, flt_succ hx, hok, if_neg (by decide), List.append_nil]) rfl rfl (ih (i + 1) (by omega) (by omega))
    · have hok : kinB g m c = true := b2i_t h43
      refine ev_iinc_2 (v := 1) dX9_moves_46 (by decide) rfl rfl ?_
      skip
      refine ev_iinc_3 (v := 1) dX9_moves_49 (by decide) rfl rfl ?_
      refine ev_goto (tgt := 19) dX9_moves_52 (by decide) ?_
      exact Ev.to (by rw [nI_1, nI_1, flt_succ hx, hok, if_pos rfl, List.length_append]; rfl) rfl rfl (ih (i + 1) (by omega) (by omega))
set_option maxRecDepth 100000 in
set_option maxHeartbeats 4000000 in
theorem c_movesNo {ae ad : Nat → Nat} {sh : mSh} {σ : mSt} {c : Int32} (hb : mBoard ad sh) (hc : c < 0 ∨ 5 < c) : Ct yX9_moves cX9_moves 4 (some .int) 8 0 0 [.ref (ad 0), .int c] ae ad sh σ (mEq (some (.int (-1))) ad sh σ) := by
  refine Ct.ofL (own := RX9) (ini := false) (ls := [some (.ref (ad 0)), some (.int c), none, none]) (by decide +kernel) rfl (fun h => by cases h) (Nat.le_of_ble_eq_true rfl) rfl ?_
  refine ev_iload_1 dX9_moves_0 ?_
  refine ev_if_lt (tgt := 9) dX9_moves_1 (by decide) (fun h1 => ?_) (fun h1 => ?_)
  · refine ev_iconst_m1 dX9_moves_9 ?_
    exact ev_ireturn dX9_moves_10
  · refine ev_iload_1 dX9_moves_4 ?_
    refine ev_iconst_5 dX9_moves_5 ?_
    refine ev_icmp_le (tgt := 11) dX9_moves_6 (by decide) (fun h6 => ?_) (fun h6 => ?_)
    · exact absurd hc (fun z => z.elim h1 (fun y => Int32.not_le.mpr y h6))
    · refine ev_iconst_m1 dX9_moves_9 ?_
      exact ev_ireturn dX9_moves_10
set_option maxRecDepth 100000 in
set_option maxHeartbeats 4000000 in
theorem c_moves {ae ad : Nat → Nat} {sh : mSh} {σ : mSt} {g : Nat → Int32} {c : Int32} (hb : mBoard ad sh) (hc : ¬ (c < 0 ∨ 5 < c)) (hG : wfP g) (hW : wfL g) (hP : posR σ 20 g) (hR : ritR σ 20 g) (hL : lawR σ 5 g) (hl : (σ.1 0 11 = 0) ∨ lgR σ g) : Ct yX9_moves cX9_moves 4 (some .int) 8 0 0 [.ref (ad 0), .int c] ae ad sh σ (mPi ad sh (fun x σ' => x = nI (kindG g c).length ∧ lgR σ' g ∧ (posR σ' 20 g ∧ ritR σ' 20 g) ∧ lawR σ' 5 g ∧ frB σ σ')) := by
  refine Ct.ofL (own := RX9) (ini := false) (ls := [some (.ref (ad 0)), some (.int c), none, none]) (by decide +kernel) rfl (fun h => by cases h) (Nat.le_of_ble_eq_true rfl) rfl ?_
  refine ev_iload_1 dX9_moves_0 ?_
  refine ev_if_lt (tgt := 9) dX9_moves_1 (by decide) (fun h1 => ?_) (fun h1 => ?_)
  · exact absurd (by first | exact Or.inl h1 | exact Or.inr (Int32.not_le.mp h6)) hc
  · refine ev_iload_1 dX9_moves_4 ?_
    refine ev_iconst_5 dX9_moves_5 ?_
    refine ev_icmp_le (tgt := 11) dX9_moves_6 (by decide) (fun h6 => ?_) (fun h6 => ?_)
    · refine ev_aload_0 dX9_moves_11 ?_
      refine cg_X9_202 (c_listed hb hG hW hP hR hL hl) hb.1 dX9_moves_12 rfl (Nat.le_of_ble_eq_true rfl) (fun σ1 h1 => ?_)
      obtain ⟨h1, h2, f1⟩ := h1
      have hL1 := hL.B f1
      refine ev_iconst_0 dX9_moves_15 ?_
      refine ev_istore_2 dX9_moves_16 rfl rfl ?_
      refine ev_iconst_0 dX9_moves_17 ?_
      refine ev_istore_3 dX9_moves_18 rfl rfl ?_
      exact c_moves_19 hb hG hW h2.1 hL1 h1 ⟨rfl, h1, h2, hL1, f1⟩ _ 0 rfl (Nat.zero_le _)
    · exact absurd (by first | exact Or.inl h1 | exact Or.inr (Int32.not_le.mp h6)) hc
