/-- only the position and the counter's rows have changed -/
def frC (σ σ' : mSt) : Prop := ∀ k, k ≠ 20 → k ≠ 21 → k ≠ 22 → (k < 33 ∨ 42 < k) → σ'.1 k = σ.1 k ∧ σ'.2 k = σ.2 k
def seqG (g : Nat → Int32) (d : Int32) : Nat := if d = 0 then 1 else if d = 1 then (legalG g).length else pairG g
theorem sp33 : sepP (32 + 1) 20 ∧ sepP (32 + 3) 20 ∧ sepW (32 + 1) 5 ∧ sepW (32 + 3) 5 := by unfold sepP sepW; omega

set_option maxRecDepth 100000 in
set_option maxHeartbeats 4000000 in
theorem c_seqNo1 {ae ad : Nat → Nat} {sh : mSh} {σ : mSt} {d x : Int32} (hb : mBoard ad sh) (hd : d < 0 ∨ 2 < d) : Ct yX9_sequences cX9_sequences 3 (some .int) 7 0 0 [.ref (ad 0), .int d, .int x] ae ad sh σ (mEq (some (.int (-2))) ad sh σ) := by
  refine Ct.ofL (own := RX9) (ini := false) (ls := [some (.ref (ad 0)), some (.int d), some (.int x)]) (by decide +kernel) rfl (fun h => by cases h) (Nat.le_of_ble_eq_true rfl) rfl ?_
  refine ev_iload_1 dX9_sequences_0 ?_
  refine ev_if_lt (tgt := 9) dX9_sequences_1 (by decide) (fun h1 => ?_) (fun h1 => ?_)
  · refine ev_bipush_m2 dX9_sequences_9 ?_
    exact ev_ireturn dX9_sequences_11
  · refine ev_iload_1 dX9_sequences_4 ?_
    refine ev_iconst_2 dX9_sequences_5 ?_
    refine ev_icmp_le (tgt := 12) dX9_sequences_6 (by decide) (fun h6 => ?_) (fun h6 => ?_)
    · exact absurd hd (fun z => z.elim h1 (fun y => Int32.not_le.mpr y h6))
    · refine ev_bipush_m2 dX9_sequences_9 ?_
      exact ev_ireturn dX9_sequences_11
set_option maxRecDepth 100000 in
set_option maxHeartbeats 4000000 in
theorem c_seqNo2 {ae ad : Nat → Nat} {sh : mSh} {σ : mSt} {d x : Int32} (hb : mBoard ad sh) (hd : ¬ (d < 0 ∨ 2 < d)) (hx : isBt x = false) : Ct yX9_sequences cX9_sequences 3 (some .int) 7 0 0 [.ref (ad 0), .int d, .int x] ae ad sh σ (mEq (some (.int (-1))) ad sh σ) := by
  refine Ct.ofL (own := RX9) (ini := false) (ls := [some (.ref (ad 0)), some (.int d), some (.int x)]) (by decide +kernel) rfl (fun h => by cases h) (Nat.le_of_ble_eq_true rfl) rfl ?_
  refine ev_iload_1 dX9_sequences_0 ?_
  refine ev_if_lt (tgt := 9) dX9_sequences_1 (by decide) (fun h1 => ?_) (fun h1 => ?_)
  · exact absurd (by first | exact Or.inl h1 | exact Or.inr (Int32.not_le.mp h6)) hd
  · refine ev_iload_1 dX9_sequences_4 ?_
    refine ev_iconst_2 dX9_sequences_5 ?_
    refine ev_icmp_le (tgt := 12) dX9_sequences_6 (by decide) (fun h6 => ?_) (fun h6 => ?_)
    · refine ev_iload_2 dX9_sequences_12 ?_
      refine cl_X9_124 c_isBit dX9_sequences_13 rfl (Nat.le_of_ble_eq_true rfl) ?_
      refine ev_if_ne (tgt := 21) dX9_sequences_16 (by decide) (fun h16 => absurd h16 (by rw [hx]; decide)) (fun h16 => ?_)
      refine ev_iconst_m1 dX9_sequences_19 ?_
      exact ev_ireturn dX9_sequences_20
    · exact absurd (by first | exact Or.inl h1 | exact Or.inr (Int32.not_le.mp h6)) hd
set_option maxRecDepth 100000 in
set_option maxHeartbeats 4000000 in
theorem c_seq {ae ad : Nat → Nat} {sh : mSh} {σ : mSt} {d : Int32} {k : Nat} {g : Nat → Int32} (hb : mBoard ad sh) (hd : ¬ (d < 0 ∨ 2 < d)) (hk : k ≤ 1) (hG : wfP g) (hW : wfL g) (hP : posR σ 20 g) (hR : ritR σ 20 g) (hL : lawR σ 5 g) : Ct yX9_sequences cX9_sequences 3 (some .int) 7 0 0 [.ref (ad 0), .int d, .int (nI k)] ae ad sh σ (mPi ad sh (fun x σ' => x = nI (seqG g d) ∧ (posR σ' 20 g ∧ ritR σ' 20 g) ∧ frC σ σ')) := by
  refine Ct.ofL (own := RX9) (ini := false) (ls := [some (.ref (ad 0)), some (.int d), some (.int (nI k))]) (by decide +kernel) rfl (fun h => by cases h) (Nat.le_of_ble_eq_true rfl) rfl ?_
  refine ev_iload_1 dX9_sequences_0 ?_
  refine ev_if_lt (tgt := 9) dX9_sequences_1 (by decide) (fun h1 => ?_) (fun h1 => ?_)
  · exact absurd (by first | exact Or.inl h1 | exact Or.inr (Int32.not_le.mp h6)) hd
  · refine ev_iload_1 dX9_sequences_4 ?_
    refine ev_iconst_2 dX9_sequences_5 ?_
    refine ev_icmp_le (tgt := 12) dX9_sequences_6 (by decide) (fun h6 => ?_) (fun h6 => ?_)
    · refine ev_iload_2 dX9_sequences_12 ?_
      refine cl_X9_124 c_isBit dX9_sequences_13 rfl (Nat.le_of_ble_eq_true rfl) ?_
      refine ev_if_ne (tgt := 21) dX9_sequences_16 (by decide) (fun h16 => ?_) (fun h16 => ?_)
      · refine ev_iload_1 dX9_sequences_21 ?_
        refine ev_if_ne (tgt := 27) dX9_sequences_22 (by decide) (fun h22 => ?_) (fun h22 => ?_)
        · refine ev_iload_2 dX9_sequences_27 ?_
          refine ev_if_ne (tgt := 62) dX9_sequences_28 (by decide) (fun h28 => ?_) (fun h28 => ?_)
          · refine ev_iload_1 dX9_sequences_62 ?_
            refine ev_iconst_1 dX9_sequences_63 ?_
            refine ev_icmp_ne (tgt := 81) dX9_sequences_64 (by decide) (fun h64 => ?_) (fun h64 => ?_)
            · refine ev_aload_0 dX9_sequences_81 ?_
              refine gf_X9_73 dX9_sequences_82 hb.1 rfl ?_
              refine ev_aload_0 dX9_sequences_85 ?_
              refine gf_X9_47 dX9_sequences_86 hb.1 rfl ?_
              refine cg_X9_310 (c_pairsCopied hb.2.2.2.2.2.2.2.2.2.2.1 hb.2.2.2.2.2.2.1 sp33.1 (by omega) (by omega) (by omega) hG hW hP hR hL) hb.2.2.2.2.2.2.2.2.2.2.1.1 dX9_sequences_89 rfl (Nat.le_of_ble_eq_true rfl) (fun r1 σ1 h1z => ?_)
              obtain ⟨e1, f1⟩ := h1z
              subst e1
              have h1p := posR_S hP hR f1 (by omega) (by omega)
              first
              | exact ev_pi dX9_sequences_92 ⟨by rw [seqG, if_pos h22]; rfl, ⟨hP, hR⟩, fun k _ _ _ _ => ⟨rfl, rfl⟩⟩
              | exact ev_pi dX9_sequences_92 ⟨by rw [seqG, if_neg h22, if_pos h33], h1p, fun k a b c e => f1 k a b c (by omega) (by omega)⟩
              | exact ev_pi dX9_sequences_92 ⟨by rw [seqG, if_neg h22, if_neg h33], h1p, fun k a b c e => f1 k a b c (by omega)⟩
              | exact ev_pi dX9_sequences_92 ⟨by rw [seqG, if_neg h22, if_pos h64], h1p, fun k a b c e => f1 k (by omega) (by omega) (by omega) (by omega) (by omega)⟩
              | exact ev_pi dX9_sequences_92 ⟨by rw [seqG, if_neg h22, if_neg h64], h1p, fun k a b c e => f1 k (by omega) (by omega) (by omega) (by omega)⟩
            · refine ev_aload_0 dX9_sequences_67 ?_
              refine gf_X9_73 dX9_sequences_68 hb.1 rfl ?_
              refine ev_aload_0 dX9_sequences_71 ?_
              refine gf_X9_47 dX9_sequences_72 hb.1 rfl ?_
              refine cg_X9_307 (c_movesCopied hb.2.2.2.2.2.2.2.2.2.2.1 hb.2.2.2.2.2.2.1 sp33.2.1 (by omega) (by omega) hG hW hP hR hL) hb.2.2.2.2.2.2.2.2.2.2.1.1 dX9_sequences_75 rfl (Nat.le_of_ble_eq_true rfl) (fun r1 σ1 h1z => ?_)
              obtain ⟨e1, f1⟩ := h1z
              subst e1
              have h1p := posR_X hP hR f1 (by omega) sp33.2.1
              refine ev_goto (tgt := 92) dX9_sequences_78 (by decide) ?_
              first
              | exact ev_pi dX9_sequences_92 ⟨by rw [seqG, if_pos h22]; rfl, ⟨hP, hR⟩, fun k _ _ _ _ => ⟨rfl, rfl⟩⟩
              | exact ev_pi dX9_sequences_92 ⟨by rw [seqG, if_neg h22, if_pos h33], h1p, fun k a b c e => f1 k a b c (by omega) (by omega)⟩
              | exact ev_pi dX9_sequences_92 ⟨by rw [seqG, if_neg h22, if_neg h33], h1p, fun k a b c e => f1 k a b c (by omega)⟩
              | exact ev_pi dX9_sequences_92 ⟨by rw [seqG, if_neg h22, if_pos h64], h1p, fun k a b c e => f1 k (by omega) (by omega) (by omega) (by omega) (by omega)⟩
              | exact ev_pi dX9_sequences_92 ⟨by rw [seqG, if_neg h22, if_neg h64], h1p, fun k a b c e => f1 k (by omega) (by omega) (by omega) (by omega)⟩
          · refine ev_iload_1 dX9_sequences_31 ?_
            refine ev_iconst_1 dX9_sequences_32 ?_
            refine ev_icmp_ne (tgt := 50) dX9_sequences_33 (by decide) (fun h33 => ?_) (fun h33 => ?_)
            · refine ev_aload_0 dX9_sequences_50 ?_
              refine gf_X9_73 dX9_sequences_51 hb.1 rfl ?_
              refine ev_aload_0 dX9_sequences_54 ?_
              refine gf_X9_47 dX9_sequences_55 hb.1 rfl ?_
              refine cg_X9_304 (c_pairsMade hb.2.2.2.2.2.2.2.2.2.2.1 hb.2.2.2.2.2.2.1 sp33.1 sp33.2.1 sp33.2.2.1 sp33.2.2.2 sep520 (by omega) hG hW hP hR hL) hb.2.2.2.2.2.2.2.2.2.2.1.1 dX9_sequences_58 rfl (Nat.le_of_ble_eq_true rfl) (fun r1 σ1 h1z => ?_)
              obtain ⟨e1, h1p, f1⟩ := h1z
              subst e1
              first
              | exact ev_pi dX9_sequences_61 ⟨by rw [seqG, if_pos h22]; rfl, ⟨hP, hR⟩, fun k _ _ _ _ => ⟨rfl, rfl⟩⟩
              | exact ev_pi dX9_sequences_61 ⟨by rw [seqG, if_neg h22, if_pos h33], h1p, fun k a b c e => f1 k a b c (by omega) (by omega)⟩
              | exact ev_pi dX9_sequences_61 ⟨by rw [seqG, if_neg h22, if_neg h33], h1p, fun k a b c e => f1 k a b c (by omega)⟩
              | exact ev_pi dX9_sequences_61 ⟨by rw [seqG, if_neg h22, if_pos h64], h1p, fun k a b c e => f1 k (by omega) (by omega) (by omega) (by omega) (by omega)⟩
              | exact ev_pi dX9_sequences_61 ⟨by rw [seqG, if_neg h22, if_neg h64], h1p, fun k a b c e => f1 k (by omega) (by omega) (by omega) (by omega)⟩
            · refine ev_aload_0 dX9_sequences_36 ?_
              refine gf_X9_73 dX9_sequences_37 hb.1 rfl ?_
              refine ev_aload_0 dX9_sequences_40 ?_
              refine gf_X9_47 dX9_sequences_41 hb.1 rfl ?_
              refine cg_X9_301 (c_movesMade hb.2.2.2.2.2.2.2.2.2.2.1 hb.2.2.2.2.2.2.1 sp33.2.1 sp33.2.2.2 sep520 hG hW hP hR hL) hb.2.2.2.2.2.2.2.2.2.2.1.1 dX9_sequences_44 rfl (Nat.le_of_ble_eq_true rfl) (fun r1 σ1 h1z => ?_)
              obtain ⟨e1, h1p, f1⟩ := h1z
              subst e1
              refine ev_goto (tgt := 61) dX9_sequences_47 (by decide) ?_
              first
              | exact ev_pi dX9_sequences_61 ⟨by rw [seqG, if_pos h22]; rfl, ⟨hP, hR⟩, fun k _ _ _ _ => ⟨rfl, rfl⟩⟩
              | exact ev_pi dX9_sequences_61 ⟨by rw [seqG, if_neg h22, if_pos h33], h1p, fun k a b c e => f1 k a b c (by omega) (by omega)⟩
              | exact ev_pi dX9_sequences_61 ⟨by rw [seqG, if_neg h22, if_neg h33], h1p, fun k a b c e => f1 k a b c (by omega)⟩
              | exact ev_pi dX9_sequences_61 ⟨by rw [seqG, if_neg h22, if_pos h64], h1p, fun k a b c e => f1 k (by omega) (by omega) (by omega) (by omega) (by omega)⟩
              | exact ev_pi dX9_sequences_61 ⟨by rw [seqG, if_neg h22, if_neg h64], h1p, fun k a b c e => f1 k (by omega) (by omega) (by omega) (by omega)⟩
        · refine ev_iconst_1 dX9_sequences_25 ?_
          first
          | exact ev_pi dX9_sequences_26 ⟨by rw [seqG, if_pos h22]; rfl, ⟨hP, hR⟩, fun k _ _ _ _ => ⟨rfl, rfl⟩⟩
          | exact ev_pi dX9_sequences_26 ⟨by rw [seqG, if_neg h22, if_pos h33], h1p, fun k a b c e => f1 k a b c (by omega) (by omega)⟩
          | exact ev_pi dX9_sequences_26 ⟨by rw [seqG, if_neg h22, if_neg h33], h1p, fun k a b c e => f1 k a b c (by omega)⟩
          | exact ev_pi dX9_sequences_26 ⟨by rw [seqG, if_neg h22, if_pos h64], h1p, fun k a b c e => f1 k (by omega) (by omega) (by omega) (by omega) (by omega)⟩
          | exact ev_pi dX9_sequences_26 ⟨by rw [seqG, if_neg h22, if_neg h64], h1p, fun k a b c e => f1 k (by omega) (by omega) (by omega) (by omega)⟩
      · exact absurd h16 (by rw [isBt_of hk]; decide)
    · exact absurd (by first | exact Or.inl h1 | exact Or.inr (Int32.not_le.mp h6)) hd
