set_option maxRecDepth 100000 in
set_option maxHeartbeats 4000000 in
theorem c_typeNo {ae ad : Nat → Nat} {sh : mSh} {σ : mSt} {x c v : Int32} (hb : mBoard ad sh) (h : ¬ (isTy x = true ∧ ¬ (c < 0 ∨ 1 < c))) : Ct yX9_type cX9_type 6 (some .int) 3 0 0 [.ref (ad 0), .int x, .int c, .int v] ae ad sh σ (mEq (some (.int (-1))) ad sh σ) := by
  refine Ct.ofL (own := RX9) (ini := false) (ls := [some (.ref (ad 0)), some (.int x), some (.int c), some (.int v), none, none]) (by decide +kernel) rfl (fun h => by cases h) (Nat.le_of_ble_eq_true rfl) rfl ?_
  refine ev_iload_1 dX9_type_0 ?_
  refine cl_X9_109 c_isType dX9_type_1 rfl (Nat.le_of_ble_eq_true rfl) ?_
  refine ev_if_eq (tgt := 16) dX9_type_4 (by decide) (fun h4 => ?_) (fun h4 => ?_)
  · refine ev_iconst_m1 dX9_type_16 ?_
    exact ev_ireturn dX9_type_17
  · refine ev_iload_2 dX9_type_7 ?_
    refine ev_if_lt (tgt := 16) dX9_type_8 (by decide) (fun h8 => ?_) (fun h8 => ?_)
    · refine ev_iconst_m1 dX9_type_16 ?_
      exact ev_ireturn dX9_type_17
    · refine ev_iload_2 dX9_type_11 ?_
      refine ev_iconst_1 dX9_type_12 ?_
      refine ev_icmp_le (tgt := 18) dX9_type_13 (by decide) (fun h13 => ?_) (fun h13 => ?_)
      · exact absurd ⟨b2i_t h4, fun z => z.elim h8 (fun y => Int32.not_le.mpr y h13)⟩ h
      · refine ev_iconst_m1 dX9_type_16 ?_
        exact ev_ireturn dX9_type_17
set_option maxRecDepth 100000 in
set_option maxHeartbeats 4000000 in
theorem c_typeBad0 {ae ad : Nat → Nat} {sh : mSh} {σ : mSt} {v : Int32} (hb : mBoard ad sh) {t : Nat} (ht : t < 6) (h : isBt v = false) : Ct yX9_type cX9_type 6 (some .int) 3 0 0 [.ref (ad 0), .int (nI t), .int 0, .int v] ae ad sh σ (mEq (some (.int (-2))) ad sh σ) := by
  refine Ct.ofL (own := RX9) (ini := false) (ls := [some (.ref (ad 0)), some (.int (nI t)), some (.int 0), some (.int v), none, none]) (by decide +kernel) rfl (fun h => by cases h) (Nat.le_of_ble_eq_true rfl) rfl ?_
  refine ev_iload_1 dX9_type_0 ?_
  refine cl_X9_109 c_isType dX9_type_1 rfl (Nat.le_of_ble_eq_true rfl) ?_
  refine ev_if_eq (tgt := 16) dX9_type_4 (by decide) (fun h4 => ?_) (fun h4 => ?_)
  · first
    | exact absurd ((b2i_0 _).mp h4) (by rw [isTy_of ht]; decide)
    | exact absurd h8 (by decide)
    | exact absurd (by decide) h13
  · refine ev_iload_2 dX9_type_7 ?_
    refine ev_if_lt (tgt := 16) dX9_type_8 (by decide) (fun h8 => ?_) (fun h8 => ?_)
    · first
      | exact absurd ((b2i_0 _).mp h4) (by rw [isTy_of ht]; decide)
      | exact absurd h8 (by decide)
      | exact absurd (by decide) h13
    · refine ev_iload_2 dX9_type_11 ?_
      refine ev_iconst_1 dX9_type_12 ?_
      refine ev_icmp_le (tgt := 18) dX9_type_13 (by decide) (fun h13 => ?_) (fun h13 => ?_)
      · refine ev_iload_2 dX9_type_18 ?_
        refine ev_if_ne (tgt := 32) dX9_type_19 (by decide) (fun h19 => ?_) (fun h19 => ?_)
        · exact absurd (by decide) h19
        · refine ev_iload_3 dX9_type_22 ?_
          refine cl_X9_124 c_isBit dX9_type_23 rfl (Nat.le_of_ble_eq_true rfl) ?_
          refine ev_if_ne (tgt := 47) dX9_type_26 (by decide) (fun h26 => ?_) (fun h26 => ?_)
          · exact absurd (b2i_t h26) (by rw [h]; decide)
          · refine ev_goto (tgt := 44) dX9_type_29 (by decide) ?_
            refine ev_bipush_m2 dX9_type_44 ?_
            exact ev_ireturn dX9_type_46
      · first
        | exact absurd ((b2i_0 _).mp h4) (by rw [isTy_of ht]; decide)
        | exact absurd h8 (by decide)
        | exact absurd (by decide) h13
set_option maxRecDepth 100000 in
set_option maxHeartbeats 4000000 in
theorem c_typeBad1 {ae ad : Nat → Nat} {sh : mSh} {σ : mSt} {v : Int32} (hb : mBoard ad sh) {t : Nat} (ht : t < 6) (h1v : ¬ v = -1) (h : isTy v = false) : Ct yX9_type cX9_type 6 (some .int) 3 0 0 [.ref (ad 0), .int (nI t), .int 1, .int v] ae ad sh σ (mEq (some (.int (-2))) ad sh σ) := by
  refine Ct.ofL (own := RX9) (ini := false) (ls := [some (.ref (ad 0)), some (.int (nI t)), some (.int 1), some (.int v), none, none]) (by decide +kernel) rfl (fun h => by cases h) (Nat.le_of_ble_eq_true rfl) rfl ?_
  refine ev_iload_1 dX9_type_0 ?_
  refine cl_X9_109 c_isType dX9_type_1 rfl (Nat.le_of_ble_eq_true rfl) ?_
  refine ev_if_eq (tgt := 16) dX9_type_4 (by decide) (fun h4 => ?_) (fun h4 => ?_)
  · first
    | exact absurd ((b2i_0 _).mp h4) (by rw [isTy_of ht]; decide)
    | exact absurd h8 (by decide)
    | exact absurd (by decide) h13
  · refine ev_iload_2 dX9_type_7 ?_
    refine ev_if_lt (tgt := 16) dX9_type_8 (by decide) (fun h8 => ?_) (fun h8 => ?_)
    · first
      | exact absurd ((b2i_0 _).mp h4) (by rw [isTy_of ht]; decide)
      | exact absurd h8 (by decide)
      | exact absurd (by decide) h13
    · refine ev_iload_2 dX9_type_11 ?_
      refine ev_iconst_1 dX9_type_12 ?_
      refine ev_icmp_le (tgt := 18) dX9_type_13 (by decide) (fun h13 => ?_) (fun h13 => ?_)
      · refine ev_iload_2 dX9_type_18 ?_
        refine ev_if_ne (tgt := 32) dX9_type_19 (by decide) (fun h19 => ?_) (fun h19 => ?_)
        · refine ev_iload_3 dX9_type_32 ?_
          refine ev_iconst_m1 dX9_type_33 ?_
          refine ev_icmp_eq (tgt := 47) dX9_type_34 (by decide) (fun h34 => ?_) (fun h34 => ?_)
          · first
            | exact absurd (b2i_t h41) (by rw [h]; decide)
            | exact absurd h34 h1v
          · refine ev_iload_3 dX9_type_37 ?_
            refine cl_X9_109 c_isType dX9_type_38 rfl (Nat.le_of_ble_eq_true rfl) ?_
            refine ev_if_ne (tgt := 47) dX9_type_41 (by decide) (fun h41 => ?_) (fun h41 => ?_)
            · first
              | exact absurd (b2i_t h41) (by rw [h]; decide)
              | exact absurd h34 h1v
            · refine ev_bipush_m2 dX9_type_44 ?_
              exact ev_ireturn dX9_type_46
        · exact absurd h19 (by decide)
      · first
        | exact absurd ((b2i_0 _).mp h4) (by rw [isTy_of ht]; decide)
        | exact absurd h8 (by decide)
        | exact absurd (by decide) h13
set_option maxRecDepth 100000 in
set_option maxHeartbeats 4000000 in
theorem c_type0 {ae ad : Nat → Nat} {sh : mSh} {σ : mSt} {g : Nat → Int32} {n t : Nat} (hb : mBoard ad sh) (hG : wfP g) (hP : posR σ 20 g) (hR : ritR σ 20 g) (hL : lawR σ 5 g) (ht : t < 6) (hn : n ≤ 1) : Ct yX9_type cX9_type 6 (some .int) 3 0 0 [.ref (ad 0), .int (nI t), .int 0, .int (nI n)] ae ad sh σ (mPi ad sh (fun x σ' => x = g (58 + 21 * t) ∧ setR σ σ' (upd g (58 + 21 * t) (nI n)))) := by
  refine Ct.ofL (own := RX9) (ini := false) (ls := [some (.ref (ad 0)), some (.int (nI t)), some (.int 0), some (.int (nI n)), none, none]) (by decide +kernel) rfl (fun h => by cases h) (Nat.le_of_ble_eq_true rfl) rfl ?_
  have hS : ∀ k, k ≠ 11 → (mr σ.1 11 (upd (σ.1 11) t (nI n)), σ.2).1 k = σ.1 k := fun k hk => mr_ne _ _ hk
  have P1 := posR_lw (g' := (upd g (58 + 21 * t) (nI n))) (fun i hi => upd_ne (by omega)) hP hR
  have P2 := posR_lo (σ' := (mr σ.1 11 (upd (σ.1 11) t (nI n)), σ.2)) P1.1 P1.2 (fun j hj => hS _ (by omega)) rfl
  have L2 : lawR (mr σ.1 11 (upd (σ.1 11) t (nI n)), σ.2) 5 (upd g (58 + 21 * t) (nI n)) := by
    refine lawR_mk hL (fun i h1 _ => hS _ (by omega)) (eqT_of (fun i h1 h2 h3 h4 => upd_ne (by omega))) (fun s hs => ?_) (fun s hs => ?_) (fun k hk => ?_) (fun k i hk hi => ?_) ?_ ?_
    · show mr σ.1 11 (upd (σ.1 11) t (nI n)) 11 s = _
      rw [mr_at]
      by_cases z : s = t
      · subst z; rw [upd_at, upd_at]
      · rw [upd_ne z, upd_ne (by omega)]; exact hL.2.2.2.2.1 s hs
    · rw [hS _ (by decide), upd_ne (by omega)]; exact hL.2.2.2.2.2.1 s hs
    · rw [hS _ (by decide), upd_ne (by omega), upd_ne (by omega)]; exact hL.2.2.2.2.2.2.1 k hk
    · rw [hS _ (by decide), upd_ne (by omega)]; exact hL.2.2.2.2.2.2.2.1 k i hk hi
    · rw [hS _ (by decide), upd_ne (by omega)]; exact hL.2.2.2.2.2.2.2.2.1
    · rw [hS _ (by decide), upd_ne (by omega)]; exact hL.2.2.2.2.2.2.2.2.2
  refine ev_iload_1 dX9_type_0 ?_
  refine cl_X9_109 c_isType dX9_type_1 rfl (Nat.le_of_ble_eq_true rfl) ?_
  refine ev_if_eq (tgt := 16) dX9_type_4 (by decide) (fun h4 => ?_) (fun h4 => ?_)
  · first
    | exact absurd ((b2i_0 _).mp h4) (by rw [isTy_of ht]; decide)
    | exact absurd h8 (by decide)
    | exact absurd (by decide) h13
  · refine ev_iload_2 dX9_type_7 ?_
    refine ev_if_lt (tgt := 16) dX9_type_8 (by decide) (fun h8 => ?_) (fun h8 => ?_)
    · first
      | exact absurd ((b2i_0 _).mp h4) (by rw [isTy_of ht]; decide)
      | exact absurd h8 (by decide)
      | exact absurd (by decide) h13
    · refine ev_iload_2 dX9_type_11 ?_
      refine ev_iconst_1 dX9_type_12 ?_
      refine ev_icmp_le (tgt := 18) dX9_type_13 (by decide) (fun h13 => ?_) (fun h13 => ?_)
      · refine ev_iload_2 dX9_type_18 ?_
        refine ev_if_ne (tgt := 32) dX9_type_19 (by decide) (fun h19 => ?_) (fun h19 => ?_)
        · exact absurd (by decide) h19
        · refine ev_iload_3 dX9_type_22 ?_
          refine cl_X9_124 c_isBit dX9_type_23 rfl (Nat.le_of_ble_eq_true rfl) ?_
          refine ev_if_ne (tgt := 47) dX9_type_26 (by decide) (fun h26 => ?_) (fun h26 => ?_)
          · refine ev_iload_2 dX9_type_47 ?_
            refine ev_if_ne (tgt := 61) dX9_type_48 (by decide) (fun h48 => ?_) (fun h48 => ?_)
            · exact absurd (by decide) h48
            · refine ev_aload_0 dX9_type_51 ?_
              refine gf_X9_24 dX9_type_52 hb.1 rfl ?_
              refine gf_X9_127 dX9_type_55 hb.2.2.2.1.1 rfl ?_
              refine ev_goto (tgt := 68) dX9_type_58 (by decide) ?_
              refine ev_astore_4 dX9_type_68 rfl rfl ?_
              refine ev_aload_4 dX9_type_70 ?_
              refine ev_iload_1 dX9_type_72 ?_
              refine cl_X9_134 (c_cell hb.2.2.2.1.2.2.2.2.2.2.1 (by decide)) dX9_type_73 rfl (Nat.le_of_ble_eq_true rfl) ?_
              rw [cellV_nI (by omega) ht]
              refine ev_istore_5 dX9_type_76 rfl rfl ?_
              refine ev_aload_4 dX9_type_78 ?_
              refine ev_iload_1 dX9_type_80 ?_
              refine ev_iload_3 dX9_type_81 ?_
              refine cl_X9_138 (c_setCell hb.2.2.2.1.2.2.2.2.2.2.1 (by decide)) dX9_type_82 rfl (Nat.le_of_ble_eq_true rfl) ?_
              rw [setV_nI (by omega) ht]
              refine ev_aload_0 dX9_type_85 ?_
              refine cl_X9_84 (c_beginG hb (wfP_up hG (by omega)) P2.1 P2.2) hb.1 dX9_type_86 rfl (Nat.le_of_ble_eq_true rfl) ?_
              refine ev_iload_5 dX9_type_89 ?_
              exact ev_pi dX9_type_91 ⟨hL.2.2.2.2.1 t ht, setR_beg P2 L2 (fun k a b => ⟨hS k (by omega), rfl⟩)⟩
          · exact absurd h26 (by rw [isBt_of hn]; decide)
      · first
        | exact absurd ((b2i_0 _).mp h4) (by rw [isTy_of ht]; decide)
        | exact absurd h8 (by decide)
        | exact absurd (by decide) h13
set_option maxRecDepth 100000 in
set_option maxHeartbeats 4000000 in
theorem c_type1 {ae ad : Nat → Nat} {sh : mSh} {σ : mSt} {g : Nat → Int32} {n t : Nat} (hb : mBoard ad sh) (hG : wfP g) (hP : posR σ 20 g) (hR : ritR σ 20 g) (hL : lawR σ 5 g) (ht : t < 6) (hn : n ≤ 6) : Ct yX9_type cX9_type 6 (some .int) 3 0 0 [.ref (ad 0), .int (nI t), .int 1, .int (nI n - 1)] ae ad sh σ (mPi ad sh (fun x σ' => x = g (59 + 21 * t) - 1 ∧ setR σ σ' (upd g (59 + 21 * t) (nI n)))) := by
  refine Ct.ofL (own := RX9) (ini := false) (ls := [some (.ref (ad 0)), some (.int (nI t)), some (.int 1), some (.int (nI n - 1)), none, none]) (by decide +kernel) rfl (fun h => by cases h) (Nat.le_of_ble_eq_true rfl) rfl ?_
  have hS : ∀ k, k ≠ 12 → (mr σ.1 12 (upd (σ.1 12) t (nI n - 1)), σ.2).1 k = σ.1 k := fun k hk => mr_ne _ _ hk
  have P1 := posR_lw (g' := (upd g (59 + 21 * t) (nI n))) (fun i hi => upd_ne (by omega)) hP hR
  have P2 := posR_lo (σ' := (mr σ.1 12 (upd (σ.1 12) t (nI n - 1)), σ.2)) P1.1 P1.2 (fun j hj => hS _ (by omega)) rfl
  have L2 : lawR (mr σ.1 12 (upd (σ.1 12) t (nI n - 1)), σ.2) 5 (upd g (59 + 21 * t) (nI n)) := by
    refine lawR_mk hL (fun i h1 _ => hS _ (by omega)) (eqT_of (fun i h1 h2 h3 h4 => upd_ne (by omega))) (fun s hs => ?_) (fun s hs => ?_) (fun k hk => ?_) (fun k i hk hi => ?_) ?_ ?_
    · rw [hS _ (by decide), upd_ne (by omega)]; exact hL.2.2.2.2.1 s hs
    · show mr σ.1 12 (upd (σ.1 12) t (nI n - 1)) 12 s = _
      rw [mr_at]
      by_cases z : s = t
      · subst z; rw [upd_at, upd_at]
      · rw [upd_ne z, upd_ne (by omega)]; exact hL.2.2.2.2.2.1 s hs
    · rw [hS _ (by decide), upd_ne (by omega), upd_ne (by omega)]; exact hL.2.2.2.2.2.2.1 k hk
    · rw [hS _ (by decide), upd_ne (by omega)]; exact hL.2.2.2.2.2.2.2.1 k i hk hi
    · rw [hS _ (by decide), upd_ne (by omega)]; exact hL.2.2.2.2.2.2.2.2.1
    · rw [hS _ (by decide), upd_ne (by omega)]; exact hL.2.2.2.2.2.2.2.2.2
  refine ev_iload_1 dX9_type_0 ?_
  refine cl_X9_109 c_isType dX9_type_1 rfl (Nat.le_of_ble_eq_true rfl) ?_
  refine ev_if_eq (tgt := 16) dX9_type_4 (by decide) (fun h4 => ?_) (fun h4 => ?_)
  · first
    | exact absurd ((b2i_0 _).mp h4) (by rw [isTy_of ht]; decide)
    | exact absurd h8 (by decide)
    | exact absurd (by decide) h13
  · refine ev_iload_2 dX9_type_7 ?_
    refine ev_if_lt (tgt := 16) dX9_type_8 (by decide) (fun h8 => ?_) (fun h8 => ?_)
    · first
      | exact absurd ((b2i_0 _).mp h4) (by rw [isTy_of ht]; decide)
      | exact absurd h8 (by decide)
      | exact absurd (by decide) h13
    · refine ev_iload_2 dX9_type_11 ?_
      refine ev_iconst_1 dX9_type_12 ?_
      refine ev_icmp_le (tgt := 18) dX9_type_13 (by decide) (fun h13 => ?_) (fun h13 => ?_)
      · refine ev_iload_2 dX9_type_18 ?_
        refine ev_if_ne (tgt := 32) dX9_type_19 (by decide) (fun h19 => ?_) (fun h19 => ?_)
        · refine ev_iload_3 dX9_type_32 ?_
          refine ev_iconst_m1 dX9_type_33 ?_
          refine ev_icmp_eq (tgt := 47) dX9_type_34 (by decide) (fun h34 => ?_) (fun h34 => ?_)
          · refine ev_iload_2 dX9_type_47 ?_
            refine ev_if_ne (tgt := 61) dX9_type_48 (by decide) (fun h48 => ?_) (fun h48 => ?_)
            · refine ev_aload_0 dX9_type_61 ?_
              refine gf_X9_24 dX9_type_62 hb.1 rfl ?_
              refine gf_X9_131 dX9_type_65 hb.2.2.2.1.1 rfl ?_
              refine ev_astore_4 dX9_type_68 rfl rfl ?_
              refine ev_aload_4 dX9_type_70 ?_
              refine ev_iload_1 dX9_type_72 ?_
              refine cl_X9_134 (c_cell hb.2.2.2.1.2.2.2.2.2.2.2.1 (by decide)) dX9_type_73 rfl (Nat.le_of_ble_eq_true rfl) ?_
              rw [cellV_nI (by omega) ht]
              refine ev_istore_5 dX9_type_76 rfl rfl ?_
              refine ev_aload_4 dX9_type_78 ?_
              refine ev_iload_1 dX9_type_80 ?_
              refine ev_iload_3 dX9_type_81 ?_
              refine cl_X9_138 (c_setCell hb.2.2.2.1.2.2.2.2.2.2.2.1 (by decide)) dX9_type_82 rfl (Nat.le_of_ble_eq_true rfl) ?_
              rw [setV_nI (by omega) ht]
              refine ev_aload_0 dX9_type_85 ?_
              refine cl_X9_84 (c_beginG hb (wfP_up hG (by omega)) P2.1 P2.2) hb.1 dX9_type_86 rfl (Nat.le_of_ble_eq_true rfl) ?_
              refine ev_iload_5 dX9_type_89 ?_
              exact ev_pi dX9_type_91 ⟨hL.2.2.2.2.2.1 t ht, setR_beg P2 L2 (fun k a b => ⟨hS k (by omega), rfl⟩)⟩
            · exact absurd h48 (by decide)
          · refine ev_iload_3 dX9_type_37 ?_
            refine cl_X9_109 c_isType dX9_type_38 rfl (Nat.le_of_ble_eq_true rfl) ?_
            refine ev_if_ne (tgt := 47) dX9_type_41 (by decide) (fun h41 => ?_) (fun h41 => ?_)
            · refine ev_iload_2 dX9_type_47 ?_
              refine ev_if_ne (tgt := 61) dX9_type_48 (by decide) (fun h48 => ?_) (fun h48 => ?_)
              · refine ev_aload_0 dX9_type_61 ?_
                refine gf_X9_24 dX9_type_62 hb.1 rfl ?_
                refine gf_X9_131 dX9_type_65 hb.2.2.2.1.1 rfl ?_
                refine ev_astore_4 dX9_type_68 rfl rfl ?_
                refine ev_aload_4 dX9_type_70 ?_
                refine ev_iload_1 dX9_type_72 ?_
                refine cl_X9_134 (c_cell hb.2.2.2.1.2.2.2.2.2.2.2.1 (by decide)) dX9_type_73 rfl (Nat.le_of_ble_eq_true rfl) ?_
                rw [cellV_nI (by omega) ht]
                refine ev_istore_5 dX9_type_76 rfl rfl ?_
                refine ev_aload_4 dX9_type_78 ?_
                refine ev_iload_1 dX9_type_80 ?_
                refine ev_iload_3 dX9_type_81 ?_
                refine cl_X9_138 (c_setCell hb.2.2.2.1.2.2.2.2.2.2.2.1 (by decide)) dX9_type_82 rfl (Nat.le_of_ble_eq_true rfl) ?_
                rw [setV_nI (by omega) ht]
                refine ev_aload_0 dX9_type_85 ?_
                refine cl_X9_84 (c_beginG hb (wfP_up hG (by omega)) P2.1 P2.2) hb.1 dX9_type_86 rfl (Nat.le_of_ble_eq_true rfl) ?_
                refine ev_iload_5 dX9_type_89 ?_
                exact ev_pi dX9_type_91 ⟨hL.2.2.2.2.2.1 t ht, setR_beg P2 L2 (fun k a b => ⟨hS k (by omega), rfl⟩)⟩
              · exact absurd h48 (by decide)
            · rcases Nat.eq_zero_or_pos n with z | z
              · exact absurd (by rw [z]; decide) h34
              · exact absurd h41 (by rw [show nI n - 1 = nI (n - 1) from by rw [lI1, nI_sub z], isTy_of (by omega)]; decide)
        · exact absurd h19 (by decide)
      · first
        | exact absurd ((b2i_0 _).mp h4) (by rw [isTy_of ht]; decide)
        | exact absurd h8 (by decide)
        | exact absurd (by decide) h13
theorem type_wfL {g : Nat → Int32} (hW : wfL g) {c t n : Nat} (ht : t < 6) (hc : c ≤ 1) (hv : n ≤ 1 + 5 * c) : wfL (upd g (58 + c + 21 * t) (nI n)) := by
  refine wfL_mk hW (eqT_of (fun i h1 h2 h3 h4 => upd_ne (by omega))) ?_ ?_ (fun s hs => ?_) (fun s hs => ?_) (cas_up hW (by omega) (by omega))
  · rw [cl_ne (by omega), upd_ne (by omega)]; exact hW.1
  · rw [cl_ne (by omega), upd_ne (by omega)]; exact hW.2.1
  · by_cases z : 58 + 21 * s = 58 + c + 21 * t
    · rw [← z, cl_at (by omega), upd_at]; exact ⟨rfl, by omega⟩
    · rw [cl_ne z, upd_ne z]; exact hW.2.2.1 s hs
  · by_cases z : 59 + 21 * s = 58 + c + 21 * t
    · rw [← z, cl_at (by omega), upd_at]; exact ⟨rfl, by omega⟩
    · rw [cl_ne z, upd_ne z]; exact hW.2.2.2.1 s hs
theorem i_back (a b : Int32) : a + (b - a) = b := by rw [Int32.add_comm, Int32.sub_add_cancel]

set_option maxRecDepth 100000 in
set_option maxHeartbeats 4000000 in
theorem c_handNo {ae ad : Nat → Nat} {sh : mSh} {σ : mSt} {s x n : Int32} (hb : mBoard ad sh) (h : ¬ (isBt s = true ∧ isTy x = true)) : Ct yX9_hand cX9_hand 5 (some .int) 3 0 0 [.ref (ad 0), .int s, .int x, .int n] ae ad sh σ (mEq (some (.int (-1))) ad sh σ) := by
  refine Ct.ofL (own := RX9) (ini := false) (ls := [some (.ref (ad 0)), some (.int s), some (.int x), some (.int n), none]) (by decide +kernel) rfl (fun h => by cases h) (Nat.le_of_ble_eq_true rfl) rfl ?_
  refine ev_iload_1 dX9_hand_0 ?_
  refine cl_X9_124 c_isBit dX9_hand_1 rfl (Nat.le_of_ble_eq_true rfl) ?_
  refine ev_if_eq (tgt := 14) dX9_hand_4 (by decide) (fun h4 => ?_) (fun h4 => ?_)
  · refine ev_iconst_m1 dX9_hand_14 ?_
    exact ev_ireturn dX9_hand_15
  · refine ev_iload_2 dX9_hand_7 ?_
    refine cl_X9_109 c_isType dX9_hand_8 rfl (Nat.le_of_ble_eq_true rfl) ?_
    refine ev_if_ne (tgt := 16) dX9_hand_11 (by decide) (fun h11 => ?_) (fun h11 => ?_)
    · exact absurd ⟨b2i_t h4, b2i_t h11⟩ h
    · refine ev_iconst_m1 dX9_hand_14 ?_
      exact ev_ireturn dX9_hand_15
set_option maxRecDepth 100000 in
set_option maxHeartbeats 4000000 in
theorem c_handBad {ae ad : Nat → Nat} {sh : mSh} {σ : mSt} {n : Int32} {s t : Nat} (hb : mBoard ad sh) (hs : s ≤ 1) (ht : t < 6) (h : n < 0 ∨ 9 < n) : Ct yX9_hand cX9_hand 5 (some .int) 3 0 0 [.ref (ad 0), .int (nI s), .int (nI t), .int n] ae ad sh σ (mEq (some (.int (-2))) ad sh σ) := by
  refine Ct.ofL (own := RX9) (ini := false) (ls := [some (.ref (ad 0)), some (.int (nI s)), some (.int (nI t)), some (.int n), none]) (by decide +kernel) rfl (fun h => by cases h) (Nat.le_of_ble_eq_true rfl) rfl ?_
  refine ev_iload_1 dX9_hand_0 ?_
  refine cl_X9_124 c_isBit dX9_hand_1 rfl (Nat.le_of_ble_eq_true rfl) ?_
  refine ev_if_eq (tgt := 14) dX9_hand_4 (by decide) (fun h4 => ?_) (fun h4 => ?_)
  · first
    | exact absurd ((b2i_0 _).mp h4) (by rw [isBt_of hs]; decide)
    | exact absurd ((b2i_0 _).mp h11) (by rw [isTy_of ht]; decide)
  · refine ev_iload_2 dX9_hand_7 ?_
    refine cl_X9_109 c_isType dX9_hand_8 rfl (Nat.le_of_ble_eq_true rfl) ?_
    refine ev_if_ne (tgt := 16) dX9_hand_11 (by decide) (fun h11 => ?_) (fun h11 => ?_)
    · refine ev_iload_3 dX9_hand_16 ?_
      refine ev_if_lt (tgt := 26) dX9_hand_17 (by decide) (fun h17 => ?_) (fun h17 => ?_)
      · refine ev_bipush_m2 dX9_hand_26 ?_
        exact ev_ireturn dX9_hand_28
      · refine ev_iload_3 dX9_hand_20 ?_
        refine ev_bipush_9 dX9_hand_21 ?_
        refine ev_icmp_le (tgt := 29) dX9_hand_23 (by decide) (fun h23 => ?_) (fun h23 => ?_)
        · exact absurd h (fun z => z.elim h17 (fun y => Int32.not_le.mpr y h23))
        · refine ev_bipush_m2 dX9_hand_26 ?_
          exact ev_ireturn dX9_hand_28
    · first
      | exact absurd ((b2i_0 _).mp h4) (by rw [isBt_of hs]; decide)
      | exact absurd ((b2i_0 _).mp h11) (by rw [isTy_of ht]; decide)
theorem hand_wfP {g : Nat → Int32} (hG : wfP g) {i n : Nat} (hi : i < 12) (hn : n ≤ 9) : wfP (upd g (37 + i) (nI n)) := by
  obtain ⟨h1, h2, h3, h4, h5, h6, h7⟩ := hG
  unfold wfP cN rN tuN at *
  rw [cl_ne (by omega), cl_ne (by omega), cl_ne (by omega), upd_ne (by omega), upd_ne (by omega), upd_ne (by omega)]
  refine ⟨h1, h2, fun q hq => ?_, fun j hj => ?_, fun k hk => ?_, h6, h7⟩
  · unfold mN at *
    rw [cl_ne (by omega), upd_ne (by omega)]; exact h3 q hq
  · unfold hN at *
    by_cases z : j = i
    · subst z; rw [cl_at (by omega), upd_at]; exact ⟨rfl, hn⟩
    · rw [cl_ne (by omega), upd_ne (by omega)]; exact h4 j hj
  · unfold riN at *
    rw [cl_ne (by omega), upd_ne (by omega)]; exact h5 k hk
theorem hand_R {σ : mSt} {p : Nat} {g : Nat → Int32} (hP : posR σ p g) (hR : ritR σ p g) {i : Nat} {x : Int32} (hi : i < 12) : posR (mr σ.1 (p + 2) (upd (σ.1 (p + 2)) i x), σ.2) p (upd g (37 + i) x) ∧ ritR (mr σ.1 (p + 2) (upd (σ.1 (p + 2)) i x), σ.2) p (upd g (37 + i) x) := by
  have eO : ∀ q s, isOfG (upd g (37 + i) x) q s = isOfG g q s := fun q s => by
    unfold isOfG
    by_cases hq : q < 36
    · have : mN (upd g (37 + i) x) q = mN g q := cl_ne (by omega)
      rw [this]
    · simp [hq]
  obtain ⟨a1, a2, a3, a4, a5, a6, a7, a8⟩ := hP
  have e : ∀ k, k ≠ p + 2 → (mr σ.1 (p + 2) (upd (σ.1 (p + 2)) i x), σ.2).1 k = σ.1 k := fun k hk => mr_ne _ _ hk
  refine ⟨⟨fun q hq => ?_, fun j hj => ?_, ?_, ?_, ?_, trivial, fun q hq => by rw [eO]; exact a7 q hq, fun q hq => by rw [eO]; exact a8 q hq⟩, fun k hk => ?_⟩
  · rw [e _ (by omega), upd_ne (by omega)]; exact a1 q hq
  · dsimp only
    rw [mr_at]
    by_cases z : j = i
    · subst z; rw [upd_at, upd_at]
    · rw [upd_ne z, upd_ne (by omega)]; exact a2 j hj
  · rw [e _ (by omega), upd_ne (by omega)]; exact a3
  · rw [e _ (by omega), upd_ne (by omega)]; exact a4
  · rw [e _ (by omega), upd_ne (by omega)]; exact a5
  · rw [e _ (by omega), hR k hk]
    by_cases h4 : k < 4
    · have : riN (upd g (37 + i) x) k = riN g k := cl_ne (by omega)
      rw [this]
    · simp [h4]

set_option maxRecDepth 100000 in
set_option maxHeartbeats 4000000 in
theorem c_hand {ae ad : Nat → Nat} {sh : mSh} {σ : mSt} {g : Nat → Int32} {s t n : Nat} (hb : mBoard ad sh) (hG : wfP g) (hP : posR σ 20 g) (hR : ritR σ 20 g) (hL : lawR σ 5 g) (hs : s ≤ 1) (ht : t < 6) (hn : n ≤ 9) : Ct yX9_hand cX9_hand 5 (some .int) 3 0 0 [.ref (ad 0), .int (nI s), .int (nI t), .int (nI n)] ae ad sh σ (mPi ad sh (fun x σ' => x = g (37 + (6 * s + t)) ∧ setR σ σ' (upd g (37 + (6 * s + t)) (nI n)))) := by
  refine Ct.ofL (own := RX9) (ini := false) (ls := [some (.ref (ad 0)), some (.int (nI s)), some (.int (nI t)), some (.int (nI n)), none]) (by decide +kernel) rfl (fun h => by cases h) (Nat.le_of_ble_eq_true rfl) rfl ?_
  have P2 := hand_R hP hR (i := 6 * s + t) (x := nI n) (by omega)
  have L2 : lawR (mr σ.1 22 (upd (σ.1 22) (6 * s + t) (nI n)), σ.2) 5 (upd g (37 + (6 * s + t)) (nI n)) := lawR_hi (fun i h1 _ _ => upd_ne (by omega)) (lawR_lo hL (fun i hi => mr_ne _ _ (by omega)))
  refine ev_iload_1 dX9_hand_0 ?_
  refine cl_X9_124 c_isBit dX9_hand_1 rfl (Nat.le_of_ble_eq_true rfl) ?_
  refine ev_if_eq (tgt := 14) dX9_hand_4 (by decide) (fun h4 => ?_) (fun h4 => ?_)
  · first
    | exact absurd ((b2i_0 _).mp h4) (by rw [isBt_of hs]; decide)
    | exact absurd ((b2i_0 _).mp h11) (by rw [isTy_of ht]; decide)
  · refine ev_iload_2 dX9_hand_7 ?_
    refine cl_X9_109 c_isType dX9_hand_8 rfl (Nat.le_of_ble_eq_true rfl) ?_
    refine ev_if_ne (tgt := 16) dX9_hand_11 (by decide) (fun h11 => ?_) (fun h11 => ?_)
    · refine ev_iload_3 dX9_hand_16 ?_
      refine ev_if_lt (tgt := 26) dX9_hand_17 (by decide) (fun h17 => absurd h17 (nI_pos (by omega))) (fun h17 => ?_)
      refine ev_iload_3 dX9_hand_20 ?_
      refine ev_bipush_9 dX9_hand_21 ?_
      refine ev_icmp_le (tgt := 29) dX9_hand_23 (by decide) (fun h23 => ?_) (fun h23 => absurd (nI_le (b := 9) hn (by decide)) h23)
      refine ev_aload_0 dX9_hand_29 ?_
      refine gf_X9_47 dX9_hand_30 hb.1 rfl ?_
      refine ev_iload_1 dX9_hand_33 ?_
      refine ev_iload_2 dX9_hand_34 ?_
      refine cl_X9_174 (c_inHand hb.2.2.2.2.2.2.1) hb.2.2.2.2.2.2.1.1 dX9_hand_35 rfl (Nat.le_of_ble_eq_true rfl) ?_
      rw [show nI s * 6 + nI t = nI (6 * s + t) from by rw [lI6, nI_mul, nI_add, Nat.mul_comm], cellV_nI (by omega) (by omega)]
      refine ev_istore_4 dX9_hand_38 rfl rfl ?_
      refine ev_aload_0 dX9_hand_40 ?_
      refine gf_X9_47 dX9_hand_41 hb.1 rfl ?_
      refine ev_iload_1 dX9_hand_44 ?_
      refine ev_iload_2 dX9_hand_45 ?_
      refine ev_iload_3 dX9_hand_46 ?_
      refine ev_iload_4 dX9_hand_47 ?_
      refine ev_isub dX9_hand_49 ?_
      refine cl_X9_178 (c_addToHand hb.2.2.2.2.2.2.1) hb.2.2.2.2.2.2.1.1 dX9_hand_50 rfl (Nat.le_of_ble_eq_true rfl) ?_
      rw [show nI s * 6 + nI t = nI (6 * s + t) from by rw [lI6, nI_mul, nI_add, Nat.mul_comm], cellV_nI (by omega) (by omega), setV_nI (by omega) (by omega), i_back]
      refine ev_aload_0 dX9_hand_53 ?_
      refine cl_X9_84 (c_beginG hb (hand_wfP hG (by omega) hn) P2.1 P2.2) hb.1 dX9_hand_54 rfl (Nat.le_of_ble_eq_true rfl) ?_
      refine ev_iload_4 dX9_hand_57 ?_
      exact ev_pi dX9_hand_59 ⟨hP.2.1 (6 * s + t) (by omega), setR_beg P2 L2 (fun k a b => ⟨mr_ne _ _ (by omega), rfl⟩)⟩
    · first
      | exact absurd ((b2i_0 _).mp h4) (by rw [isBt_of hs]; decide)
      | exact absurd ((b2i_0 _).mp h11) (by rw [isTy_of ht]; decide)
theorem c_sideR {ae ad : Nat → Nat} {sh : mSh} {σ : mSt} {k : Nat} {g : Nat → Int32} (hb : mBoard ad sh) (hG : wfP g) (hP : posR σ 20 g) (hR : ritR σ 20 g) (hL : lawR σ 5 g) (hk : k ≤ 1) : Ct yX9_side cX9_side 3 (some .int) 3 0 0 [.ref (ad 0), .int (nI k)] ae ad sh σ (mPi ad sh (fun x σ' => x = g 0 ∧ setR σ σ' (upd g 0 (nI k)))) := by
  refine Ct.mono (fun v ad' sh' σ' e => ⟨_, e.1, e.2.1, e.2.2.1, hG.2.2.2.2.2.1.symm, ?_⟩) (c_side hb hG hP hR hk)
  rw [e.2.2.2]
  exact setR_beg (tu_R hP hR) (lawR_hi (fun i h1 _ _ => upd_ne (by omega)) (lawR_lo hL (fun i hi => mu_ne _ (by omega)))) (fun k a b => ⟨mu_ne _ (by omega), rfl⟩)
