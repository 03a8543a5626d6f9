theorem in_3 {k : Int32} (h : ¬ (¬ k < 0 ∧ k < 4)) : inB k 0 3 = false := decide_eq_false (fun z => h ⟨z.1, by
  have h1 := z.2
  rw [Int32.lt_iff_toInt_lt] at h1 ⊢
  have e1 : (3 : Int32).toInt = 3 := by decide
  have e2 : (4 : Int32).toInt = 4 := by decide
  omega⟩)
theorem in_3t {k : Int32} (h : inB k 0 3 = true) : ¬ k < 0 ∧ k < 4 := Classical.byContradiction fun z => by rw [in_3 z] at h; cases h

set_option maxRecDepth 100000 in
set_option maxHeartbeats 4000000 in
theorem c_mCastleNo {ae ad : Nat → Nat} {sh : mSh} {σ : mSt} (hm : mModel ad sh) {g : Nat → Int32} (hg : σ.1 62 = g) (hG : wfP g) {k d r s p q : Int32} (h : ¬ ((¬ k < 0 ∧ k < 4) ∧ isBt d = true ∧ sqB g r = true ∧ sqB g s = true ∧ sqB g p = true ∧ sqB g q = true)) : Ct yX10_castle cX10_castle 8 (some .int) 3 0 0 [.ref (ad 61), .int k, .int d, .int r, .int s, .int p, .int q] ae ad sh σ (mEq (some (.int (-1))) ad sh σ) := by
  refine Ct.ofL (own := RX10) (ini := false) (ls := [some (.ref (ad 61)), some (.int k), some (.int d), some (.int r), some (.int s), some (.int p), some (.int q), none]) (by decide +kernel) rfl (fun h => by cases h) (Nat.le_of_ble_eq_true rfl) rfl ?_
  refine ev_iload_1 dX10_castle_0 ?_
  refine ev_iconst_0 dX10_castle_1 ?_
  refine ev_iconst_3 dX10_castle_2 ?_
  refine cl_X10_61 c_mIn dX10_castle_3 rfl (Nat.le_of_ble_eq_true rfl) ?_
  refine ev_if_eq (tgt := 53) dX10_castle_6 (by decide) (fun h6 => ?_) (fun h6 => ?_)
  · refine ev_iconst_m1 dX10_castle_53 ?_
    exact ev_ireturn dX10_castle_54
  · refine ev_iload_2 dX10_castle_9 ?_
    refine ev_iconst_0 dX10_castle_10 ?_
    refine ev_iconst_1 dX10_castle_11 ?_
    refine cl_X10_61 c_mIn dX10_castle_12 rfl (Nat.le_of_ble_eq_true rfl) ?_
    refine ev_if_eq (tgt := 53) dX10_castle_15 (by decide) (fun h15 => ?_) (fun h15 => ?_)
    · refine ev_iconst_m1 dX10_castle_53 ?_
      exact ev_ireturn dX10_castle_54
    · refine ev_aload_0 dX10_castle_18 ?_
      refine ev_iload_3 dX10_castle_19 ?_
      refine cl_X10_149 (c_mIsSq hm hg hG) hm.1 dX10_castle_20 rfl (Nat.le_of_ble_eq_true rfl) ?_
      refine ev_if_eq (tgt := 53) dX10_castle_23 (by decide) (fun h23 => ?_) (fun h23 => ?_)
      · refine ev_iconst_m1 dX10_castle_53 ?_
        exact ev_ireturn dX10_castle_54
      · refine ev_aload_0 dX10_castle_26 ?_
        refine ev_iload_4 dX10_castle_27 ?_
        refine cl_X10_149 (c_mIsSq hm hg hG) hm.1 dX10_castle_29 rfl (Nat.le_of_ble_eq_true rfl) ?_
        refine ev_if_eq (tgt := 53) dX10_castle_32 (by decide) (fun h32 => ?_) (fun h32 => ?_)
        · refine ev_iconst_m1 dX10_castle_53 ?_
          exact ev_ireturn dX10_castle_54
        · refine ev_aload_0 dX10_castle_35 ?_
          refine ev_iload_5 dX10_castle_36 ?_
          refine cl_X10_149 (c_mIsSq hm hg hG) hm.1 dX10_castle_38 rfl (Nat.le_of_ble_eq_true rfl) ?_
          refine ev_if_eq (tgt := 53) dX10_castle_41 (by decide) (fun h41 => ?_) (fun h41 => ?_)
          · refine ev_iconst_m1 dX10_castle_53 ?_
            exact ev_ireturn dX10_castle_54
          · refine ev_aload_0 dX10_castle_44 ?_
            refine ev_iload_6 dX10_castle_45 ?_
            refine cl_X10_149 (c_mIsSq hm hg hG) hm.1 dX10_castle_47 rfl (Nat.le_of_ble_eq_true rfl) ?_
            refine ev_if_ne (tgt := 55) dX10_castle_50 (by decide) (fun h50 => ?_) (fun h50 => ?_)
            · exact absurd ⟨in_3t (b2i_t h6), (inB_bt d).symm.trans (b2i_t h15), b2i_t h23, b2i_t h32, b2i_t h41, b2i_t h50⟩ h
            · refine ev_iconst_m1 dX10_castle_53 ?_
              exact ev_ireturn dX10_castle_54
set_option maxRecDepth 100000 in
set_option maxHeartbeats 4000000 in
theorem c_mCastleBad {ae ad : Nat → Nat} {sh : mSh} {σ : mSt} (hm : mModel ad sh) {g : Nat → Int32} (hg : σ.1 62 = g) (hG : wfP g) {k d r s p q : Nat} (hk : k < 4) (hd : d ≤ 1) (hr : r < cN g * rN g) (hs : s < cN g * rN g) (hp : p < cN g * rN g) (hq : q < cN g * rN g) (h : ¬ okC g r s p q) : Ct yX10_castle cX10_castle 8 (some .int) 3 0 0 [.ref (ad 61), .int (nI k), .int (nI d), .int (nI r), .int (nI s), .int (nI p), .int (nI q)] ae ad sh σ (mEq (some (.int (-2))) ad sh σ) := by
  refine Ct.ofL (own := RX10) (ini := false) (ls := [some (.ref (ad 61)), some (.int (nI k)), some (.int (nI d)), some (.int (nI r)), some (.int (nI s)), some (.int (nI p)), some (.int (nI q)), none]) (by decide +kernel) rfl (fun h => by cases h) (Nat.le_of_ble_eq_true rfl) rfl ?_
  have h36 := sq36 hG
  have hdv : ∀ x, x < 36 → x / cN g < 2 ^ 31 := fun x hx => Nat.lt_of_le_of_lt (Nat.div_le_self _ _) (by omega)
  refine ev_iload_1 dX10_castle_0 ?_
  refine ev_iconst_0 dX10_castle_1 ?_
  refine ev_iconst_3 dX10_castle_2 ?_
  refine cl_X10_61 c_mIn dX10_castle_3 rfl (Nat.le_of_ble_eq_true rfl) ?_
  refine ev_if_eq (tgt := 53) dX10_castle_6 (by decide) (fun h6 => ?_) (fun h6 => ?_)
  · first
    | exact absurd ((b2i_0 _).mp h50) (by rw [sqB_of hG hq]; decide)
    | exact absurd ((b2i_0 _).mp h41) (by rw [sqB_of hG hp]; decide)
    | exact absurd ((b2i_0 _).mp h32) (by rw [sqB_of hG hs]; decide)
    | exact absurd ((b2i_0 _).mp h23) (by rw [sqB_of hG hr]; decide)
    | exact absurd ((b2i_0 _).mp h15) (by rw [inB_bt, isBt_of hd]; decide)
    | exact absurd ((b2i_0 _).mp h6) (by rw [inB_n (lo := 0) (hi := 3) (b := 0) (c := 3) rfl rfl (Nat.zero_le _) (by omega) (by decide)]; decide)
  · refine ev_iload_2 dX10_castle_9 ?_
    refine ev_iconst_0 dX10_castle_10 ?_
    refine ev_iconst_1 dX10_castle_11 ?_
    refine cl_X10_61 c_mIn dX10_castle_12 rfl (Nat.le_of_ble_eq_true rfl) ?_
    refine ev_if_eq (tgt := 53) dX10_castle_15 (by decide) (fun h15 => ?_) (fun h15 => ?_)
    · first
      | exact absurd ((b2i_0 _).mp h50) (by rw [sqB_of hG hq]; decide)
      | exact absurd ((b2i_0 _).mp h41) (by rw [sqB_of hG hp]; decide)
      | exact absurd ((b2i_0 _).mp h32) (by rw [sqB_of hG hs]; decide)
      | exact absurd ((b2i_0 _).mp h23) (by rw [sqB_of hG hr]; decide)
      | exact absurd ((b2i_0 _).mp h15) (by rw [inB_bt, isBt_of hd]; decide)
      | exact absurd ((b2i_0 _).mp h6) (by rw [inB_n (lo := 0) (hi := 3) (b := 0) (c := 3) rfl rfl (Nat.zero_le _) (by omega) (by decide)]; decide)
    · refine ev_aload_0 dX10_castle_18 ?_
      refine ev_iload_3 dX10_castle_19 ?_
      refine cl_X10_149 (c_mIsSq hm hg hG) hm.1 dX10_castle_20 rfl (Nat.le_of_ble_eq_true rfl) ?_
      refine ev_if_eq (tgt := 53) dX10_castle_23 (by decide) (fun h23 => ?_) (fun h23 => ?_)
      · first
        | exact absurd ((b2i_0 _).mp h50) (by rw [sqB_of hG hq]; decide)
        | exact absurd ((b2i_0 _).mp h41) (by rw [sqB_of hG hp]; decide)
        | exact absurd ((b2i_0 _).mp h32) (by rw [sqB_of hG hs]; decide)
        | exact absurd ((b2i_0 _).mp h23) (by rw [sqB_of hG hr]; decide)
        | exact absurd ((b2i_0 _).mp h15) (by rw [inB_bt, isBt_of hd]; decide)
        | exact absurd ((b2i_0 _).mp h6) (by rw [inB_n (lo := 0) (hi := 3) (b := 0) (c := 3) rfl rfl (Nat.zero_le _) (by omega) (by decide)]; decide)
      · refine ev_aload_0 dX10_castle_26 ?_
        refine ev_iload_4 dX10_castle_27 ?_
        refine cl_X10_149 (c_mIsSq hm hg hG) hm.1 dX10_castle_29 rfl (Nat.le_of_ble_eq_true rfl) ?_
        refine ev_if_eq (tgt := 53) dX10_castle_32 (by decide) (fun h32 => ?_) (fun h32 => ?_)
        · first
          | exact absurd ((b2i_0 _).mp h50) (by rw [sqB_of hG hq]; decide)
          | exact absurd ((b2i_0 _).mp h41) (by rw [sqB_of hG hp]; decide)
          | exact absurd ((b2i_0 _).mp h32) (by rw [sqB_of hG hs]; decide)
          | exact absurd ((b2i_0 _).mp h23) (by rw [sqB_of hG hr]; decide)
          | exact absurd ((b2i_0 _).mp h15) (by rw [inB_bt, isBt_of hd]; decide)
          | exact absurd ((b2i_0 _).mp h6) (by rw [inB_n (lo := 0) (hi := 3) (b := 0) (c := 3) rfl rfl (Nat.zero_le _) (by omega) (by decide)]; decide)
        · refine ev_aload_0 dX10_castle_35 ?_
          refine ev_iload_5 dX10_castle_36 ?_
          refine cl_X10_149 (c_mIsSq hm hg hG) hm.1 dX10_castle_38 rfl (Nat.le_of_ble_eq_true rfl) ?_
          refine ev_if_eq (tgt := 53) dX10_castle_41 (by decide) (fun h41 => ?_) (fun h41 => ?_)
          · first
            | exact absurd ((b2i_0 _).mp h50) (by rw [sqB_of hG hq]; decide)
            | exact absurd ((b2i_0 _).mp h41) (by rw [sqB_of hG hp]; decide)
            | exact absurd ((b2i_0 _).mp h32) (by rw [sqB_of hG hs]; decide)
            | exact absurd ((b2i_0 _).mp h23) (by rw [sqB_of hG hr]; decide)
            | exact absurd ((b2i_0 _).mp h15) (by rw [inB_bt, isBt_of hd]; decide)
            | exact absurd ((b2i_0 _).mp h6) (by rw [inB_n (lo := 0) (hi := 3) (b := 0) (c := 3) rfl rfl (Nat.zero_le _) (by omega) (by decide)]; decide)
          · refine ev_aload_0 dX10_castle_44 ?_
            refine ev_iload_6 dX10_castle_45 ?_
            refine cl_X10_149 (c_mIsSq hm hg hG) hm.1 dX10_castle_47 rfl (Nat.le_of_ble_eq_true rfl) ?_
            refine ev_if_ne (tgt := 55) dX10_castle_50 (by decide) (fun h50 => ?_) (fun h50 => ?_)
            · refine ev_aload_0 dX10_castle_55 ?_
              refine ev_iload_3 dX10_castle_56 ?_
              refine cl_X10_152 (c_mRow hm hg hG (q := (r)) (by omega)) hm.1 dX10_castle_57 rfl (Nat.le_of_ble_eq_true rfl) ?_
              refine ev_aload_0 dX10_castle_60 ?_
              refine ev_iload_4 dX10_castle_61 ?_
              refine cl_X10_152 (c_mRow hm hg hG (q := (s)) (by omega)) hm.1 dX10_castle_63 rfl (Nat.le_of_ble_eq_true rfl) ?_
              refine ev_icmp_ne (tgt := 110) dX10_castle_66 (by decide) (fun h66 => ?_) (fun h66 => ?_)
              · refine ev_bipush_m2 dX10_castle_110 ?_
                exact ev_ireturn dX10_castle_112
              · refine ev_aload_0 dX10_castle_69 ?_
                refine ev_iload_3 dX10_castle_70 ?_
                refine cl_X10_152 (c_mRow hm hg hG (q := (r)) (by omega)) hm.1 dX10_castle_71 rfl (Nat.le_of_ble_eq_true rfl) ?_
                refine ev_aload_0 dX10_castle_74 ?_
                refine ev_iload_5 dX10_castle_75 ?_
                refine cl_X10_152 (c_mRow hm hg hG (q := (p)) (by omega)) hm.1 dX10_castle_77 rfl (Nat.le_of_ble_eq_true rfl) ?_
                refine ev_icmp_ne (tgt := 110) dX10_castle_80 (by decide) (fun h80 => ?_) (fun h80 => ?_)
                · refine ev_bipush_m2 dX10_castle_110 ?_
                  exact ev_ireturn dX10_castle_112
                · refine ev_aload_0 dX10_castle_83 ?_
                  refine ev_iload_3 dX10_castle_84 ?_
                  refine cl_X10_152 (c_mRow hm hg hG (q := (r)) (by omega)) hm.1 dX10_castle_85 rfl (Nat.le_of_ble_eq_true rfl) ?_
                  refine ev_aload_0 dX10_castle_88 ?_
                  refine ev_iload_6 dX10_castle_89 ?_
                  refine cl_X10_152 (c_mRow hm hg hG (q := (q)) (by omega)) hm.1 dX10_castle_91 rfl (Nat.le_of_ble_eq_true rfl) ?_
                  refine ev_icmp_ne (tgt := 110) dX10_castle_94 (by decide) (fun h94 => ?_) (fun h94 => ?_)
                  · refine ev_bipush_m2 dX10_castle_110 ?_
                    exact ev_ireturn dX10_castle_112
                  · refine ev_iload_3 dX10_castle_97 ?_
                    refine ev_iload_5 dX10_castle_98 ?_
                    refine ev_icmp_eq (tgt := 110) dX10_castle_100 (by decide) (fun h100 => ?_) (fun h100 => ?_)
                    · refine ev_bipush_m2 dX10_castle_110 ?_
                      exact ev_ireturn dX10_castle_112
                    · refine ev_iload_4 dX10_castle_103 ?_
                      refine ev_iload_6 dX10_castle_105 ?_
                      refine ev_icmp_ne (tgt := 113) dX10_castle_107 (by decide) (fun h107 => ?_) (fun h107 => ?_)
                      · exact absurd ⟨(nI_eq (hdv _ (by omega)) (hdv _ (by omega))).mp h66, (nI_eq (hdv _ (by omega)) (hdv _ (by omega))).mp h80, (nI_eq (hdv _ (by omega)) (hdv _ (by omega))).mp h94, fun z => h100 (by rw [z]), fun z => h107 (by rw [z])⟩ h
                      · refine ev_bipush_m2 dX10_castle_110 ?_
                        exact ev_ireturn dX10_castle_112
            · first
              | exact absurd ((b2i_0 _).mp h50) (by rw [sqB_of hG hq]; decide)
              | exact absurd ((b2i_0 _).mp h41) (by rw [sqB_of hG hp]; decide)
              | exact absurd ((b2i_0 _).mp h32) (by rw [sqB_of hG hs]; decide)
              | exact absurd ((b2i_0 _).mp h23) (by rw [sqB_of hG hr]; decide)
              | exact absurd ((b2i_0 _).mp h15) (by rw [inB_bt, isBt_of hd]; decide)
              | exact absurd ((b2i_0 _).mp h6) (by rw [inB_n (lo := 0) (hi := 3) (b := 0) (c := 3) rfl rfl (Nat.zero_le _) (by omega) (by decide)]; decide)
set_option maxRecDepth 100000 in
set_option maxHeartbeats 4000000 in
theorem c_mCastle {ae ad : Nat → Nat} {sh : mSh} {σ : mSt} (hm : mModel ad sh) {g : Nat → Int32} (hg : σ.1 62 = g) (hG : wfP g) {k d r s p q : Nat} (hk : k < 4) (hd : d ≤ 1) (hr : r < cN g * rN g) (hs : s < cN g * rN g) (hp : p < cN g * rN g) (hq : q < cN g * rN g) (hW : wfL g) (hok : okC g r s p q) : Ct yX10_castle cX10_castle 8 (some .int) 3 0 0 [.ref (ad 61), .int (nI k), .int (nI d), .int (nI r), .int (nI s), .int (nI p), .int (nI q)] ae ad sh σ (mPi ad sh (fun x σ' => x = casG (casS g k d r s p q) ∧ begR σ σ' (begG (casS g k d r s p q)))) := by
  refine Ct.ofL (own := RX10) (ini := false) (ls := [some (.ref (ad 61)), some (.int (nI k)), some (.int (nI d)), some (.int (nI r)), some (.int (nI s)), some (.int (nI p)), some (.int (nI q)), none]) (by decide +kernel) rfl (fun h => by cases h) (Nat.le_of_ble_eq_true rfl) rfl ?_
  have h36 := sq36 hG
  have hdv : ∀ x, x < 36 → x / cN g < 2 ^ 31 := fun x hx => Nat.lt_of_le_of_lt (Nat.div_le_self _ _) (by omega)
  have hG1 := cs_wfP (sd := d) (r := r) (s := s) (p := p) (q := q) hG hk
  have hW1 := cs_wfL hG hW hk hd hr hs hp hq hok.2.2.2.1 hok.2.2.2.2
  refine ev_iload_1 dX10_castle_0 ?_
  refine ev_iconst_0 dX10_castle_1 ?_
  refine ev_iconst_3 dX10_castle_2 ?_
  refine cl_X10_61 c_mIn dX10_castle_3 rfl (Nat.le_of_ble_eq_true rfl) ?_
  refine ev_if_eq (tgt := 53) dX10_castle_6 (by decide) (fun h6 => ?_) (fun h6 => ?_)
  · first
    | exact absurd ((b2i_0 _).mp h50) (by rw [sqB_of hG hq]; decide)
    | exact absurd ((b2i_0 _).mp h41) (by rw [sqB_of hG hp]; decide)
    | exact absurd ((b2i_0 _).mp h32) (by rw [sqB_of hG hs]; decide)
    | exact absurd ((b2i_0 _).mp h23) (by rw [sqB_of hG hr]; decide)
    | exact absurd ((b2i_0 _).mp h15) (by rw [inB_bt, isBt_of hd]; decide)
    | exact absurd ((b2i_0 _).mp h6) (by rw [inB_n (lo := 0) (hi := 3) (b := 0) (c := 3) rfl rfl (Nat.zero_le _) (by omega) (by decide)]; decide)
  · refine ev_iload_2 dX10_castle_9 ?_
    refine ev_iconst_0 dX10_castle_10 ?_
    refine ev_iconst_1 dX10_castle_11 ?_
    refine cl_X10_61 c_mIn dX10_castle_12 rfl (Nat.le_of_ble_eq_true rfl) ?_
    refine ev_if_eq (tgt := 53) dX10_castle_15 (by decide) (fun h15 => ?_) (fun h15 => ?_)
    · first
      | exact absurd ((b2i_0 _).mp h50) (by rw [sqB_of hG hq]; decide)
      | exact absurd ((b2i_0 _).mp h41) (by rw [sqB_of hG hp]; decide)
      | exact absurd ((b2i_0 _).mp h32) (by rw [sqB_of hG hs]; decide)
      | exact absurd ((b2i_0 _).mp h23) (by rw [sqB_of hG hr]; decide)
      | exact absurd ((b2i_0 _).mp h15) (by rw [inB_bt, isBt_of hd]; decide)
      | exact absurd ((b2i_0 _).mp h6) (by rw [inB_n (lo := 0) (hi := 3) (b := 0) (c := 3) rfl rfl (Nat.zero_le _) (by omega) (by decide)]; decide)
    · refine ev_aload_0 dX10_castle_18 ?_
      refine ev_iload_3 dX10_castle_19 ?_
      refine cl_X10_149 (c_mIsSq hm hg hG) hm.1 dX10_castle_20 rfl (Nat.le_of_ble_eq_true rfl) ?_
      refine ev_if_eq (tgt := 53) dX10_castle_23 (by decide) (fun h23 => ?_) (fun h23 => ?_)
      · first
        | exact absurd ((b2i_0 _).mp h50) (by rw [sqB_of hG hq]; decide)
        | exact absurd ((b2i_0 _).mp h41) (by rw [sqB_of hG hp]; decide)
        | exact absurd ((b2i_0 _).mp h32) (by rw [sqB_of hG hs]; decide)
        | exact absurd ((b2i_0 _).mp h23) (by rw [sqB_of hG hr]; decide)
        | exact absurd ((b2i_0 _).mp h15) (by rw [inB_bt, isBt_of hd]; decide)
        | exact absurd ((b2i_0 _).mp h6) (by rw [inB_n (lo := 0) (hi := 3) (b := 0) (c := 3) rfl rfl (Nat.zero_le _) (by omega) (by decide)]; decide)
      · refine ev_aload_0 dX10_castle_26 ?_
        refine ev_iload_4 dX10_castle_27 ?_
        refine cl_X10_149 (c_mIsSq hm hg hG) hm.1 dX10_castle_29 rfl (Nat.le_of_ble_eq_true rfl) ?_
        refine ev_if_eq (tgt := 53) dX10_castle_32 (by decide) (fun h32 => ?_) (fun h32 => ?_)
        · first
          | exact absurd ((b2i_0 _).mp h50) (by rw [sqB_of hG hq]; decide)
          | exact absurd ((b2i_0 _).mp h41) (by rw [sqB_of hG hp]; decide)
          | exact absurd ((b2i_0 _).mp h32) (by rw [sqB_of hG hs]; decide)
          | exact absurd ((b2i_0 _).mp h23) (by rw [sqB_of hG hr]; decide)
          | exact absurd ((b2i_0 _).mp h15) (by rw [inB_bt, isBt_of hd]; decide)
          | exact absurd ((b2i_0 _).mp h6) (by rw [inB_n (lo := 0) (hi := 3) (b := 0) (c := 3) rfl rfl (Nat.zero_le _) (by omega) (by decide)]; decide)
        · refine ev_aload_0 dX10_castle_35 ?_
          refine ev_iload_5 dX10_castle_36 ?_
          refine cl_X10_149 (c_mIsSq hm hg hG) hm.1 dX10_castle_38 rfl (Nat.le_of_ble_eq_true rfl) ?_
          refine ev_if_eq (tgt := 53) dX10_castle_41 (by decide) (fun h41 => ?_) (fun h41 => ?_)
          · first
            | exact absurd ((b2i_0 _).mp h50) (by rw [sqB_of hG hq]; decide)
            | exact absurd ((b2i_0 _).mp h41) (by rw [sqB_of hG hp]; decide)
            | exact absurd ((b2i_0 _).mp h32) (by rw [sqB_of hG hs]; decide)
            | exact absurd ((b2i_0 _).mp h23) (by rw [sqB_of hG hr]; decide)
            | exact absurd ((b2i_0 _).mp h15) (by rw [inB_bt, isBt_of hd]; decide)
            | exact absurd ((b2i_0 _).mp h6) (by rw [inB_n (lo := 0) (hi := 3) (b := 0) (c := 3) rfl rfl (Nat.zero_le _) (by omega) (by decide)]; decide)
          · refine ev_aload_0 dX10_castle_44 ?_
            refine ev_iload_6 dX10_castle_45 ?_
            refine cl_X10_149 (c_mIsSq hm hg hG) hm.1 dX10_castle_47 rfl (Nat.le_of_ble_eq_true rfl) ?_
            refine ev_if_ne (tgt := 55) dX10_castle_50 (by decide) (fun h50 => ?_) (fun h50 => ?_)
            · refine ev_aload_0 dX10_castle_55 ?_
              refine ev_iload_3 dX10_castle_56 ?_
              refine cl_X10_152 (c_mRow hm hg hG (q := (r)) (by omega)) hm.1 dX10_castle_57 rfl (Nat.le_of_ble_eq_true rfl) ?_
              refine ev_aload_0 dX10_castle_60 ?_
              refine ev_iload_4 dX10_castle_61 ?_
              refine cl_X10_152 (c_mRow hm hg hG (q := (s)) (by omega)) hm.1 dX10_castle_63 rfl (Nat.le_of_ble_eq_true rfl) ?_
              refine ev_icmp_ne (tgt := 110) dX10_castle_66 (by decide) (fun h66 => ?_) (fun h66 => ?_)
              · first
                | exact absurd ((nI_eq (by omega) (by omega)).mp h107) hok.2.2.2.2
                | exact absurd ((nI_eq (by omega) (by omega)).mp h100) hok.2.2.2.1
                | exact absurd (congrArg nI hok.2.2.1) h94
                | exact absurd (congrArg nI hok.2.1) h80
                | exact absurd (congrArg nI hok.1) h66
              · refine ev_aload_0 dX10_castle_69 ?_
                refine ev_iload_3 dX10_castle_70 ?_
                refine cl_X10_152 (c_mRow hm hg hG (q := (r)) (by omega)) hm.1 dX10_castle_71 rfl (Nat.le_of_ble_eq_true rfl) ?_
                refine ev_aload_0 dX10_castle_74 ?_
                refine ev_iload_5 dX10_castle_75 ?_
                refine cl_X10_152 (c_mRow hm hg hG (q := (p)) (by omega)) hm.1 dX10_castle_77 rfl (Nat.le_of_ble_eq_true rfl) ?_
                refine ev_icmp_ne (tgt := 110) dX10_castle_80 (by decide) (fun h80 => ?_) (fun h80 => ?_)
                · first
                  | exact absurd ((nI_eq (by omega) (by omega)).mp h107) hok.2.2.2.2
                  | exact absurd ((nI_eq (by omega) (by omega)).mp h100) hok.2.2.2.1
                  | exact absurd (congrArg nI hok.2.2.1) h94
                  | exact absurd (congrArg nI hok.2.1) h80
                  | exact absurd (congrArg nI hok.1) h66
                · refine ev_aload_0 dX10_castle_83 ?_
                  refine ev_iload_3 dX10_castle_84 ?_
                  refine cl_X10_152 (c_mRow hm hg hG (q := (r)) (by omega)) hm.1 dX10_castle_85 rfl (Nat.le_of_ble_eq_true rfl) ?_
                  refine ev_aload_0 dX10_castle_88 ?_
                  refine ev_iload_6 dX10_castle_89 ?_
                  refine cl_X10_152 (c_mRow hm hg hG (q := (q)) (by omega)) hm.1 dX10_castle_91 rfl (Nat.le_of_ble_eq_true rfl) ?_
                  refine ev_icmp_ne (tgt := 110) dX10_castle_94 (by decide) (fun h94 => ?_) (fun h94 => ?_)
                  · first
                    | exact absurd ((nI_eq (by omega) (by omega)).mp h107) hok.2.2.2.2
                    | exact absurd ((nI_eq (by omega) (by omega)).mp h100) hok.2.2.2.1
                    | exact absurd (congrArg nI hok.2.2.1) h94
                    | exact absurd (congrArg nI hok.2.1) h80
                    | exact absurd (congrArg nI hok.1) h66
                  · refine ev_iload_3 dX10_castle_97 ?_
                    refine ev_iload_5 dX10_castle_98 ?_
                    refine ev_icmp_eq (tgt := 110) dX10_castle_100 (by decide) (fun h100 => ?_) (fun h100 => ?_)
                    · first
                      | exact absurd ((nI_eq (by omega) (by omega)).mp h107) hok.2.2.2.2
                      | exact absurd ((nI_eq (by omega) (by omega)).mp h100) hok.2.2.2.1
                      | exact absurd (congrArg nI hok.2.2.1) h94
                      | exact absurd (congrArg nI hok.2.1) h80
                      | exact absurd (congrArg nI hok.1) h66
                    · refine ev_iload_4 dX10_castle_103 ?_
                      refine ev_iload_6 dX10_castle_105 ?_
                      refine ev_icmp_ne (tgt := 113) dX10_castle_107 (by decide) (fun h107 => ?_) (fun h107 => ?_)
                      · refine ev_iload_1 dX10_castle_113 ?_
                        refine cl_X10_72 (c_castleAt (t := (k))) dX10_castle_114 rfl (Nat.le_of_ble_eq_true rfl) ?_
                        refine ev_istore_7 dX10_castle_117 rfl rfl ?_
                        refine ev_aload_0 dX10_castle_119 ?_
                        refine gf_X10_11 dX10_castle_120 hm.1 rfl ?_
                        refine ev_iload_7 dX10_castle_123 ?_
                        refine ev_iconst_1 dX10_castle_125 ?_
                        refine ev_stk (k := 184 + 6 * k) hm.2.1 hg rfl (by omega) (by decide) dX10_castle_126 (fun σ126 hw126 hf126 hl126 => ?_)
                        refine ev_aload_0 dX10_castle_127 ?_
                        refine gf_X10_11 dX10_castle_128 hm.1 rfl ?_
                        refine ev_iload_7 dX10_castle_131 ?_
                        refine ev_iconst_1 dX10_castle_133 ?_
                        refine ev_iadd dX10_castle_134 ?_
                        rw [show nI (184 + 6 * k) + (1 : Int32) = nI (184 + 6 * k + 1) from nI_add (184 + 6 * k) (1)]
                        refine ev_iload_2 dX10_castle_135 ?_
                        refine ev_stk (k := 184 + 6 * k + 1) hm.2.1 hw126 rfl (by omega) (by decide) dX10_castle_136 (fun σ136 hw136 hf136 hl136 => ?_)
                        refine ev_aload_0 dX10_castle_137 ?_
                        refine gf_X10_11 dX10_castle_138 hm.1 rfl ?_
                        refine ev_iload_7 dX10_castle_141 ?_
                        refine ev_iconst_2 dX10_castle_143 ?_
                        refine ev_iadd dX10_castle_144 ?_
                        rw [show nI (184 + 6 * k) + (2 : Int32) = nI (184 + 6 * k + 2) from nI_add (184 + 6 * k) (2)]
                        refine ev_iload_3 dX10_castle_145 ?_
                        refine ev_stk (k := 184 + 6 * k + 2) hm.2.1 hw136 rfl (by omega) (by decide) dX10_castle_146 (fun σ146 hw146 hf146 hl146 => ?_)
                        refine ev_aload_0 dX10_castle_147 ?_
                        refine gf_X10_11 dX10_castle_148 hm.1 rfl ?_
                        refine ev_iload_7 dX10_castle_151 ?_
                        refine ev_iconst_3 dX10_castle_153 ?_
                        refine ev_iadd dX10_castle_154 ?_
                        rw [show nI (184 + 6 * k) + (3 : Int32) = nI (184 + 6 * k + 3) from nI_add (184 + 6 * k) (3)]
                        refine ev_iload_4 dX10_castle_155 ?_
                        refine ev_stk (k := 184 + 6 * k + 3) hm.2.1 hw146 rfl (by omega) (by decide) dX10_castle_157 (fun σ157 hw157 hf157 hl157 => ?_)
                        refine ev_aload_0 dX10_castle_158 ?_
                        refine gf_X10_11 dX10_castle_159 hm.1 rfl ?_
                        refine ev_iload_7 dX10_castle_162 ?_
                        refine ev_iconst_4 dX10_castle_164 ?_
                        refine ev_iadd dX10_castle_165 ?_
                        rw [show nI (184 + 6 * k) + (4 : Int32) = nI (184 + 6 * k + 4) from nI_add (184 + 6 * k) (4)]
                        refine ev_iload_5 dX10_castle_166 ?_
                        refine ev_stk (k := 184 + 6 * k + 4) hm.2.1 hw157 rfl (by omega) (by decide) dX10_castle_168 (fun σ168 hw168 hf168 hl168 => ?_)
                        refine ev_aload_0 dX10_castle_169 ?_
                        refine gf_X10_11 dX10_castle_170 hm.1 rfl ?_
                        refine ev_iload_7 dX10_castle_173 ?_
                        refine ev_iconst_5 dX10_castle_175 ?_
                        refine ev_iadd dX10_castle_176 ?_
                        rw [show nI (184 + 6 * k) + (5 : Int32) = nI (184 + 6 * k + 5) from nI_add (184 + 6 * k) (5)]
                        refine ev_iload_6 dX10_castle_177 ?_
                        refine ev_stk (k := 184 + 6 * k + 5) hm.2.1 hw168 rfl (by omega) (by decide) dX10_castle_179 (fun σ179 hw179 hf179 hl179 => ?_)
                        refine ev_aload_0 dX10_castle_180 ?_
                        refine gf_X10_11 dX10_castle_181 hm.1 rfl ?_
                        refine ev_bipush_49 dX10_castle_184 ?_
                        refine ev_iload_1 dX10_castle_186 ?_
                        refine ev_iadd dX10_castle_187 ?_
                        rw [show (49 : Int32) + nI k = nI (49 + k) from nI_add (49) (k)]
                        refine ev_iconst_1 dX10_castle_188 ?_
                        refine ev_stk (k := 49 + k) hm.2.1 hw179 rfl (by omega) (by decide) dX10_castle_189 (fun σ189 hw189 hf189 hl189 => ?_)
                        have hz := hw189.trans (cas_fun (g := g) (sd := d) (r := r) (s := s) (p := p) (q := q) hk)
                        refine ev_aload_0 dX10_castle_190 ?_
                        refine cg_X10_58 (c_mBegins hm hz hG1 hW1) hm.1 dX10_castle_191 rfl (Nat.le_of_ble_eq_true rfl) (fun σb191 hb191 => ?_)
                        obtain ⟨b1_191, b2_191, b3_191, b4_191, b5_191⟩ := hb191
                        refine ev_aload_0 dX10_castle_194 ?_
                        refine ev_iconst_0 dX10_castle_195 ?_
                        refine cl_X10_155 (c_mCastles0 hm b1_191 (bg_wfP hG1) (bg_wfL hW1)) hm.1 dX10_castle_196 rfl (Nat.le_of_ble_eq_true rfl) ?_
                        refine ev_pi dX10_castle_199 ⟨?_, b1_191, ?_, b3_191, fun j x61 x62 x72 => ?_, ?_⟩
                        · rw [cas_cnt]
                          exact congrArg nI (cntF_cong 4 (fun z hz => by rw [show exN (begG (casS g k d r s p q)) z = exN (casS g k d r s p q) z from bg_cl (by omega) (by omega)]))
                        · rw [b2_191, hf189 61 (by decide), hf179 61 (by decide), hf168 61 (by decide), hf157 61 (by decide), hf146 61 (by decide), hf136 61 (by decide), hf126 61 (by decide)]
                        · rw [b4_191 j x61 x62 x72, hf189 j x62, hf179 j x62, hf168 j x62, hf157 j x62, hf146 j x62, hf136 j x62, hf126 j x62]
                        · rw [b5_191, hl189, hl179, hl168, hl157, hl146, hl136, hl126]
                      · first
                        | exact absurd ((nI_eq (by omega) (by omega)).mp h107) hok.2.2.2.2
                        | exact absurd ((nI_eq (by omega) (by omega)).mp h100) hok.2.2.2.1
                        | exact absurd (congrArg nI hok.2.2.1) h94
                        | exact absurd (congrArg nI hok.2.1) h80
                        | exact absurd (congrArg nI hok.1) h66
            · first
              | exact absurd ((b2i_0 _).mp h50) (by rw [sqB_of hG hq]; decide)
              | exact absurd ((b2i_0 _).mp h41) (by rw [sqB_of hG hp]; decide)
              | exact absurd ((b2i_0 _).mp h32) (by rw [sqB_of hG hs]; decide)
              | exact absurd ((b2i_0 _).mp h23) (by rw [sqB_of hG hr]; decide)
              | exact absurd ((b2i_0 _).mp h15) (by rw [inB_bt, isBt_of hd]; decide)
              | exact absurd ((b2i_0 _).mp h6) (by rw [inB_n (lo := 0) (hi := 3) (b := 0) (c := 3) rfl rfl (Nat.zero_le _) (by omega) (by decide)]; decide)
set_option maxRecDepth 100000 in
set_option maxHeartbeats 4000000 in
theorem c_mImage_7 {ae ad : Nat → Nat} {sh : mSh} {σ : mSt} (hm : mModel ad sh) {g s0 : Nat → Int32} (hg : σ.1 62 = g) {Post : mPost} (K : ∀ σ' : mSt, (σ'.1 63 = fa_fill (g) (s0) 2369 ∧ (∀ j, j ≠ 63 → σ'.1 j = σ.1 j) ∧ σ'.2 = σ.2) → Ev RX10 cX10_image 2 false (some .int) (mRm 2 0 0) ae Post 32 [some (.ref (ad 61)), some (.int (nI 2369))] [] 0 0 ad sh σ') : ∀ (n i : Nat), 2369 - i = n → i ≤ 2369 → ∀ σ2 : mSt, (σ2.1 63 = fa_fill (g) (s0) i ∧ (∀ j, j ≠ 63 → σ2.1 j = σ.1 j) ∧ σ2.2 = σ.2) → Ev RX10 cX10_image 2 false (some .int) (mRm 2 0 0) ae Post 7 [some (.ref (ad 61)), some (.int (nI i))] [] 0 0 ad sh σ2 := by
  intro n
  induction n with
  | zero =>
    intro i hn0 hi σ2 hn
    have e : i = 2369 := by omega
    subst e
    refine ev_iload_1 dX10_image_7 ?_
    refine ev_sipush_2369 dX10_image_8 ?_
    refine ev_icmp_ge (tgt := 32) dX10_image_11 (by decide) (fun h11 => ?_) (fun h11 => absurd (by decide) h11)
    exact K _ hn
  | succ n ih =>
    intro i hn0 hi σ2 hn
    have hlt : i < 2369 := by omega
    have hgn : σ2.1 62 = g := (hn.2.1 62 (by decide)).trans hg
    refine ev_iload_1 dX10_image_7 ?_
    refine ev_sipush_2369 dX10_image_8 ?_
    refine ev_icmp_ge (tgt := 32) dX10_image_11 (by decide) (fun h11 => absurd h11 (nI_ge (b := 2369) hlt (by decide))) (fun h11 => ?_)
    refine ev_aload_0 dX10_image_14 ?_
    refine gf_X10_15 dX10_image_15 hm.1 rfl ?_
    refine ev_iload_1 dX10_image_18 ?_
    refine ev_aload_0 dX10_image_19 ?_
    refine gf_X10_11 dX10_image_20 hm.1 rfl ?_
    refine ev_iload_1 dX10_image_23 ?_
    refine ev_ldk (k := i) hm.2.1 hgn rfl (by omega) (by decide) dX10_image_24 ?_
    refine ev_stk (k := i) hm.2.2.1 hn.1 rfl (by omega) (by decide) dX10_image_25 (fun σ25 hw25 hf25 hl25 => ?_)
    have znow_25 := (hf25 62 (by decide)).trans hgn
    refine ev_iinc_1 (v := 1) dX10_image_26 (by decide) rfl rfl ?_
    rw [show nI i + 1 = nI (i + 1) from nI_add (i) 1]
    refine ev_goto (tgt := 7) dX10_image_29 (by decide) ?_
    exact ih (i + 1) (by omega) (by omega) _ ⟨hw25.trans (fa_fill_succ _ _ _), fun j xx => (hf25 j xx).trans (hn.2.1 j xx), hl25.trans hn.2.2⟩
set_option maxRecDepth 100000 in
set_option maxHeartbeats 4000000 in
theorem c_mImage_32 {ae ad : Nat → Nat} {sh : mSh} {σ σ3 : mSt} (hm : mModel ad sh) {g : Nat → Int32} (hg : σ3.1 62 = g) (hG : wfP g) (h : σ3.1 63 = fa_fill g (σ.1 63) 2369 ∧ σ3.1 61 = upd (σ.1 61) 2 1 ∧ (∀ j, j ≠ 61 → j ≠ 63 → σ3.1 j = σ.1 j) ∧ σ3.2 = σ.2) : Ev RX10 cX10_image 2 false (some .int) (mRm 2 0 0) ae (mPi ad sh (fun x σ' => x = nI (cntF (fun q => decide (1 ≤ mN g q)) (cN g * rN g)) ∧ σ'.1 63 = fa_fill g (σ.1 63) 2369 ∧ σ'.1 61 = upd (σ.1 61) 2 1 ∧ (∀ j, j ≠ 61 → j ≠ 63 → σ'.1 j = σ.1 j) ∧ σ'.2 = σ.2)) 32 [some (.ref (ad 61)), some (.int (nI 2369))] [] 0 0 ad sh σ3 := by
  refine ev_aload_0 dX10_image_32 ?_
  refine cl_X10_146 (c_mMen hm hg hG) hm.1 dX10_image_33 rfl (Nat.le_of_ble_eq_true rfl) ?_
  exact ev_pi dX10_image_36 ⟨rfl, h⟩
set_option maxRecDepth 100000 in
set_option maxHeartbeats 4000000 in
theorem c_mImage {ae ad : Nat → Nat} {sh : mSh} {σ : mSt} (hm : mModel ad sh) {g : Nat → Int32} (hg : σ.1 62 = g) (hG : wfP g) : Ct yX10_image cX10_image 2 (some .int) 2 0 0 [.ref (ad 61)] ae ad sh σ (mPi ad sh (fun x σ' => x = nI (cntF (fun q => decide (1 ≤ mN g q)) (cN g * rN g)) ∧ σ'.1 63 = fa_fill g (σ.1 63) 2369 ∧ σ'.1 61 = upd (σ.1 61) 2 1 ∧ (∀ j, j ≠ 61 → j ≠ 63 → σ'.1 j = σ.1 j) ∧ σ'.2 = σ.2)) := by
  refine Ct.ofL (own := RX10) (ini := false) (ls := [some (.ref (ad 61)), none]) (by decide +kernel) rfl (fun h => by cases h) (Nat.le_of_ble_eq_true rfl) rfl ?_
  refine ev_aload_0 dX10_image_0 ?_
  refine ev_iconst_1 dX10_image_1 ?_
  refine pf_X10_279 (by decide) (by decide) dX10_image_2 hm.1 rfl ?_
  refine ev_abs (fun σ2 hw2 hf2 hl2 => ?_)
  have znow_2 := (hf2 62 (by decide)).trans hg
  have zsaved_2 := (hf2 63 (by decide)).trans (Eq.refl _)
  refine ev_iconst_0 dX10_image_5 ?_
  refine ev_istore_1 dX10_image_6 rfl rfl ?_
  refine c_mImage_7 hm znow_2 (fun σ3 hk => ?_) _ 0 rfl (Nat.zero_le _) _ ⟨zsaved_2.trans (fa_fill_0 _ _).symm, fun _ _ => rfl, rfl⟩
  exact c_mImage_32 hm ((hk.2.1 62 (by decide)).trans znow_2) hG ⟨hk.1, (hk.2.1 61 (by decide)).trans hw2, fun j x61 x63 => (hk.2.1 j x63).trans (hf2 j x61), hk.2.2.trans hl2⟩
set_option maxRecDepth 100000 in
set_option maxHeartbeats 4000000 in
theorem c_mUndoNo {ae ad : Nat → Nat} {sh : mSh} {σ : mSt} (hm : mModel ad sh) (h : σ.1 61 2 = 0) : Ct yX10_undo cX10_undo 2 (some .int) 2 0 0 [.ref (ad 61)] ae ad sh σ (mEq (some (.int (-3))) ad sh σ) := by
  refine Ct.ofL (own := RX10) (ini := false) (ls := [some (.ref (ad 61)), none]) (by decide +kernel) rfl (fun h => by cases h) (Nat.le_of_ble_eq_true rfl) rfl ?_
  refine ev_aload_0 dX10_undo_0 ?_
  refine gf_X10_279 dX10_undo_1 hm.1 rfl ?_
  rw [h]
  refine ev_if_ne (tgt := 10) dX10_undo_4 (by decide) (fun h4 => absurd h4 (by decide)) (fun h4 => ?_)
  refine ev_bipush_m3 dX10_undo_7 ?_
  exact ev_ireturn dX10_undo_9
set_option maxRecDepth 100000 in
set_option maxHeartbeats 4000000 in
theorem c_mUndo_12 {ae ad : Nat → Nat} {sh : mSh} {σ : mSt} (hm : mModel ad sh) {g s0 : Nat → Int32} (hg : σ.1 63 = g) {Post : mPost} (K : ∀ σ' : mSt, (σ'.1 62 = fa_fill (g) (s0) 2369 ∧ (∀ j, j ≠ 62 → σ'.1 j = σ.1 j) ∧ σ'.2 = σ.2) → Ev RX10 cX10_undo 2 false (some .int) (mRm 2 0 0) ae Post 37 [some (.ref (ad 61)), some (.int (nI 2369))] [] 0 0 ad sh σ') : ∀ (n i : Nat), 2369 - i = n → i ≤ 2369 → ∀ σ2 : mSt, (σ2.1 62 = fa_fill (g) (s0) i ∧ (∀ j, j ≠ 62 → σ2.1 j = σ.1 j) ∧ σ2.2 = σ.2) → Ev RX10 cX10_undo 2 false (some .int) (mRm 2 0 0) ae Post 12 [some (.ref (ad 61)), some (.int (nI i))] [] 0 0 ad sh σ2 := by
  intro n
  induction n with
  | zero =>
    intro i hn0 hi σ2 hn
    have e : i = 2369 := by omega
    subst e
    refine ev_iload_1 dX10_undo_12 ?_
    refine ev_sipush_2369 dX10_undo_13 ?_
    refine ev_icmp_ge (tgt := 37) dX10_undo_16 (by decide) (fun h16 => ?_) (fun h16 => absurd (by decide) h16)
    exact K _ hn
  | succ n ih =>
    intro i hn0 hi σ2 hn
    have hlt : i < 2369 := by omega
    have hgn : σ2.1 63 = g := (hn.2.1 63 (by decide)).trans hg
    refine ev_iload_1 dX10_undo_12 ?_
    refine ev_sipush_2369 dX10_undo_13 ?_
    refine ev_icmp_ge (tgt := 37) dX10_undo_16 (by decide) (fun h16 => absurd h16 (nI_ge (b := 2369) hlt (by decide))) (fun h16 => ?_)
    refine ev_aload_0 dX10_undo_19 ?_
    refine gf_X10_11 dX10_undo_20 hm.1 rfl ?_
    refine ev_iload_1 dX10_undo_23 ?_
    refine ev_aload_0 dX10_undo_24 ?_
    refine gf_X10_15 dX10_undo_25 hm.1 rfl ?_
    refine ev_iload_1 dX10_undo_28 ?_
    refine ev_ldk (k := i) hm.2.2.1 hgn rfl (by omega) (by decide) dX10_undo_29 ?_
    refine ev_stk (k := i) hm.2.1 hn.1 rfl (by omega) (by decide) dX10_undo_30 (fun σ30 hw30 hf30 hl30 => ?_)
    have zsaved_30 := (hf30 63 (by decide)).trans hgn
    refine ev_iinc_1 (v := 1) dX10_undo_31 (by decide) rfl rfl ?_
    rw [show nI i + 1 = nI (i + 1) from nI_add (i) 1]
    refine ev_goto (tgt := 12) dX10_undo_34 (by decide) ?_
    exact ih (i + 1) (by omega) (by omega) _ ⟨hw30.trans (fa_fill_succ _ _ _), fun j xx => (hf30 j xx).trans (hn.2.1 j xx), hl30.trans hn.2.2⟩
set_option maxRecDepth 100000 in
set_option maxHeartbeats 4000000 in
theorem c_mUndo_37 {ae ad : Nat → Nat} {sh : mSh} {σ σ3 : mSt} (hm : mModel ad sh) {g1 : Nat → Int32} (hG : wfP g1) (h : σ3.1 62 = g1 ∧ (∀ j, j ≠ 62 → σ3.1 j = σ.1 j) ∧ σ3.2 = σ.2) : Ev RX10 cX10_undo 2 false (some .int) (mRm 2 0 0) ae (mPi ad sh (fun x σ' => x = nI (cntF (fun q => decide (1 ≤ mN g1 q)) (cN g1 * rN g1)) ∧ begR σ σ' g1)) 37 [some (.ref (ad 61)), some (.int (nI 2369))] [] 0 0 ad sh σ3 := by
  refine ev_aload_0 dX10_undo_37 ?_
  refine cg_X10_79 (c_mStirs hm) hm.1 dX10_undo_38 rfl (Nat.le_of_ble_eq_true rfl) (fun σs38 hs38 => ?_)
  obtain ⟨s1_38, s2_38, s3_38, s4_38⟩ := hs38
  have znow_38 := (s3_38 62 (by decide) (by decide)).trans h.1
  refine ev_aload_0 dX10_undo_41 ?_
  refine cl_X10_146 (c_mMen hm znow_38 hG) hm.1 dX10_undo_42 rfl (Nat.le_of_ble_eq_true rfl) ?_
  exact ev_pi dX10_undo_45 ⟨rfl, znow_38, s1_38.trans (by rw [h.2.1 61 (by decide)]), s2_38, fun j x61 x62 x72 => (s3_38 j x61 x72).trans (h.2.1 j x62), s4_38.trans h.2.2⟩
set_option maxRecDepth 100000 in
set_option maxHeartbeats 4000000 in
theorem c_mUndo {ae ad : Nat → Nat} {sh : mSh} {σ : mSt} (hm : mModel ad sh) {g s : Nat → Int32} (hg : σ.1 62 = g) (hs : σ.1 63 = s) (h1 : σ.1 61 2 = 1) (hG : wfP (fa_fill s g 2369)) : Ct yX10_undo cX10_undo 2 (some .int) 2 0 0 [.ref (ad 61)] ae ad sh σ (mPi ad sh (fun x σ' => x = nI (cntF (fun q => decide (1 ≤ mN (fa_fill s g 2369) q)) (cN (fa_fill s g 2369) * rN (fa_fill s g 2369))) ∧ begR σ σ' (fa_fill s g 2369))) := by
  refine Ct.ofL (own := RX10) (ini := false) (ls := [some (.ref (ad 61)), none]) (by decide +kernel) rfl (fun h => by cases h) (Nat.le_of_ble_eq_true rfl) rfl ?_
  refine ev_aload_0 dX10_undo_0 ?_
  refine gf_X10_279 dX10_undo_1 hm.1 rfl ?_
  rw [h1]
  refine ev_if_ne (tgt := 10) dX10_undo_4 (by decide) (fun h4 => ?_) (fun h4 => ?_)
  · refine ev_iconst_0 dX10_undo_10 ?_
    refine ev_istore_1 dX10_undo_11 rfl rfl ?_
    exact c_mUndo_12 hm hs (fun σ3 hk => c_mUndo_37 hm hG hk) _ 0 rfl (Nat.zero_le _) _ ⟨by rw [fa_fill_0, hg], fun _ _ => rfl, rfl⟩
  · exact absurd h4 (by decide)
/-- the men counted square by square are the set's size -/
def menOk (g : Nat → Int32) : Prop := menG g = nI (cntF (fun q => decide (1 ≤ mN g q)) (cN g * rN g))

set_option maxRecDepth 100000 in
set_option maxHeartbeats 4000000 in
theorem c_mCount0 {ae ad : Nat → Nat} {sh : mSh} {σ : mSt} (hm : mModel ad sh) {g : Nat → Int32} (hg : σ.1 62 = g) (hG : wfP g) (hW : wfL g) {D tl : Nat} (hD : g 57 = nI D) (hD4 : D ≤ 40) (ht : σ.1 61 4 = nI tl) (hmen : menOk g) : Ct yX10_count cX10_count 2 (some .int) 2 0 0 [.ref (ad 61), .int 0] ae ad sh σ (mEq (some (.int (couA g D tl 0))) ad sh σ) := by
  refine Ct.ofL (own := RX10) (ini := false) (ls := [some (.ref (ad 61)), some (.int 0)]) (by decide +kernel) rfl (fun h => by cases h) (Nat.le_of_ble_eq_true rfl) rfl ?_
  refine ev_iload_1 dX10_count_0 ?_
  refine ev_tableIn (off := 59) (tgt := 60) dX10_count_1 (by decide) (by decide) (by decide) (by decide) ?_
  refine ev_aload_0 dX10_count_60 ?_
  refine cl_X10_146 (c_mMen hm hg hG) hm.1 dX10_count_61 rfl (Nat.le_of_ble_eq_true rfl) ?_
  refine ev_iret dX10_count_64 ?_ rfl
  unfold couA
  rw [if_pos rfl]
  exact hmen.symm
set_option maxRecDepth 100000 in
set_option maxHeartbeats 4000000 in
theorem c_mCount1 {ae ad : Nat → Nat} {sh : mSh} {σ : mSt} (hm : mModel ad sh) {g : Nat → Int32} (hg : σ.1 62 = g) (hG : wfP g) (hW : wfL g) {D tl : Nat} (hD : g 57 = nI D) (hD4 : D ≤ 40) (ht : σ.1 61 4 = nI tl) (hmen : menOk g) : Ct yX10_count cX10_count 2 (some .int) 2 0 0 [.ref (ad 61), .int 1] ae ad sh σ (mEq (some (.int (couA g D tl 1))) ad sh σ) := by
  refine Ct.ofL (own := RX10) (ini := false) (ls := [some (.ref (ad 61)), some (.int 1)]) (by decide +kernel) rfl (fun h => by cases h) (Nat.le_of_ble_eq_true rfl) rfl ?_
  refine ev_iload_1 dX10_count_0 ?_
  refine ev_tableIn (off := 64) (tgt := 65) dX10_count_1 (by decide) (by decide) (by decide) (by decide) ?_
  refine ev_aload_0 dX10_count_65 ?_
  refine gf_X10_11 dX10_count_66 hm.1 rfl ?_
  refine ev_bipush_53 dX10_count_69 ?_
  refine ev_ldk (k := 53) hm.2.1 hg rfl (by omega) (by decide) dX10_count_71 ?_
  refine ev_iret dX10_count_72 ?_ rfl
  unfold couA
  rw [if_neg (by decide)]; rw [if_pos rfl]
set_option maxRecDepth 100000 in
set_option maxHeartbeats 4000000 in
theorem c_mCount2 {ae ad : Nat → Nat} {sh : mSh} {σ : mSt} (hm : mModel ad sh) {g : Nat → Int32} (hg : σ.1 62 = g) (hG : wfP g) (hW : wfL g) {D tl : Nat} (hD : g 57 = nI D) (hD4 : D ≤ 40) (ht : σ.1 61 4 = nI tl) (hmen : menOk g) : Ct yX10_count cX10_count 2 (some .int) 2 0 0 [.ref (ad 61), .int 2] ae ad sh σ (mEq (some (.int (couA g D tl 2))) ad sh σ) := by
  refine Ct.ofL (own := RX10) (ini := false) (ls := [some (.ref (ad 61)), some (.int 2)]) (by decide +kernel) rfl (fun h => by cases h) (Nat.le_of_ble_eq_true rfl) rfl ?_
  refine ev_iload_1 dX10_count_0 ?_
  refine ev_tableIn (off := 72) (tgt := 73) dX10_count_1 (by decide) (by decide) (by decide) (by decide) ?_
  refine ev_aload_0 dX10_count_73 ?_
  refine gf_X10_11 dX10_count_74 hm.1 rfl ?_
  refine ev_bipush_54 dX10_count_77 ?_
  refine ev_ldk (k := 54) hm.2.1 hg rfl (by omega) (by decide) dX10_count_79 ?_
  refine ev_iret dX10_count_80 ?_ rfl
  unfold couA
  rw [if_neg (by decide)]; rw [if_neg (by decide)]; rw [if_pos rfl]
set_option maxRecDepth 100000 in
set_option maxHeartbeats 4000000 in
theorem c_mCount3 {ae ad : Nat → Nat} {sh : mSh} {σ : mSt} (hm : mModel ad sh) {g : Nat → Int32} (hg : σ.1 62 = g) (hG : wfP g) (hW : wfL g) {D tl : Nat} (hD : g 57 = nI D) (hD4 : D ≤ 40) (ht : σ.1 61 4 = nI tl) (hmen : menOk g) : Ct yX10_count cX10_count 2 (some .int) 2 0 0 [.ref (ad 61), .int 3] ae ad sh σ (mEq (some (.int (couA g D tl 3))) ad sh σ) := by
  refine Ct.ofL (own := RX10) (ini := false) (ls := [some (.ref (ad 61)), some (.int 3)]) (by decide +kernel) rfl (fun h => by cases h) (Nat.le_of_ble_eq_true rfl) rfl ?_
  refine ev_iload_1 dX10_count_0 ?_
  refine ev_tableIn (off := 80) (tgt := 81) dX10_count_1 (by decide) (by decide) (by decide) (by decide) ?_
  refine ev_aload_0 dX10_count_81 ?_
  refine gf_X10_11 dX10_count_82 hm.1 rfl ?_
  refine ev_iconst_0 dX10_count_85 ?_
  refine ev_ldk (k := 0) hm.2.1 hg rfl (by omega) (by decide) dX10_count_86 ?_
  refine ev_iret dX10_count_87 ?_ rfl
  unfold couA
  rw [if_neg (by decide)]; rw [if_neg (by decide)]; rw [if_neg (by decide)]; rw [if_pos rfl]
set_option maxRecDepth 100000 in
set_option maxHeartbeats 4000000 in
theorem c_mCount4 {ae ad : Nat → Nat} {sh : mSh} {σ : mSt} (hm : mModel ad sh) {g : Nat → Int32} (hg : σ.1 62 = g) (hG : wfP g) (hW : wfL g) {D tl : Nat} (hD : g 57 = nI D) (hD4 : D ≤ 40) (ht : σ.1 61 4 = nI tl) (hmen : menOk g) : Ct yX10_count cX10_count 2 (some .int) 2 0 0 [.ref (ad 61), .int 4] ae ad sh σ (mEq (some (.int (couA g D tl 4))) ad sh σ) := by
  refine Ct.ofL (own := RX10) (ini := false) (ls := [some (.ref (ad 61)), some (.int 4)]) (by decide +kernel) rfl (fun h => by cases h) (Nat.le_of_ble_eq_true rfl) rfl ?_
  refine ev_iload_1 dX10_count_0 ?_
  refine ev_tableIn (off := 87) (tgt := 88) dX10_count_1 (by decide) (by decide) (by decide) (by decide) ?_
  refine ev_aload_0 dX10_count_88 ?_
  refine gf_X10_11 dX10_count_89 hm.1 rfl ?_
  refine ev_bipush_57 dX10_count_92 ?_
  refine ev_ldk (k := 57) hm.2.1 hg rfl (by omega) (by decide) dX10_count_94 ?_
  refine ev_iret dX10_count_95 ?_ rfl
  unfold couA
  rw [if_neg (by decide)]; rw [if_neg (by decide)]; rw [if_neg (by decide)]; rw [if_neg (by decide)]; rw [if_pos rfl]
  exact hD
set_option maxRecDepth 100000 in
set_option maxHeartbeats 4000000 in
theorem c_mCount5 {ae ad : Nat → Nat} {sh : mSh} {σ : mSt} (hm : mModel ad sh) {g : Nat → Int32} (hg : σ.1 62 = g) (hG : wfP g) (hW : wfL g) {D tl : Nat} (hD : g 57 = nI D) (hD4 : D ≤ 40) (ht : σ.1 61 4 = nI tl) (hmen : menOk g) : Ct yX10_count cX10_count 2 (some .int) 2 0 0 [.ref (ad 61), .int 5] ae ad sh σ (mEq (some (.int (couA g D tl 5))) ad sh σ) := by
  refine Ct.ofL (own := RX10) (ini := false) (ls := [some (.ref (ad 61)), some (.int 5)]) (by decide +kernel) rfl (fun h => by cases h) (Nat.le_of_ble_eq_true rfl) rfl ?_
  refine ev_iload_1 dX10_count_0 ?_
  refine ev_tableIn (off := 95) (tgt := 96) dX10_count_1 (by decide) (by decide) (by decide) (by decide) ?_
  refine ev_aload_0 dX10_count_96 ?_
  refine cl_X10_255 (c_mOcc hm hg hD hD4) hm.1 dX10_count_97 rfl (Nat.le_of_ble_eq_true rfl) ?_
  refine ev_iret dX10_count_100 ?_ rfl
  unfold couA
  rw [if_neg (by decide)]; rw [if_neg (by decide)]; rw [if_neg (by decide)]; rw [if_neg (by decide)]; rw [if_neg (by decide)]; rw [if_pos rfl]
set_option maxRecDepth 100000 in
set_option maxHeartbeats 4000000 in
theorem c_mCount6 {ae ad : Nat → Nat} {sh : mSh} {σ : mSt} (hm : mModel ad sh) {g : Nat → Int32} (hg : σ.1 62 = g) (hG : wfP g) (hW : wfL g) {D tl : Nat} (hD : g 57 = nI D) (hD4 : D ≤ 40) (ht : σ.1 61 4 = nI tl) (hmen : menOk g) : Ct yX10_count cX10_count 2 (some .int) 2 0 0 [.ref (ad 61), .int 6] ae ad sh σ (mEq (some (.int (couA g D tl 6))) ad sh σ) := by
  refine Ct.ofL (own := RX10) (ini := false) (ls := [some (.ref (ad 61)), some (.int 6)]) (by decide +kernel) rfl (fun h => by cases h) (Nat.le_of_ble_eq_true rfl) rfl ?_
  refine ev_iload_1 dX10_count_0 ?_
  refine ev_tableIn (off := 100) (tgt := 101) dX10_count_1 (by decide) (by decide) (by decide) (by decide) ?_
  refine ev_aload_0 dX10_count_101 ?_
  refine ev_iconst_0 dX10_count_102 ?_
  refine cl_X10_155 (c_mCastles0 hm hg hG hW) hm.1 dX10_count_103 rfl (Nat.le_of_ble_eq_true rfl) ?_
  refine ev_iret dX10_count_106 ?_ rfl
  unfold couA
  rw [if_neg (by decide)]; rw [if_neg (by decide)]; rw [if_neg (by decide)]; rw [if_neg (by decide)]; rw [if_neg (by decide)]; rw [if_neg (by decide)]; rw [if_pos rfl]
  exact (cas_cnt g).symm
set_option maxRecDepth 100000 in
set_option maxHeartbeats 4000000 in
theorem c_mCount7 {ae ad : Nat → Nat} {sh : mSh} {σ : mSt} (hm : mModel ad sh) {g : Nat → Int32} (hg : σ.1 62 = g) (hG : wfP g) (hW : wfL g) {D tl : Nat} (hD : g 57 = nI D) (hD4 : D ≤ 40) (ht : σ.1 61 4 = nI tl) (hmen : menOk g) : Ct yX10_count cX10_count 2 (some .int) 2 0 0 [.ref (ad 61), .int 7] ae ad sh σ (mEq (some (.int (couA g D tl 7))) ad sh σ) := by
  refine Ct.ofL (own := RX10) (ini := false) (ls := [some (.ref (ad 61)), some (.int 7)]) (by decide +kernel) rfl (fun h => by cases h) (Nat.le_of_ble_eq_true rfl) rfl ?_
  refine ev_iload_1 dX10_count_0 ?_
  refine ev_tableIn (off := 106) (tgt := 107) dX10_count_1 (by decide) (by decide) (by decide) (by decide) ?_
  refine ev_aload_0 dX10_count_107 ?_
  refine ev_iconst_1 dX10_count_108 ?_
  refine cl_X10_155 (c_mCastles1 hm hg hG hW) hm.1 dX10_count_109 rfl (Nat.le_of_ble_eq_true rfl) ?_
  refine ev_iret dX10_count_112 ?_ rfl
  unfold couA
  rw [if_neg (by decide)]; rw [if_neg (by decide)]; rw [if_neg (by decide)]; rw [if_neg (by decide)]; rw [if_neg (by decide)]; rw [if_neg (by decide)]; rw [if_neg (by decide)]; rw [if_pos rfl]
  exact (rit_cnt hG).symm
set_option maxRecDepth 100000 in
set_option maxHeartbeats 4000000 in
theorem c_mCount8 {ae ad : Nat → Nat} {sh : mSh} {σ : mSt} (hm : mModel ad sh) {g : Nat → Int32} (hg : σ.1 62 = g) (hG : wfP g) (hW : wfL g) {D tl : Nat} (hD : g 57 = nI D) (hD4 : D ≤ 40) (ht : σ.1 61 4 = nI tl) (hmen : menOk g) : Ct yX10_count cX10_count 2 (some .int) 2 0 0 [.ref (ad 61), .int 8] ae ad sh σ (mEq (some (.int (couA g D tl 8))) ad sh σ) := by
  refine Ct.ofL (own := RX10) (ini := false) (ls := [some (.ref (ad 61)), some (.int 8)]) (by decide +kernel) rfl (fun h => by cases h) (Nat.le_of_ble_eq_true rfl) rfl ?_
  refine ev_iload_1 dX10_count_0 ?_
  refine ev_tableIn (off := 112) (tgt := 113) dX10_count_1 (by decide) (by decide) (by decide) (by decide) ?_
  refine ev_aload_0 dX10_count_113 ?_
  refine gf_X10_85 dX10_count_114 hm.1 rfl ?_
  refine ev_iret dX10_count_117 ?_ rfl
  unfold couA
  rw [if_neg (by decide)]; rw [if_neg (by decide)]; rw [if_neg (by decide)]; rw [if_neg (by decide)]; rw [if_neg (by decide)]; rw [if_neg (by decide)]; rw [if_neg (by decide)]; rw [if_neg (by decide)]; rw [if_pos rfl]
  exact ht
set_option maxRecDepth 100000 in
set_option maxHeartbeats 4000000 in
theorem c_mCount9 {ae ad : Nat → Nat} {sh : mSh} {σ : mSt} (hm : mModel ad sh) {g : Nat → Int32} (hg : σ.1 62 = g) (hG : wfP g) (hW : wfL g) {D tl : Nat} (hD : g 57 = nI D) (hD4 : D ≤ 40) (ht : σ.1 61 4 = nI tl) (hmen : menOk g) : Ct yX10_count cX10_count 2 (some .int) 2 0 0 [.ref (ad 61), .int 9] ae ad sh σ (mEq (some (.int (couA g D tl 9))) ad sh σ) := by
  refine Ct.ofL (own := RX10) (ini := false) (ls := [some (.ref (ad 61)), some (.int 9)]) (by decide +kernel) rfl (fun h => by cases h) (Nat.le_of_ble_eq_true rfl) rfl ?_
  refine ev_iload_1 dX10_count_0 ?_
  refine ev_tableIn (off := 117) (tgt := 118) dX10_count_1 (by decide) (by decide) (by decide) (by decide) ?_
  refine ev_aload_0 dX10_count_118 ?_
  refine gf_X10_11 dX10_count_119 hm.1 rfl ?_
  refine ev_bipush_55 dX10_count_122 ?_
  refine ev_ldk (k := 55) hm.2.1 hg rfl (by omega) (by decide) dX10_count_124 ?_
  refine ev_iret dX10_count_125 ?_ rfl
  unfold couA
  rw [if_neg (by decide)]; rw [if_neg (by decide)]; rw [if_neg (by decide)]; rw [if_neg (by decide)]; rw [if_neg (by decide)]; rw [if_neg (by decide)]; rw [if_neg (by decide)]; rw [if_neg (by decide)]; rw [if_neg (by decide)]; rw [if_pos rfl]
set_option maxRecDepth 100000 in
set_option maxHeartbeats 4000000 in
theorem c_mCount10 {ae ad : Nat → Nat} {sh : mSh} {σ : mSt} (hm : mModel ad sh) {g : Nat → Int32} (hg : σ.1 62 = g) (hG : wfP g) (hW : wfL g) {D tl : Nat} (hD : g 57 = nI D) (hD4 : D ≤ 40) (ht : σ.1 61 4 = nI tl) (hmen : menOk g) : Ct yX10_count cX10_count 2 (some .int) 2 0 0 [.ref (ad 61), .int 10] ae ad sh σ (mEq (some (.int (couA g D tl 10))) ad sh σ) := by
  refine Ct.ofL (own := RX10) (ini := false) (ls := [some (.ref (ad 61)), some (.int 10)]) (by decide +kernel) rfl (fun h => by cases h) (Nat.le_of_ble_eq_true rfl) rfl ?_
  refine ev_iload_1 dX10_count_0 ?_
  refine ev_tableIn (off := 125) (tgt := 126) dX10_count_1 (by decide) (by decide) (by decide) (by decide) ?_
  refine ev_aload_0 dX10_count_126 ?_
  refine gf_X10_11 dX10_count_127 hm.1 rfl ?_
  refine ev_bipush_56 dX10_count_130 ?_
  refine ev_ldk (k := 56) hm.2.1 hg rfl (by omega) (by decide) dX10_count_132 ?_
  refine ev_iret dX10_count_133 ?_ rfl
  unfold couA
  rw [if_neg (by decide)]; rw [if_neg (by decide)]; rw [if_neg (by decide)]; rw [if_neg (by decide)]; rw [if_neg (by decide)]; rw [if_neg (by decide)]; rw [if_neg (by decide)]; rw [if_neg (by decide)]; rw [if_neg (by decide)]; rw [if_neg (by decide)]; rw [if_pos rfl]
set_option maxRecDepth 100000 in
set_option maxHeartbeats 4000000 in
theorem c_mCountH {ae ad : Nat → Nat} {sh : mSh} {σ : mSt} (hm : mModel ad sh) {g : Nat → Int32} (hg : σ.1 62 = g) (hG : wfP g) (hW : wfL g) {D tl : Nat} (hD : g 57 = nI D) (hD4 : D ≤ 40) (ht : σ.1 61 4 = nI tl) {j : Nat} (h1 : 20 ≤ j) (h2 : j < 32) : Ct yX10_count cX10_count 2 (some .int) 2 0 0 [.ref (ad 61), .int (nI j)] ae ad sh σ (mEq (some (.int (couA g D tl (nI j)))) ad sh σ) := by
  refine Ct.ofL (own := RX10) (ini := false) (ls := [some (.ref (ad 61)), some (.int (nI j))]) (by decide +kernel) rfl (fun h => by cases h) (Nat.le_of_ble_eq_true rfl) rfl ?_
  refine ev_iload_1 dX10_count_0 ?_
  refine ev_tableOut (tgt := 134) dX10_count_1 (Or.inr (by rw [nI_toInt (by omega)]; omega)) (by decide) ?_
  refine ev_iload_1 dX10_count_134 ?_
  refine ev_bipush_20 dX10_count_135 ?_
  refine ev_bipush_31 dX10_count_137 ?_
  refine cl_X10_61 c_mIn dX10_count_139 rfl (Nat.le_of_ble_eq_true rfl) ?_
  refine ev_if_eq (tgt := 160) dX10_count_142 (by decide) (fun h142 => absurd h142 (by rw [inB_n (lo := 20) (hi := 31) (b := 20) (c := 31) rfl rfl h1 (by omega) (by decide)]; decide)) (fun h142 => ?_)
  refine ev_aload_0 dX10_count_145 ?_
  refine gf_X10_11 dX10_count_146 hm.1 rfl ?_
  refine ev_bipush_37 dX10_count_149 ?_
  refine ev_iload_1 dX10_count_151 ?_
  refine ev_iadd dX10_count_152 ?_
  rw [show (37 : Int32) + nI j = nI (37 + j) from nI_add (37) (j)]
  refine ev_bipush_20 dX10_count_153 ?_
  refine ev_isub dX10_count_155 ?_
  rw [show (20 : Int32) = nI 20 from rfl, nI_sub (by omega)]
  refine ev_ldk (k := 37 + j - 20) hm.2.1 hg rfl (by omega) (by decide) dX10_count_156 ?_
  refine ev_goto (tgt := 161) dX10_count_157 (by decide) ?_
  refine ev_iret dX10_count_161 ?_ rfl
  have tj : (nI j).toInt = (j : Int) := nI_toInt (by omega)
  have n : ∀ z : Int32, 0 ≤ z.toInt → z.toInt ≤ 10 → ¬ nI j = z := fun z a b e => by rw [← e, tj] at b; omega
  unfold couA
  rw [if_neg (n 0 (by decide) (by decide)), if_neg (n 1 (by decide) (by decide)), if_neg (n 2 (by decide) (by decide)), if_neg (n 3 (by decide) (by decide)), if_neg (n 4 (by decide) (by decide)), if_neg (n 5 (by decide) (by decide)), if_neg (n 6 (by decide) (by decide)), if_neg (n 7 (by decide) (by decide)), if_neg (n 8 (by decide) (by decide)), if_neg (n 9 (by decide) (by decide)), if_neg (n 10 (by decide) (by decide)), if_pos ⟨nI_le (a := 20) h1 (by omega), nI_le (b := 31) (by omega) (by decide)⟩, nI_clamp (by omega)]
  congr 1
  omega
set_option maxRecDepth 100000 in
set_option maxHeartbeats 4000000 in
theorem c_mCountN {ae ad : Nat → Nat} {sh : mSh} {σ : mSt} (hm : mModel ad sh) {g : Nat → Int32} (hg : σ.1 62 = g) (hG : wfP g) (hW : wfL g) {D tl : Nat} (hD : g 57 = nI D) (hD4 : D ≤ 40) (ht : σ.1 61 4 = nI tl) {c : Int32} (hc : c.toInt < 0 ∨ 10 < c.toInt) (h20 : ¬ (20 ≤ c ∧ c ≤ 31)) : Ct yX10_count cX10_count 2 (some .int) 2 0 0 [.ref (ad 61), .int c] ae ad sh σ (mEq (some (.int (couA g D tl c))) ad sh σ) := by
  refine Ct.ofL (own := RX10) (ini := false) (ls := [some (.ref (ad 61)), some (.int c)]) (by decide +kernel) rfl (fun h => by cases h) (Nat.le_of_ble_eq_true rfl) rfl ?_
  refine ev_iload_1 dX10_count_0 ?_
  refine ev_tableOut (tgt := 134) dX10_count_1 hc (by decide) ?_
  refine ev_iload_1 dX10_count_134 ?_
  refine ev_bipush_20 dX10_count_135 ?_
  refine ev_bipush_31 dX10_count_137 ?_
  refine cl_X10_61 c_mIn dX10_count_139 rfl (Nat.le_of_ble_eq_true rfl) ?_
  refine ev_if_eq (tgt := 160) dX10_count_142 (by decide) (fun h142 => ?_) (fun h142 => absurd (by rw [inB_f (by rw [← Int32.not_le, ← Int32.not_le, ← Classical.not_and_iff_not_or_not]; exact h20)]; rfl) h142)
  refine ev_iconst_m1 dX10_count_160 ?_
  refine ev_iret dX10_count_161 ?_ rfl
  have n : ∀ z : Int32, 0 ≤ z.toInt → z.toInt ≤ 10 → ¬ c = z := fun z a b e => by rw [e] at hc; omega
  unfold couA
  rw [if_neg (n 0 (by decide) (by decide)), if_neg (n 1 (by decide) (by decide)), if_neg (n 2 (by decide) (by decide)), if_neg (n 3 (by decide) (by decide)), if_neg (n 4 (by decide) (by decide)), if_neg (n 5 (by decide) (by decide)), if_neg (n 6 (by decide) (by decide)), if_neg (n 7 (by decide) (by decide)), if_neg (n 8 (by decide) (by decide)), if_neg (n 9 (by decide) (by decide)), if_neg (n 10 (by decide) (by decide)), if_neg h20]
theorem c_mCount {ae ad : Nat → Nat} {sh : mSh} {σ : mSt} (hm : mModel ad sh) {g : Nat → Int32} (hg : σ.1 62 = g) (hG : wfP g) (hW : wfL g) {D tl : Nat} (hD : g 57 = nI D) (hD4 : D ≤ 40) (ht : σ.1 61 4 = nI tl) (hmen : menOk g) {c : Int32} : Ct yX10_count cX10_count 2 (some .int) 2 0 0 [.ref (ad 61), .int c] ae ad sh σ (mEq (some (.int (couA g D tl c))) ad sh σ) := by
  by_cases h20 : 20 ≤ c ∧ c ≤ 31
  · have a1 := Int32.le_iff_toInt_le.mp h20.1
    have a2 := Int32.le_iff_toInt_le.mp h20.2
    have e1 : (20 : Int32).toInt = 20 := by decide
    have e2 : (31 : Int32).toInt = 31 := by decide
    obtain ⟨j, hj, e⟩ := tab_in (n := 31) (c := c) (by decide) (by omega)
    subst e
    have e3 : (nI j).toInt = (j : Int) := nI_toInt (by omega)
    exact c_mCountH hm hg hG hW hD hD4 ht (by omega) (by omega)
  · by_cases hc : c.toInt < 0 ∨ 10 < c.toInt
    · exact c_mCountN hm hg hG hW hD hD4 ht hc h20
    · obtain ⟨k, hk, e⟩ := tab_in (n := 10) (by decide) hc
      subst e
      rcases (show k = 0 ∨ k = 1 ∨ k = 2 ∨ k = 3 ∨ k = 4 ∨ k = 5 ∨ k = 6 ∨ k = 7 ∨ k = 8 ∨ k = 9 ∨ k = 10 by omega) with e | e | e | e | e | e | e | e | e | e | e <;> subst e
      · exact c_mCount0 hm hg hG hW hD hD4 ht hmen
      · exact c_mCount1 hm hg hG hW hD hD4 ht hmen
      · exact c_mCount2 hm hg hG hW hD hD4 ht hmen
      · exact c_mCount3 hm hg hG hW hD hD4 ht hmen
      · exact c_mCount4 hm hg hG hW hD hD4 ht hmen
      · exact c_mCount5 hm hg hG hW hD hD4 ht hmen
      · exact c_mCount6 hm hg hG hW hD hD4 ht hmen
      · exact c_mCount7 hm hg hG hW hD hD4 ht hmen
      · exact c_mCount8 hm hg hG hW hD hD4 ht hmen
      · exact c_mCount9 hm hg hG hW hD hD4 ht hmen
      · exact c_mCount10 hm hg hG hW hD hD4 ht hmen
