def clrB (g : Nat → Int32) (k x : Nat) : Bool := !(occG g x && !(decide (x = caN g k 2) || decide (x = caN g k 4)))
def caA (g : Nat → Int32) (k : Nat) : Bool := decide (exN g k = 1 ∧ caN g k 1 = tuN g) && decide (riN g k = 1)
def caM (g : Nat → Int32) (k : Nat) : Bool := isOfG g (caN g k 2) (tuN g) && (isOfG g (caN g k 4) (tuN g) && royG g (tyN (mN g (caN g k 2))))
def caC (g : Nat → Int32) (k : Nat) : Bool := !(anyF (fun x => !(clrB g k x) && spanB (caN g k 2) (caN g k 4) x) 0 64) && (clrB g k (caN g k 3) && clrB g k (caN g k 5))
def caT (g : Nat → Int32) (k : Nat) : Bool := !(anyF (fun x => attG g (1 - tuN g) x && spanB (caN g k 2) (caN g k 3) x) 0 64)
/-- a slot's castling is possible -/
def castB (g : Nat → Int32) (k : Nat) : Bool := caA g k && (caM g k && (caC g k && caT g k))
theorem side_iff {g : Nat → Int32} (hG : wfP g) (hW : wfL g) {k : Nat} (hk : k < 4) : (if g (184 + 6 * k) = 1 then g (185 + 6 * k) else -1) = nI (tuN g) ↔ exN g k = 1 ∧ caN g k 1 = tuN g := by
  obtain ⟨a1, a2, a3, a4⟩ := hW.2.2.2.2.2.2 k hk
  have htu := tu_le hG
  have e1 := (a2 1 (by decide) (by decide)).1
  have l1 := (a2 1 (by decide) (by decide)).2
  rw [show 184 + 6 * k + 1 = 185 + 6 * k by omega] at e1
  by_cases h : exN g k = 1
  · rw [if_pos (by rw [a1.1, h]; rfl), e1, nI_eq (by omega) (by omega)]
    exact ⟨fun q => ⟨h, q⟩, fun q => q.2⟩
  · rw [if_neg (fun q => h (by rw [a1.1] at q; exact (nI_eq (b := 1) (by omega) (by decide)).mp q))]
    constructor
    · intro q
      rcases (show tuN g = 0 ∨ tuN g = 1 by omega) with z | z <;> rw [z] at q <;> exact absurd q (by decide)
    · intro q; exact absurd q.1 h
theorem setL_iff {f : Nat → Bool} : setL f = 0 ↔ anyF f 0 64 = false := by
  rw [setL_0, anyF_0]
theorem lb_oth {σ : mSt} {p : Nat} {g : Nat → Int32} (hP : posR σ p g) {a b x : Nat} (ha : a < 64) (hb : b < 64) (hx : x < 64) : lb ((σ.2 p 6 ||| σ.2 p 7) &&& ((mBit (nI a) ||| mBit (nI b)) ^^^ (-1))) x = (occG g x && !(decide (x = a) || decide (x = b))) := by
  rw [lb_and, lb_not _ hx, lb_or (mBit (nI a)), lb_mBit ha hx, lb_mBit hb hx, show lb (σ.2 p 6 ||| σ.2 p 7) x = occG g x from congrFun hP.occ x]
theorem clr_oth {σ : mSt} {p : Nat} {g : Nat → Int32} (hP : posR σ p g) {k x : Nat} (ha : caN g k 2 < 64) (hb : caN g k 4 < 64) (hx : x < 64) : lb ((σ.2 p 6 ||| σ.2 p 7) &&& ((mBit (nI (caN g k 2)) ||| mBit (nI (caN g k 4))) ^^^ (-1))) x = !(clrB g k x) := by
  rw [lb_oth hP ha hb hx, clrB, Bool.not_not]

set_option maxRecDepth 100000 in
set_option maxHeartbeats 4000000 in
theorem c_isPossible {ae ad : Nat → Nat} {sh : mSh} {σ : mSt} {y0 l p : Nat} {g : Nat → Int32} (hy : mPlay ad sh y0 l) (hp : mPos ad sh p) (hG : wfP g) (hW : wfL g) (hP : posR σ p g) (hR : ritR σ p g) (hL : lawR σ l g) {k : Nat} (hk : k < 4) : Ct yX5_isPossible cX5_isPossible 11 (some .boolean) 3 0 0 [.ref (ad y0), .ref (ad p), .int (nI k)] ae ad sh σ (mEq (some (.int (b2i (castB g k)))) ad sh σ) := by
  refine Ct.ofL (own := RX5) (ini := false) (ls := [some (.ref (ad y0)), some (.ref (ad p)), some (.int (nI k)), none, none, none, none, none, none, none, none]) (by decide +kernel) rfl (fun h => by cases h) (Nat.le_of_ble_eq_true rfl) rfl ?_
  have htu := tu_le hG
  have c2 := ca_lt hW hk (show 1 ≤ 2 by decide) (by decide)
  have c3 := ca_lt hW hk (show 1 ≤ 3 by decide) (by decide)
  have c4 := ca_lt hW hk (show 1 ≤ 4 by decide) (by decide)
  have c5 := ca_lt hW hk (show 1 ≤ 5 by decide) (by decide)
  refine ev_aload_0 dX5_isPossible_0 ?_
  refine gf_X5_9 dX5_isPossible_1 hy.1 rfl ?_
  refine gf_X5_235 dX5_isPossible_4 hy.2.1 rfl ?_
  refine ev_iload_2 dX5_isPossible_7 ?_
  refine cl_X5_56 (c_cell hy.2.2.2.2.2.2.2.2.2.1 (by decide)) dX5_isPossible_8 rfl (Nat.le_of_ble_eq_true rfl) ?_
  rw [cellV_nI (by omega) hk, hL.2.2.2.2.2.2.1 k hk]
  refine ev_aload_1 dX5_isPossible_11 ?_
  refine gf_X5_131 dX5_isPossible_12 hp.1 rfl ?_
  rw [hP.turn hG]
  refine ev_icmp_ne (tgt := 29) dX5_isPossible_15 (by decide) (fun h15 => ?_) (fun h15 => ?_)
  · refine ev_iconst_0 dX5_isPossible_29 ?_
    exact ev_zret (b2i_nar _) dX5_isPossible_30 (by rw [show castB g k = false by
      rw [castB, show caA g k = false by
        rw [caA]
        first
        | rw [decide_eq_false (fun z => h15 ((side_iff hG hW hk).mpr z)), Bool.false_and]
        | rw [show decide (riN g k = 1) = false from decide_eq_false (fun z => by have e := (bt_test (s := k) (by omega)).mp (by first | exact h26 | exact Decidable.not_not.mp h26); rw [hR k (by omega), decide_eq_false_iff_not] at e; exact e ⟨hk, z⟩), Bool.and_false], Bool.false_and]]; rfl) rfl
  · refine ev_aload_1 dX5_isPossible_18 ?_
    refine gf_X5_155 dX5_isPossible_19 hp.1 rfl ?_
    refine ev_iload_2 dX5_isPossible_22 ?_
    refine ev_ishr dX5_isPossible_23 ?_
    refine ev_iconst_1 dX5_isPossible_24 ?_
    refine ev_iand dX5_isPossible_25 ?_
    refine ev_if_ne (tgt := 31) dX5_isPossible_26 (by decide) (fun h26 => ?_) (fun h26 => ?_)
    · have eA : caA g k = true := by
        rw [caA, decide_eq_true ((side_iff hG hW hk).mp (by first | exact h15 | exact Decidable.not_not.mp h15)), show decide (riN g k = 1) = true from decide_eq_true (by
          have e : bt (σ.1 p 5) k = true := ts_nf (fun z => h26 ((bt_test (s := k) (by omega)).mpr z))
          rw [hR k (by omega)] at e
          exact (of_decide_eq_true e).2)]
        rfl
      refine ev_aload_0 dX5_isPossible_31 ?_
      refine gf_X5_9 dX5_isPossible_32 hy.1 rfl ?_
      refine ev_iload_2 dX5_isPossible_35 ?_
      refine ev_iconst_0 dX5_isPossible_36 ?_
      refine cl_X5_127 (c_castlingSquare hy.2) hy.2.1 dX5_isPossible_37 rfl (Nat.le_of_ble_eq_true rfl) ?_
      rw [show (0 : Int32) = nI 0 from rfl, clv_sq hW hL hk (by decide)]
      refine ev_istore_3 dX5_isPossible_40 rfl rfl ?_
      refine ev_aload_0 dX5_isPossible_41 ?_
      refine gf_X5_9 dX5_isPossible_42 hy.1 rfl ?_
      refine ev_iload_2 dX5_isPossible_45 ?_
      refine ev_iconst_1 dX5_isPossible_46 ?_
      refine cl_X5_127 (c_castlingSquare hy.2) hy.2.1 dX5_isPossible_47 rfl (Nat.le_of_ble_eq_true rfl) ?_
      rw [show (1 : Int32) = nI 1 from rfl, clv_sq hW hL hk (by decide)]
      refine ev_istore_4 dX5_isPossible_50 rfl rfl ?_
      refine ev_aload_0 dX5_isPossible_52 ?_
      refine gf_X5_9 dX5_isPossible_53 hy.1 rfl ?_
      refine ev_iload_2 dX5_isPossible_56 ?_
      refine ev_iconst_2 dX5_isPossible_57 ?_
      refine cl_X5_127 (c_castlingSquare hy.2) hy.2.1 dX5_isPossible_58 rfl (Nat.le_of_ble_eq_true rfl) ?_
      rw [show (2 : Int32) = nI 2 from rfl, clv_sq hW hL hk (by decide)]
      refine ev_istore_5 dX5_isPossible_61 rfl rfl ?_
      refine ev_aload_0 dX5_isPossible_63 ?_
      refine gf_X5_9 dX5_isPossible_64 hy.1 rfl ?_
      refine ev_iload_2 dX5_isPossible_67 ?_
      refine ev_iconst_3 dX5_isPossible_68 ?_
      refine cl_X5_127 (c_castlingSquare hy.2) hy.2.1 dX5_isPossible_69 rfl (Nat.le_of_ble_eq_true rfl) ?_
      rw [show (3 : Int32) = nI 3 from rfl, clv_sq hW hL hk (by decide)]
      refine ev_istore_6 dX5_isPossible_72 rfl rfl ?_
      refine ev_aload_1 dX5_isPossible_74 ?_
      refine ev_aload_1 dX5_isPossible_75 ?_
      refine gf_X5_131 dX5_isPossible_76 hp.1 rfl ?_
      rw [hP.turn hG]
      refine cl_X5_33 (c_menOf hp) hp.1 dX5_isPossible_79 rfl (Nat.le_of_ble_eq_true rfl) ?_
      refine ev_lstore_7 dX5_isPossible_82 rfl rfl ?_
      refine ev_lload_7 dX5_isPossible_84 ?_
      refine ev_iload_3 dX5_isPossible_86 ?_
      refine cl_X5_99 c_has dX5_isPossible_87 rfl (Nat.le_of_ble_eq_true rfl) ?_
      rw [hasR_nI (k := caN g k 2) (by omega), hP.side htu (q := caN g k 2) (by omega)]
      refine ev_if_eq (tgt := 121) dX5_isPossible_90 (by decide) (fun h90 => ?_) (fun h90 => ?_)
      · refine ev_iconst_0 dX5_isPossible_121 ?_
        exact ev_zret (b2i_nar _) dX5_isPossible_122 (by rw [show castB g k = false by
          rw [castB, show caM g k = false by
            rw [caM]
            first
            | rw [show isOfG g (caN g k 2) (tuN g) = false from (b2i_0 _).mp h90, Bool.false_and]
            | rw [show isOfG g (caN g k 4) (tuN g) = false from (b2i_0 _).mp h100, Bool.false_and, Bool.and_false]
            | rw [show royG g (tyN (mN g (caN g k 2))) = false from (b2i_0 _).mp (by first | exact h118 | exact Decidable.not_not.mp h118), Bool.and_false, Bool.and_false], Bool.false_and, Bool.and_false]]; rfl) rfl
      · refine ev_lload_7 dX5_isPossible_93 ?_
        refine ev_iload_5 dX5_isPossible_95 ?_
        refine cl_X5_99 c_has dX5_isPossible_97 rfl (Nat.le_of_ble_eq_true rfl) ?_
        rw [hasR_nI (k := caN g k 4) (by omega), hP.side htu (q := caN g k 4) (by omega)]
        refine ev_if_eq (tgt := 121) dX5_isPossible_100 (by decide) (fun h100 => ?_) (fun h100 => ?_)
        · refine ev_iconst_0 dX5_isPossible_121 ?_
          exact ev_zret (b2i_nar _) dX5_isPossible_122 (by rw [show castB g k = false by
            rw [castB, show caM g k = false by
              rw [caM]
              first
              | rw [show isOfG g (caN g k 2) (tuN g) = false from (b2i_0 _).mp h90, Bool.false_and]
              | rw [show isOfG g (caN g k 4) (tuN g) = false from (b2i_0 _).mp h100, Bool.false_and, Bool.and_false]
              | rw [show royG g (tyN (mN g (caN g k 2))) = false from (b2i_0 _).mp (by first | exact h118 | exact Decidable.not_not.mp h118), Bool.and_false, Bool.and_false], Bool.false_and, Bool.and_false]]; rfl) rfl
        · have q1 := isOf_1 (b2i_t h90)
          have m12 := wf_m hG q1.1
          have ht := tyN_lt q1.2.1 m12
          refine ev_aload_0 dX5_isPossible_103 ?_
          refine gf_X5_9 dX5_isPossible_104 hy.1 rfl ?_
          refine ev_aload_1 dX5_isPossible_107 ?_
          refine ev_iload_3 dX5_isPossible_108 ?_
          refine cl_X5_26 (c_manOn hp) hp.1 dX5_isPossible_109 rfl (Nat.le_of_ble_eq_true rfl) ?_
          rw [man_at hG hP c2]
          refine cl_X5_47 c_typeOf dX5_isPossible_112 rfl (Nat.le_of_ble_eq_true rfl) ?_
          rw [tyR_nI q1.2.1 (by omega)]
          refine cl_X5_103 (c_isRoyal hy.2) hy.2.1 dX5_isPossible_115 rfl (Nat.le_of_ble_eq_true rfl) ?_
          rw [cellV_nI (by omega) ht, hL.2.2.2.2.1 _ ht]
          refine ev_if_ne (tgt := 123) dX5_isPossible_118 (by decide) (fun h118 => ?_) (fun h118 => ?_)
          · have eM : caM g k = true := by rw [caM, show isOfG g (caN g k 2) (tuN g) = true from b2i_t h90, show isOfG g (caN g k 4) (tuN g) = true from b2i_t h100, show royG g (tyN (mN g (caN g k 2))) = true from b2i_t h118]; rfl
            refine ev_aload_1 dX5_isPossible_123 ?_
            refine gf_X5_15 dX5_isPossible_124 hp.1 rfl ?_
            refine ev_aload_1 dX5_isPossible_127 ?_
            refine gf_X5_21 dX5_isPossible_128 hp.1 rfl ?_
            refine ev_lor dX5_isPossible_131 ?_
            refine ev_lconst_1 dX5_isPossible_132 ?_
            refine ev_iload_3 dX5_isPossible_133 ?_
            refine ev_lshl dX5_isPossible_134 ?_
            refine ev_lconst_1 dX5_isPossible_135 ?_
            refine ev_iload_5 dX5_isPossible_136 ?_
            refine ev_lshl dX5_isPossible_138 ?_
            refine ev_lor dX5_isPossible_139 ?_
            refine ev_ldc2 kc_X5_24 dX5_isPossible_140 ?_
            refine ev_lxor dX5_isPossible_143 ?_
            refine ev_land dX5_isPossible_144 ?_
            rw [show (1 : Int64) <<< ((nI (caN g k 2)).toInt64 &&& 63) = mBit (nI (caN g k 2)) from rfl, show (1 : Int64) <<< ((nI (caN g k 4)).toInt64 &&& 63) = mBit (nI (caN g k 4)) from rfl]
            refine ev_lstore_9 dX5_isPossible_145 rfl rfl ?_
            refine ev_lload_9 dX5_isPossible_147 ?_
            refine ev_iload_3 dX5_isPossible_149 ?_
            refine ev_iload_5 dX5_isPossible_150 ?_
            refine cl_X5_238 (c_span (a := caN g k 2) (b := caN g k 4) (by omega) (by omega)) dX5_isPossible_152 rfl (Nat.le_of_ble_eq_true rfl) ?_
            refine ev_land dX5_isPossible_155 ?_
            have hand : (σ.2 p 6 ||| σ.2 p 7) &&& ((mBit (nI (caN g k 2)) ||| mBit (nI (caN g k 4))) ^^^ (-1)) &&& setL (spanB (caN g k 2) (caN g k 4)) = setL (fun x => !(clrB g k x) && spanB (caN g k 2) (caN g k 4) x) := setL_of (fun x hx => by rw [lb_and, lb_setL hx, clr_oth hP (by omega) (by omega) hx])
            refine ev_lconst_0 dX5_isPossible_156 ?_
            refine ev_lcmp dX5_isPossible_157 ?_
            refine ev_if_ne (tgt := 181) dX5_isPossible_158 (by decide) (fun h158 => ?_) (fun h158 => ?_)
            · refine ev_iconst_0 dX5_isPossible_181 ?_
              exact ev_zret (b2i_nar _) dX5_isPossible_182 (by rw [show castB g k = false by
                rw [castB, show caC g k = false by
                  rw [caC]
                  first
                  | rw [show anyF (fun x => !(clrB g k x) && spanB (caN g k 2) (caN g k 4) x) 0 64 = true from ts_nf (fun z => h158 ((lg_cmp_0 _ _).mpr (hand.trans (setL_iff.mpr z)))), Bool.not_true, Bool.false_and]
                  | rw [show clrB g k (caN g k 3) = false by have z := b2i_t h168; simpa using z, Bool.false_and, Bool.and_false]
                  | rw [show clrB g k (caN g k 5) = false by have z := b2i_t h178; simpa using z, Bool.and_false, Bool.and_false], Bool.false_and, Bool.and_false, Bool.and_false]]; rfl) rfl
            · refine ev_lload_9 dX5_isPossible_161 ?_
              refine ev_iload_4 dX5_isPossible_163 ?_
              refine cl_X5_99 c_has dX5_isPossible_165 rfl (Nat.le_of_ble_eq_true rfl) ?_
              rw [hasR_nI (k := caN g k 3) (by omega), clr_oth hP (k := k) (x := caN g k 3) (by omega) (by omega) (by omega)]
              refine ev_if_ne (tgt := 181) dX5_isPossible_168 (by decide) (fun h168 => ?_) (fun h168 => ?_)
              · refine ev_iconst_0 dX5_isPossible_181 ?_
                exact ev_zret (b2i_nar _) dX5_isPossible_182 (by rw [show castB g k = false by
                  rw [castB, show caC g k = false by
                    rw [caC]
                    first
                    | rw [show anyF (fun x => !(clrB g k x) && spanB (caN g k 2) (caN g k 4) x) 0 64 = true from ts_nf (fun z => h158 ((lg_cmp_0 _ _).mpr (hand.trans (setL_iff.mpr z)))), Bool.not_true, Bool.false_and]
                    | rw [show clrB g k (caN g k 3) = false by have z := b2i_t h168; simpa using z, Bool.false_and, Bool.and_false]
                    | rw [show clrB g k (caN g k 5) = false by have z := b2i_t h178; simpa using z, Bool.and_false, Bool.and_false], Bool.false_and, Bool.and_false, Bool.and_false]]; rfl) rfl
              · refine ev_lload_9 dX5_isPossible_171 ?_
                refine ev_iload_6 dX5_isPossible_173 ?_
                refine cl_X5_99 c_has dX5_isPossible_175 rfl (Nat.le_of_ble_eq_true rfl) ?_
                rw [hasR_nI (k := caN g k 5) (by omega), clr_oth hP (k := k) (x := caN g k 5) (by omega) (by omega) (by omega)]
                refine ev_if_eq (tgt := 183) dX5_isPossible_178 (by decide) (fun h178 => ?_) (fun h178 => ?_)
                · refine ev_aload_0 dX5_isPossible_183 ?_
                  refine ev_aload_1 dX5_isPossible_184 ?_
                  refine ev_iconst_1 dX5_isPossible_185 ?_
                  refine ev_aload_1 dX5_isPossible_186 ?_
                  refine gf_X5_131 dX5_isPossible_187 hp.1 rfl ?_
                  rw [hP.turn hG]
                  refine ev_isub dX5_isPossible_190 ?_
                  rw [lI1, nI_sub htu]
                  refine cl_X5_114 (c_attackedBy hy hp hG hP hL (s := 1 - tuN g) (by omega)) hy.1 dX5_isPossible_191 rfl (Nat.le_of_ble_eq_true rfl) ?_
                  refine ev_iload_3 dX5_isPossible_194 ?_
                  refine ev_iload_4 dX5_isPossible_195 ?_
                  refine cl_X5_238 (c_span (a := caN g k 2) (b := caN g k 3) (by omega) (by omega)) dX5_isPossible_197 rfl (Nat.le_of_ble_eq_true rfl) ?_
                  refine ev_land dX5_isPossible_200 ?_
                  refine ev_lconst_0 dX5_isPossible_201 ?_
                  refine ev_lcmp dX5_isPossible_202 ?_
                  refine ev_if_ne (tgt := 210) dX5_isPossible_203 (by decide) (fun h203 => ?_) (fun h203 => ?_)
                  · refine ev_iconst_0 dX5_isPossible_210 ?_
                    exact ev_zret (b2i_nar _) dX5_isPossible_211 (by
                      have e3 : caC g k = true := by
                        rw [caC, show anyF (fun x => !(clrB g k x) && spanB (caN g k 2) (caN g k 4) x) 0 64 = false from setL_iff.mp (hand.symm.trans ((lg_cmp_0 _ _).mp (by first | exact h158 | exact Decidable.not_not.mp h158))), show clrB g k (caN g k 3) = true by have z := (b2i_0 _).mp (show b2i (!(clrB g k (caN g k 3))) = 0 by first | exact h168 | exact Decidable.not_not.mp h168); simpa using z, show clrB g k (caN g k 5) = true by have z := (b2i_0 _).mp h178; simpa using z]; rfl
                      rw [castB, eA, eM, e3, Bool.true_and, Bool.true_and, Bool.true_and, caT]
                      first
                      | (rw [setL_iff.mp (setL_and.symm.trans ((lg_cmp_0 _ _).mp (by first | exact h203 | exact Decidable.not_not.mp h203)))]; rfl)
                      | (rw [show anyF (fun x => attG g (1 - tuN g) x && spanB (caN g k 2) (caN g k 3) x) 0 64 = true from ts_nf (fun z => h203 ((lg_cmp_0 _ _).mpr (setL_and.trans (setL_iff.mpr z))))]; rfl)) rfl
                  · refine ev_iconst_1 dX5_isPossible_206 ?_
                    refine ev_goto (tgt := 211) dX5_isPossible_207 (by decide) ?_
                    exact ev_zret (b2i_nar _) dX5_isPossible_211 (by
                      have e3 : caC g k = true := by
                        rw [caC, show anyF (fun x => !(clrB g k x) && spanB (caN g k 2) (caN g k 4) x) 0 64 = false from setL_iff.mp (hand.symm.trans ((lg_cmp_0 _ _).mp (by first | exact h158 | exact Decidable.not_not.mp h158))), show clrB g k (caN g k 3) = true by have z := (b2i_0 _).mp (show b2i (!(clrB g k (caN g k 3))) = 0 by first | exact h168 | exact Decidable.not_not.mp h168); simpa using z, show clrB g k (caN g k 5) = true by have z := (b2i_0 _).mp h178; simpa using z]; rfl
                      rw [castB, eA, eM, e3, Bool.true_and, Bool.true_and, Bool.true_and, caT]
                      first
                      | (rw [setL_iff.mp (setL_and.symm.trans ((lg_cmp_0 _ _).mp (by first | exact h203 | exact Decidable.not_not.mp h203)))]; rfl)
                      | (rw [show anyF (fun x => attG g (1 - tuN g) x && spanB (caN g k 2) (caN g k 3) x) 0 64 = true from ts_nf (fun z => h203 ((lg_cmp_0 _ _).mpr (setL_and.trans (setL_iff.mpr z))))]; rfl)) rfl
                · refine ev_iconst_0 dX5_isPossible_181 ?_
                  exact ev_zret (b2i_nar _) dX5_isPossible_182 (by rw [show castB g k = false by
                    rw [castB, show caC g k = false by
                      rw [caC]
                      first
                      | rw [show anyF (fun x => !(clrB g k x) && spanB (caN g k 2) (caN g k 4) x) 0 64 = true from ts_nf (fun z => h158 ((lg_cmp_0 _ _).mpr (hand.trans (setL_iff.mpr z)))), Bool.not_true, Bool.false_and]
                      | rw [show clrB g k (caN g k 3) = false by have z := b2i_t h168; simpa using z, Bool.false_and, Bool.and_false]
                      | rw [show clrB g k (caN g k 5) = false by have z := b2i_t h178; simpa using z, Bool.and_false, Bool.and_false], Bool.false_and, Bool.and_false, Bool.and_false]]; rfl) rfl
          · refine ev_iconst_0 dX5_isPossible_121 ?_
            exact ev_zret (b2i_nar _) dX5_isPossible_122 (by rw [show castB g k = false by
              rw [castB, show caM g k = false by
                rw [caM]
                first
                | rw [show isOfG g (caN g k 2) (tuN g) = false from (b2i_0 _).mp h90, Bool.false_and]
                | rw [show isOfG g (caN g k 4) (tuN g) = false from (b2i_0 _).mp h100, Bool.false_and, Bool.and_false]
                | rw [show royG g (tyN (mN g (caN g k 2))) = false from (b2i_0 _).mp (by first | exact h118 | exact Decidable.not_not.mp h118), Bool.and_false, Bool.and_false], Bool.false_and, Bool.and_false]]; rfl) rfl
    · refine ev_iconst_0 dX5_isPossible_29 ?_
      exact ev_zret (b2i_nar _) dX5_isPossible_30 (by rw [show castB g k = false by
        rw [castB, show caA g k = false by
          rw [caA]
          first
          | rw [decide_eq_false (fun z => h15 ((side_iff hG hW hk).mpr z)), Bool.false_and]
          | rw [show decide (riN g k = 1) = false from decide_eq_false (fun z => by have e := (bt_test (s := k) (by omega)).mp (by first | exact h26 | exact Decidable.not_not.mp h26); rw [hR k (by omega), decide_eq_false_iff_not] at e; exact e ⟨hk, z⟩), Bool.and_false], Bool.false_and]]; rfl) rfl
