theorem bn_t {b : Bool} (h : b2i (!b) = 0) : b = true := by cases b; exact absurd h (by decide); rfl
theorem bn_f {b : Bool} (h : ¬ b2i (!b) = 0) : b = false := by cases b; rfl; exact absurd rfl h
theorem inI {X : Int} {c : Nat} (h1 : -10 ≤ X) (h2 : X ≤ 10) (hc : 1 ≤ c) (hc6 : c ≤ 6) : inB (iI X) 0 (nI c - 1) = decide (0 ≤ X ∧ X < c) := decide_eq_decide.mpr (by
  have e0 : (0 : Int32) = iI 0 := rfl
  have e1 : nI c - 1 = iI ((c : Int) - 1) := by rw [lI1, nI_sub hc, ← iI_nat]; congr 1; omega
  rw [e0, e1, iI_lt (by omega) (by omega) (by omega) (by omega), iI_lt (by omega) (by omega) (by omega) (by omega)]
  omega)
theorem sq_val {c r : Nat} {X Y : Int} (h : onB c r X Y = true) : nI c * iI Y + iI X = nI (sqI c X Y) := by
  obtain ⟨a, b, d, e⟩ := of_decide_eq_true h
  have h0 : 0 ≤ Y * (c : Int) := Int.mul_nonneg d (by omega)
  rw [← iI_nat c, iI_mul, iI_add, ← iI_nat]
  unfold sqI
  congr 1
  rw [Int.mul_comm]; omega
theorem sq_lt36 {g : Nat → Int32} (hG : wfP g) {X Y : Int} (h : onB (cN g) (rN g) X Y = true) : sqI (cN g) X Y < 36 := by
  obtain ⟨a, b, d, e⟩ := of_decide_eq_true h
  have h36 := sq36 hG
  obtain ⟨x, hx⟩ := Int.eq_ofNat_of_zero_le a
  obtain ⟨y, hy⟩ := Int.eq_ofNat_of_zero_le d
  subst hx; subst hy
  have hb : x < cN g := by omega
  have he : y < rN g := by omega
  have := row36 hG he hb
  unfold sqI
  have e2 : ((y : Int) * (cN g : Int) + (x : Int)).toNat = y * cN g + x := by
    rw [← Int.natCast_mul, ← Int.natCast_add, Int.toNat_natCast]
  rw [show ((y : Nat) : Int) * (cN g : Int) + ((x : Nat) : Int) = ((y * cN g + x : Nat) : Int) by rw [Int.natCast_add, Int.natCast_mul], Int.toNat_natCast]
  exact this
theorem remI {c q : Nat} (h0 : 0 < c) (hc : c < 2 ^ 31) (hq : q < 2 ^ 31) : nI q - nI q / nI c * nI c = iI ((q % c : Nat) : Int) := by
  have := colI h0 hc hq
  rw [if_neg (nI_nle h0 hc)] at this
  exact this

/-- does a square count: attacked, or gone to -/
def isF (g : Nat → Int32) (att qu tk : Bool) (s q : Nat) : Bool := if att then tk else if occG g q then (tk && isOfG g q (1 - s)) else qu
def hitD (g : Nat → Int32) (w ms f : Nat) (e : Int32 × Int32) (q : Nat) : Bool := wayB (cN g) (rN g) (occG g) e.1.toInt e.2.toInt w ms (((f % cN g : Nat) : Int) + e.1.toInt) (((f / cN g : Nat) : Int) + e.2.toInt) 0 q

set_option maxRecDepth 100000 in
set_option maxHeartbeats 4000000 in
theorem c_rch0_292 {ae ad : Nat → Nat} {sh : mSh} {σ : mSt} (hm : mModel ad sh) {g : Nat → Int32} (hg : σ.1 62 = g) (hG : wfP g) {cj f s : Nat} {md : Int32} {qu tk : Bool} {ms w : Nat} {Post : mPost} (hs : s ≤ 1) {d ov k q : Nat} {X Y : Int32} {I : Bool} {acc : Int64} (hq : q < 36) (hov : ov < 100) (hw : w < 100) (hk : k < 100) (K : ∀ (acc' : Int64) (ov' : Nat), (∀ z, z < 64 → lb acc' z = (lb acc z || (decide (ov = w) && (I && decide (z = q))))) → ov' = ov + (occG g q).toNat → Ev RX10 cX10_reaches 19 false (some .long) (mRm 3 0 0) ae Post 152 [some (.ref (ad 61)), some (.int (nI cj)), some (.int (nI f)), some (.int (nI s)), some (.int 0), some (.int md), some (.int (b2i qu)), some (.int (b2i tk)), some (.int (nI ms)), some (.int (nI w)), some (.long acc'), none, some (.int (nI d)), some (.int (nI ov')), some (.int X), some (.int Y), some (.int (nI (k + 1))), none, none] [] 0 0 ad sh σ) : Ev RX10 cX10_reaches 19 false (some .long) (mRm 3 0 0) ae Post 292 [some (.ref (ad 61)), some (.int (nI cj)), some (.int (nI f)), some (.int (nI s)), some (.int 0), some (.int md), some (.int (b2i qu)), some (.int (b2i tk)), some (.int (nI ms)), some (.int (nI w)), some (.long acc), none, some (.int (nI d)), some (.int (nI ov)), some (.int X), some (.int Y), some (.int (nI k)), some (.int (nI q)), some (.int (b2i I))] [] 0 0 ad sh σ := by
  refine ev_iload_13 dX10_reaches_292 ?_
  refine ev_iload_9 dX10_reaches_294 ?_
  refine ev_icmp_ne (tgt := 313) dX10_reaches_296 (by decide) (fun h296 => ?_) (fun h296 => ?_)
  · have hno : (decide (ov = w) && I) = false := by
      first
      | (rw [decide_eq_false (fun z => h296 (by rw [z]))]; rfl)
      | (rw [(b2i_0 _).mp h301, Bool.and_false]; done)
    refine ev_aload_0 dX10_reaches_313 ?_
    refine ev_iload_17 dX10_reaches_314 ?_
    refine cl_X10_172 (c_mEmpty hm hg hG (q := (q)) hq) hm.1 dX10_reaches_316 rfl (Nat.le_of_ble_eq_true rfl) ?_
    refine ev_if_ne (tgt := 325) dX10_reaches_319 (by decide) (fun h319 => ?_) (fun h319 => ?_)
    · refine ev_iinc_16 (v := 1) dX10_reaches_325 (by decide) rfl rfl ?_
      rw [show nI k + 1 = nI (k + 1) from nI_add (k) 1]
      refine ev_goto (tgt := 152) dX10_reaches_328 (by decide) ?_
      refine ev_drop_17 ?_
      refine ev_drop_18 ?_
      exact K _ _ (fun z _ => by rw [← Bool.and_assoc, hno, Bool.false_and, Bool.or_false]) (by rw [bn_f h319]; rfl)
    · skip
      refine ev_iinc_13 (v := 1) dX10_reaches_322 (by decide) rfl rfl ?_
      rw [show nI ov + 1 = nI (ov + 1) from nI_add (ov) 1]
      refine ev_iinc_16 (v := 1) dX10_reaches_325 (by decide) rfl rfl ?_
      rw [show nI k + 1 = nI (k + 1) from nI_add (k) 1]
      refine ev_goto (tgt := 152) dX10_reaches_328 (by decide) ?_
      refine ev_drop_17 ?_
      refine ev_drop_18 ?_
      exact K _ _ (fun z _ => by rw [← Bool.and_assoc, hno, Bool.false_and, Bool.or_false]) (by rw [bn_t h319]; rfl)
  · refine ev_iload_18 dX10_reaches_299 ?_
    refine ev_if_eq (tgt := 313) dX10_reaches_301 (by decide) (fun h301 => ?_) (fun h301 => ?_)
    · have hno : (decide (ov = w) && I) = false := by
        first
        | (rw [decide_eq_false (fun z => h296 (by rw [z]))]; rfl)
        | (rw [(b2i_0 _).mp h301, Bool.and_false]; done)
      refine ev_aload_0 dX10_reaches_313 ?_
      refine ev_iload_17 dX10_reaches_314 ?_
      refine cl_X10_172 (c_mEmpty hm hg hG (q := (q)) hq) hm.1 dX10_reaches_316 rfl (Nat.le_of_ble_eq_true rfl) ?_
      refine ev_if_ne (tgt := 325) dX10_reaches_319 (by decide) (fun h319 => ?_) (fun h319 => ?_)
      · refine ev_iinc_16 (v := 1) dX10_reaches_325 (by decide) rfl rfl ?_
        rw [show nI k + 1 = nI (k + 1) from nI_add (k) 1]
        refine ev_goto (tgt := 152) dX10_reaches_328 (by decide) ?_
        refine ev_drop_17 ?_
        refine ev_drop_18 ?_
        exact K _ _ (fun z _ => by rw [← Bool.and_assoc, hno, Bool.false_and, Bool.or_false]) (by rw [bn_f h319]; rfl)
      · skip
        refine ev_iinc_13 (v := 1) dX10_reaches_322 (by decide) rfl rfl ?_
        rw [show nI ov + 1 = nI (ov + 1) from nI_add (ov) 1]
        refine ev_iinc_16 (v := 1) dX10_reaches_325 (by decide) rfl rfl ?_
        rw [show nI k + 1 = nI (k + 1) from nI_add (k) 1]
        refine ev_goto (tgt := 152) dX10_reaches_328 (by decide) ?_
        refine ev_drop_17 ?_
        refine ev_drop_18 ?_
        exact K _ _ (fun z _ => by rw [← Bool.and_assoc, hno, Bool.false_and, Bool.or_false]) (by rw [bn_t h319]; rfl)
    · have hI : I = true := b2i_t h301
      have ho : ov = w := (nI_eq (by omega) (by omega)).mp h296
      refine ev_lload_10 dX10_reaches_304 ?_
      refine ev_lconst_1 dX10_reaches_306 ?_
      refine ev_iload_17 dX10_reaches_307 ?_
      refine ev_lshl dX10_reaches_309 ?_
      refine ev_lor dX10_reaches_310 ?_
      refine ev_lstore_10 dX10_reaches_311 rfl rfl ?_
      skip
      refine ev_aload_0 dX10_reaches_313 ?_
      refine ev_iload_17 dX10_reaches_314 ?_
      refine cl_X10_172 (c_mEmpty hm hg hG (q := (q)) hq) hm.1 dX10_reaches_316 rfl (Nat.le_of_ble_eq_true rfl) ?_
      refine ev_if_ne (tgt := 325) dX10_reaches_319 (by decide) (fun h319 => ?_) (fun h319 => ?_)
      · refine ev_iinc_16 (v := 1) dX10_reaches_325 (by decide) rfl rfl ?_
        rw [show nI k + 1 = nI (k + 1) from nI_add (k) 1]
        refine ev_goto (tgt := 152) dX10_reaches_328 (by decide) ?_
        refine ev_drop_17 ?_
        refine ev_drop_18 ?_
        exact K _ _ (fun z hz => by rw [lb_or, show lb (1 <<< ((nI q).toInt64 &&& 63)) z = decide (z = q) from lb_mBit (by omega) hz, hI, decide_eq_true ho]; simp) (by rw [bn_f h319]; rfl)
      · skip
        refine ev_iinc_13 (v := 1) dX10_reaches_322 (by decide) rfl rfl ?_
        rw [show nI ov + 1 = nI (ov + 1) from nI_add (ov) 1]
        refine ev_iinc_16 (v := 1) dX10_reaches_325 (by decide) rfl rfl ?_
        rw [show nI k + 1 = nI (k + 1) from nI_add (k) 1]
        refine ev_goto (tgt := 152) dX10_reaches_328 (by decide) ?_
        refine ev_drop_17 ?_
        refine ev_drop_18 ?_
        exact K _ _ (fun z hz => by rw [lb_or, show lb (1 <<< ((nI q).toInt64 &&& 63)) z = decide (z = q) from lb_mBit (by omega) hz, hI, decide_eq_true ho]; simp) (by rw [bn_t h319]; rfl)
set_option maxRecDepth 100000 in
set_option maxHeartbeats 4000000 in
theorem c_rch0_152 {ae ad : Nat → Nat} {sh : mSh} {σ : mSt} (hm : mModel ad sh) {g : Nat → Int32} (hg : σ.1 62 = g) (hG : wfP g) {cj f s : Nat} {md : Int32} {qu tk : Bool} {ms w : Nat} {Post : mPost} (hs : s ≤ 1) (hms : ms ≤ 10) (hw : w ≤ 1) {d : Nat} (hd16 : d < 16) {dx dy : Int} (hdx : -3 ≤ dx ∧ dx ≤ 3) (hdy : -3 ≤ dy ∧ dy ≤ 3) (ex : σ.1 73 d = iI dx) (ey : σ.1 74 d = iI dy) : ∀ (n k : Nat), ms - k = n → k ≤ ms → ∀ (ov : Nat) (x y : Int) (acc : Int64), (0 ≤ x ∧ x < 6) → (0 ≤ y ∧ y < 6) → ov ≤ w + 1 → (∀ acc' : Int64, (∀ z, z < 64 → lb acc' z = (lb acc z || (decide (ov ≤ w) && (wayB (cN g) (rN g) (occG g) dx dy w n (x + dx) (y + dy) ov z && isF g false qu tk s z)))) → Ev RX10 cX10_reaches 19 false (some .long) (mRm 3 0 0) ae Post 331 [some (.ref (ad 61)), some (.int (nI cj)), some (.int (nI f)), some (.int (nI s)), some (.int 0), some (.int md), some (.int (b2i qu)), some (.int (b2i tk)), some (.int (nI ms)), some (.int (nI w)), some (.long acc'), none, some (.int (nI d)), none, none, none, none, none, none] [] 0 0 ad sh σ) → Ev RX10 cX10_reaches 19 false (some .long) (mRm 3 0 0) ae Post 152 [some (.ref (ad 61)), some (.int (nI cj)), some (.int (nI f)), some (.int (nI s)), some (.int 0), some (.int md), some (.int (b2i qu)), some (.int (b2i tk)), some (.int (nI ms)), some (.int (nI w)), some (.long acc), none, some (.int (nI d)), some (.int (nI ov)), some (.int (iI x)), some (.int (iI y)), some (.int (nI k)), none, none] [] 0 0 ad sh σ := by
  have hc := hG.1.2
  have hr := hG.2.1.2
  intro n
  induction n with
  | zero =>
    intro k hn hk ov x y acc hx hy hov K
    have e : k = ms := by omega
    subst e
    refine ev_iload_16 dX10_reaches_152 ?_
    refine ev_iload_8 dX10_reaches_154 ?_
    refine ev_icmp_ge (tgt := 331) dX10_reaches_156 (by decide) (fun h156 => ?_) (fun h156 => absurd (Int32.le_refl _) h156)
    refine ev_drop_13 ?_
    refine ev_drop_14 ?_
    refine ev_drop_15 ?_
    refine ev_drop_16 ?_
    exact K _ (fun z _ => by rw [wayB, Bool.false_and, Bool.and_false, Bool.or_false])
  | succ n ih =>
    intro k hn hk ov x y acc hx hy hov K
    have hlt : k < ms := by omega
    have hX : -10 ≤ x + dx ∧ x + dx ≤ 10 := by omega
    have hY : -10 ≤ y + dy ∧ y + dy ≤ 10 := by omega
    refine ev_iload_16 dX10_reaches_152 ?_
    refine ev_iload_8 dX10_reaches_154 ?_
    refine ev_icmp_ge (tgt := 331) dX10_reaches_156 (by decide) (fun h156 => absurd h156 (nI_ge hlt (by omega))) (fun h156 => ?_)
    refine ev_iload_13 dX10_reaches_159 ?_
    refine ev_iload_9 dX10_reaches_161 ?_
    refine ev_icmp_gt (tgt := 331) dX10_reaches_163 (by decide) (fun h163 => ?_) (fun h163 => ?_)
    · refine ev_drop_13 ?_
      refine ev_drop_14 ?_
      refine ev_drop_15 ?_
      refine ev_drop_16 ?_
      exact K _ (fun z _ => by
        first
        | (rw [decide_eq_false (show ¬ ov ≤ w from fun y => absurd h163 (nI_nlt y (by omega))), Bool.false_and, Bool.or_false]; done)
        | (have hoff : onB (cN g) (rN g) (x + dx) (y + dy) = false := decide_eq_false (fun y => of_decide_eq_false ((b2i_0 _).mp h205) ⟨y.1, y.2.1⟩)
           rw [wayB, hoff, Bool.false_and, Bool.false_and, Bool.and_false, Bool.or_false]; done)
        | (have hoff : onB (cN g) (rN g) (x + dx) (y + dy) = false := decide_eq_false (fun y => of_decide_eq_false ((b2i_0 _).mp h223) ⟨y.2.2.1, y.2.2.2⟩)
           rw [wayB, hoff, Bool.false_and, Bool.false_and, Bool.and_false, Bool.or_false]; done))
    · refine ev_iload_14 dX10_reaches_166 ?_
      refine ev_aload_0 dX10_reaches_168 ?_
      refine gf_X10_45 dX10_reaches_169 hm.1 rfl ?_
      refine ev_iload_12 dX10_reaches_172 ?_
      refine ev_ldk (k := d) hm.2.2.2.2.2.2.2.2.2.2.2.2.1 rfl rfl (by omega) (by decide) dX10_reaches_174 ?_
      rw [ex]
      refine ev_iadd dX10_reaches_175 ?_
      rw [iI_add]
      refine ev_istore_14 dX10_reaches_176 rfl rfl ?_
      refine ev_iload_15 dX10_reaches_178 ?_
      refine ev_aload_0 dX10_reaches_180 ?_
      refine gf_X10_48 dX10_reaches_181 hm.1 rfl ?_
      refine ev_iload_12 dX10_reaches_184 ?_
      refine ev_ldk (k := d) hm.2.2.2.2.2.2.2.2.2.2.2.2.2.1 rfl rfl (by omega) (by decide) dX10_reaches_186 ?_
      rw [ey]
      refine ev_iadd dX10_reaches_187 ?_
      rw [iI_add]
      refine ev_istore_15 dX10_reaches_188 rfl rfl ?_
      refine ev_iload_14 dX10_reaches_190 ?_
      refine ev_iconst_0 dX10_reaches_192 ?_
      refine ev_aload_0 dX10_reaches_193 ?_
      refine gf_X10_11 dX10_reaches_194 hm.1 rfl ?_
      refine ev_bipush_53 dX10_reaches_197 ?_
      refine ev_ldk (k := 53) hm.2.1 hg rfl (by omega) (by decide) dX10_reaches_199 ?_
      rw [hG.1.1]
      refine ev_iconst_1 dX10_reaches_200 ?_
      refine ev_isub dX10_reaches_201 ?_
      refine cl_X10_61 c_mIn dX10_reaches_202 rfl (Nat.le_of_ble_eq_true rfl) ?_
      rw [inI hX.1 hX.2 (by omega) hc.2]
      refine ev_if_eq (tgt := 331) dX10_reaches_205 (by decide) (fun h205 => ?_) (fun h205 => ?_)
      · refine ev_drop_13 ?_
        refine ev_drop_14 ?_
        refine ev_drop_15 ?_
        refine ev_drop_16 ?_
        exact K _ (fun z _ => by
          first
          | (rw [decide_eq_false (show ¬ ov ≤ w from fun y => absurd h163 (nI_nlt y (by omega))), Bool.false_and, Bool.or_false]; done)
          | (have hoff : onB (cN g) (rN g) (x + dx) (y + dy) = false := decide_eq_false (fun y => of_decide_eq_false ((b2i_0 _).mp h205) ⟨y.1, y.2.1⟩)
             rw [wayB, hoff, Bool.false_and, Bool.false_and, Bool.and_false, Bool.or_false]; done)
          | (have hoff : onB (cN g) (rN g) (x + dx) (y + dy) = false := decide_eq_false (fun y => of_decide_eq_false ((b2i_0 _).mp h223) ⟨y.2.2.1, y.2.2.2⟩)
             rw [wayB, hoff, Bool.false_and, Bool.false_and, Bool.and_false, Bool.or_false]; done))
      · refine ev_iload_15 dX10_reaches_208 ?_
        refine ev_iconst_0 dX10_reaches_210 ?_
        refine ev_aload_0 dX10_reaches_211 ?_
        refine gf_X10_11 dX10_reaches_212 hm.1 rfl ?_
        refine ev_bipush_54 dX10_reaches_215 ?_
        refine ev_ldk (k := 54) hm.2.1 hg rfl (by omega) (by decide) dX10_reaches_217 ?_
        rw [hG.2.1.1]
        refine ev_iconst_1 dX10_reaches_218 ?_
        refine ev_isub dX10_reaches_219 ?_
        refine cl_X10_61 c_mIn dX10_reaches_220 rfl (Nat.le_of_ble_eq_true rfl) ?_
        rw [inI hY.1 hY.2 (by omega) hr.2]
        refine ev_if_ne (tgt := 229) dX10_reaches_223 (by decide) (fun h223 => ?_) (fun h223 => ?_)
        · have hon : onB (cN g) (rN g) (x + dx) (y + dy) = true := by
            have b1 := of_decide_eq_true (b2i_t h205)
            have b2 := of_decide_eq_true (b2i_t h223)
            exact decide_eq_true ⟨b1.1, b1.2, b2.1, b2.2⟩
          have hq36 := sq_lt36 hG hon
          have b9 := of_decide_eq_true hon
          have hle : ov ≤ w := Nat.le_of_not_lt fun z => h163 (nI_lt z (by omega))
          refine ev_aload_0 dX10_reaches_229 ?_
          refine gf_X10_11 dX10_reaches_230 hm.1 rfl ?_
          refine ev_bipush_53 dX10_reaches_233 ?_
          refine ev_ldk (k := 53) hm.2.1 hg rfl (by omega) (by decide) dX10_reaches_235 ?_
          rw [hG.1.1]
          refine ev_iload_15 dX10_reaches_236 ?_
          refine ev_imul dX10_reaches_238 ?_
          refine ev_iload_14 dX10_reaches_239 ?_
          refine ev_iadd dX10_reaches_241 ?_
          rw [sq_val hon]
          refine ev_istore_17 dX10_reaches_242 rfl rfl ?_
          refine ev_iload_4 dX10_reaches_244 ?_
          refine ev_if_eq (tgt := 254) dX10_reaches_246 (by decide) (fun h246 => ?_) (fun h246 => (by exfalso; revert h246; decide))
          refine ev_aload_0 dX10_reaches_254 ?_
          refine ev_iload_17 dX10_reaches_255 ?_
          refine cl_X10_172 (c_mEmpty hm hg hG (q := (sqI (cN g) (x + dx) (y + dy))) hq36) hm.1 dX10_reaches_257 rfl (Nat.le_of_ble_eq_true rfl) ?_
          refine ev_if_eq (tgt := 268) dX10_reaches_260 (by decide) (fun h260 => ?_) (fun h260 => ?_)
          · refine ev_iload_7 dX10_reaches_268 ?_
            refine ev_if_eq (tgt := 289) dX10_reaches_270 (by decide) (fun h270 => ?_) (fun h270 => ?_)
            · refine ev_iconst_0 dX10_reaches_289 ?_
              refine ev_istore_18 dX10_reaches_290 rfl rfl ?_
              have hI : (0 : Int32) = b2i (isF g false qu tk s (sqI (cN g) (x + dx) (y + dy))) := by
                unfold isF
                rw [if_neg (by decide)]
                first
                | (rw [bn_f h260]; rfl)
                | (rw [bn_t h260, if_pos rfl, (b2i_0 _).mp h270]; rfl)
                | (rw [bn_t h260, if_pos rfl, b2i_t h270, (b2i_0 _).mp h282]; rfl)
                | (rw [bn_t h260, if_pos rfl, b2i_t h270, b2i_t h282]; rfl)
              refine Ev.to (ls' := [some (.ref (ad 61)), some (.int (nI cj)), some (.int (nI f)), some (.int (nI s)), some (.int 0), some (.int md), some (.int (b2i qu)), some (.int (b2i tk)), some (.int (nI ms)), some (.int (nI w)), some (.long acc), none, some (.int (nI d)), some (.int (nI ov)), some (.int (iI (x + dx))), some (.int (iI (y + dy))), some (.int (nI k)), some (.int (nI (sqI (cN g) (x + dx) (y + dy)))), some (.int (b2i (isF g false qu tk s (sqI (cN g) (x + dx) (y + dy)))))]) (by rw [← hI]) rfl rfl (c_rch0_292 (σ := σ) hm hg hG hs hq36 (by omega) (by omega) (by omega) (fun acc1 ov1 g1 g2 => ?_))
              refine ih (k + 1) (by omega) (by omega) ov1 (x + dx) (y + dy) acc1 (by omega) (by omega) (by rw [g2]; have := Bool.toNat_le (occG g (sqI (cN g) (x + dx) (y + dy))); omega) (fun acc2 g3 => K acc2 (fun z hz => ?_))
              rw [g3 z hz, g1 z hz, wayB, hon, decide_eq_true hle, ← g2]
              have ez : (isF g false qu tk s (sqI (cN g) (x + dx) (y + dy)) && decide (z = sqI (cN g) (x + dx) (y + dy))) = (isF g false qu tk s z && decide (z = sqI (cN g) (x + dx) (y + dy))) := by
                by_cases y : z = sqI (cN g) (x + dx) (y + dy)
                · rw [← y]
                · rw [decide_eq_false y, Bool.and_false, Bool.and_false]
              rw [ez]
              generalize isF g false qu tk s z = b1
              generalize decide (z = sqI (cN g) (x + dx) (y + dy)) = b2
              generalize decide (ov = w) = b3
              generalize decide (ov1 ≤ w) = b4
              generalize wayB (cN g) (rN g) (occG g) dx dy w n (x + dx + dx) (y + dy + dy) ov1 z = b5
              generalize lb acc z = b6
              cases b1 <;> cases b2 <;> cases b3 <;> cases b4 <;> cases b5 <;> cases b6 <;> rfl
            · refine ev_aload_0 dX10_reaches_273 ?_
              refine ev_iload_17 dX10_reaches_274 ?_
              refine ev_iconst_1 dX10_reaches_276 ?_
              refine ev_iload_3 dX10_reaches_277 ?_
              refine ev_isub dX10_reaches_278 ?_
              rw [show (1 : Int32) - nI s = nI (1 - s) from nI_sub hs]
              refine cl_X10_175 (c_mIsOf hm hg hG (q := (sqI (cN g) (x + dx) (y + dy))) hq36 (s := (1 - s)) (by omega)) hm.1 dX10_reaches_279 rfl (Nat.le_of_ble_eq_true rfl) ?_
              refine ev_if_eq (tgt := 289) dX10_reaches_282 (by decide) (fun h282 => ?_) (fun h282 => ?_)
              · refine ev_iconst_0 dX10_reaches_289 ?_
                refine ev_istore_18 dX10_reaches_290 rfl rfl ?_
                have hI : (0 : Int32) = b2i (isF g false qu tk s (sqI (cN g) (x + dx) (y + dy))) := by
                  unfold isF
                  rw [if_neg (by decide)]
                  first
                  | (rw [bn_f h260]; rfl)
                  | (rw [bn_t h260, if_pos rfl, (b2i_0 _).mp h270]; rfl)
                  | (rw [bn_t h260, if_pos rfl, b2i_t h270, (b2i_0 _).mp h282]; rfl)
                  | (rw [bn_t h260, if_pos rfl, b2i_t h270, b2i_t h282]; rfl)
                refine Ev.to (ls' := [some (.ref (ad 61)), some (.int (nI cj)), some (.int (nI f)), some (.int (nI s)), some (.int 0), some (.int md), some (.int (b2i qu)), some (.int (b2i tk)), some (.int (nI ms)), some (.int (nI w)), some (.long acc), none, some (.int (nI d)), some (.int (nI ov)), some (.int (iI (x + dx))), some (.int (iI (y + dy))), some (.int (nI k)), some (.int (nI (sqI (cN g) (x + dx) (y + dy)))), some (.int (b2i (isF g false qu tk s (sqI (cN g) (x + dx) (y + dy)))))]) (by rw [← hI]) rfl rfl (c_rch0_292 (σ := σ) hm hg hG hs hq36 (by omega) (by omega) (by omega) (fun acc1 ov1 g1 g2 => ?_))
                refine ih (k + 1) (by omega) (by omega) ov1 (x + dx) (y + dy) acc1 (by omega) (by omega) (by rw [g2]; have := Bool.toNat_le (occG g (sqI (cN g) (x + dx) (y + dy))); omega) (fun acc2 g3 => K acc2 (fun z hz => ?_))
                rw [g3 z hz, g1 z hz, wayB, hon, decide_eq_true hle, ← g2]
                have ez : (isF g false qu tk s (sqI (cN g) (x + dx) (y + dy)) && decide (z = sqI (cN g) (x + dx) (y + dy))) = (isF g false qu tk s z && decide (z = sqI (cN g) (x + dx) (y + dy))) := by
                  by_cases y : z = sqI (cN g) (x + dx) (y + dy)
                  · rw [← y]
                  · rw [decide_eq_false y, Bool.and_false, Bool.and_false]
                rw [ez]
                generalize isF g false qu tk s z = b1
                generalize decide (z = sqI (cN g) (x + dx) (y + dy)) = b2
                generalize decide (ov = w) = b3
                generalize decide (ov1 ≤ w) = b4
                generalize wayB (cN g) (rN g) (occG g) dx dy w n (x + dx + dx) (y + dy + dy) ov1 z = b5
                generalize lb acc z = b6
                cases b1 <;> cases b2 <;> cases b3 <;> cases b4 <;> cases b5 <;> cases b6 <;> rfl
              · refine ev_iconst_1 dX10_reaches_285 ?_
                refine ev_goto (tgt := 290) dX10_reaches_286 (by decide) ?_
                refine ev_istore_18 dX10_reaches_290 rfl rfl ?_
                have hI : (1 : Int32) = b2i (isF g false qu tk s (sqI (cN g) (x + dx) (y + dy))) := by
                  unfold isF
                  rw [if_neg (by decide)]
                  first
                  | (rw [bn_f h260]; rfl)
                  | (rw [bn_t h260, if_pos rfl, (b2i_0 _).mp h270]; rfl)
                  | (rw [bn_t h260, if_pos rfl, b2i_t h270, (b2i_0 _).mp h282]; rfl)
                  | (rw [bn_t h260, if_pos rfl, b2i_t h270, b2i_t h282]; rfl)
                refine Ev.to (ls' := [some (.ref (ad 61)), some (.int (nI cj)), some (.int (nI f)), some (.int (nI s)), some (.int 0), some (.int md), some (.int (b2i qu)), some (.int (b2i tk)), some (.int (nI ms)), some (.int (nI w)), some (.long acc), none, some (.int (nI d)), some (.int (nI ov)), some (.int (iI (x + dx))), some (.int (iI (y + dy))), some (.int (nI k)), some (.int (nI (sqI (cN g) (x + dx) (y + dy)))), some (.int (b2i (isF g false qu tk s (sqI (cN g) (x + dx) (y + dy)))))]) (by rw [← hI]) rfl rfl (c_rch0_292 (σ := σ) hm hg hG hs hq36 (by omega) (by omega) (by omega) (fun acc1 ov1 g1 g2 => ?_))
                refine ih (k + 1) (by omega) (by omega) ov1 (x + dx) (y + dy) acc1 (by omega) (by omega) (by rw [g2]; have := Bool.toNat_le (occG g (sqI (cN g) (x + dx) (y + dy))); omega) (fun acc2 g3 => K acc2 (fun z hz => ?_))
                rw [g3 z hz, g1 z hz, wayB, hon, decide_eq_true hle, ← g2]
                have ez : (isF g false qu tk s (sqI (cN g) (x + dx) (y + dy)) && decide (z = sqI (cN g) (x + dx) (y + dy))) = (isF g false qu tk s z && decide (z = sqI (cN g) (x + dx) (y + dy))) := by
                  by_cases y : z = sqI (cN g) (x + dx) (y + dy)
                  · rw [← y]
                  · rw [decide_eq_false y, Bool.and_false, Bool.and_false]
                rw [ez]
                generalize isF g false qu tk s z = b1
                generalize decide (z = sqI (cN g) (x + dx) (y + dy)) = b2
                generalize decide (ov = w) = b3
                generalize decide (ov1 ≤ w) = b4
                generalize wayB (cN g) (rN g) (occG g) dx dy w n (x + dx + dx) (y + dy + dy) ov1 z = b5
                generalize lb acc z = b6
                cases b1 <;> cases b2 <;> cases b3 <;> cases b4 <;> cases b5 <;> cases b6 <;> rfl
          · refine ev_iload_6 dX10_reaches_263 ?_
            refine ev_goto (tgt := 290) dX10_reaches_265 (by decide) ?_
            refine ev_istore_18 dX10_reaches_290 rfl rfl ?_
            have hI : (b2i qu) = b2i (isF g false qu tk s (sqI (cN g) (x + dx) (y + dy))) := by
              unfold isF
              rw [if_neg (by decide)]
              first
              | (rw [bn_f h260]; rfl)
              | (rw [bn_t h260, if_pos rfl, (b2i_0 _).mp h270]; rfl)
              | (rw [bn_t h260, if_pos rfl, b2i_t h270, (b2i_0 _).mp h282]; rfl)
              | (rw [bn_t h260, if_pos rfl, b2i_t h270, b2i_t h282]; rfl)
            refine Ev.to (ls' := [some (.ref (ad 61)), some (.int (nI cj)), some (.int (nI f)), some (.int (nI s)), some (.int 0), some (.int md), some (.int (b2i qu)), some (.int (b2i tk)), some (.int (nI ms)), some (.int (nI w)), some (.long acc), none, some (.int (nI d)), some (.int (nI ov)), some (.int (iI (x + dx))), some (.int (iI (y + dy))), some (.int (nI k)), some (.int (nI (sqI (cN g) (x + dx) (y + dy)))), some (.int (b2i (isF g false qu tk s (sqI (cN g) (x + dx) (y + dy)))))]) (by rw [← hI]) rfl rfl (c_rch0_292 (σ := σ) hm hg hG hs hq36 (by omega) (by omega) (by omega) (fun acc1 ov1 g1 g2 => ?_))
            refine ih (k + 1) (by omega) (by omega) ov1 (x + dx) (y + dy) acc1 (by omega) (by omega) (by rw [g2]; have := Bool.toNat_le (occG g (sqI (cN g) (x + dx) (y + dy))); omega) (fun acc2 g3 => K acc2 (fun z hz => ?_))
            rw [g3 z hz, g1 z hz, wayB, hon, decide_eq_true hle, ← g2]
            have ez : (isF g false qu tk s (sqI (cN g) (x + dx) (y + dy)) && decide (z = sqI (cN g) (x + dx) (y + dy))) = (isF g false qu tk s z && decide (z = sqI (cN g) (x + dx) (y + dy))) := by
              by_cases y : z = sqI (cN g) (x + dx) (y + dy)
              · rw [← y]
              · rw [decide_eq_false y, Bool.and_false, Bool.and_false]
            rw [ez]
            generalize isF g false qu tk s z = b1
            generalize decide (z = sqI (cN g) (x + dx) (y + dy)) = b2
            generalize decide (ov = w) = b3
            generalize decide (ov1 ≤ w) = b4
            generalize wayB (cN g) (rN g) (occG g) dx dy w n (x + dx + dx) (y + dy + dy) ov1 z = b5
            generalize lb acc z = b6
            cases b1 <;> cases b2 <;> cases b3 <;> cases b4 <;> cases b5 <;> cases b6 <;> rfl
        · refine ev_goto (tgt := 331) dX10_reaches_226 (by decide) ?_
          refine ev_drop_13 ?_
          refine ev_drop_14 ?_
          refine ev_drop_15 ?_
          refine ev_drop_16 ?_
          exact K _ (fun z _ => by
            first
            | (rw [decide_eq_false (show ¬ ov ≤ w from fun y => absurd h163 (nI_nlt y (by omega))), Bool.false_and, Bool.or_false]; done)
            | (have hoff : onB (cN g) (rN g) (x + dx) (y + dy) = false := decide_eq_false (fun y => of_decide_eq_false ((b2i_0 _).mp h205) ⟨y.1, y.2.1⟩)
               rw [wayB, hoff, Bool.false_and, Bool.false_and, Bool.and_false, Bool.or_false]; done)
            | (have hoff : onB (cN g) (rN g) (x + dx) (y + dy) = false := decide_eq_false (fun y => of_decide_eq_false ((b2i_0 _).mp h223) ⟨y.2.2.1, y.2.2.2⟩)
               rw [wayB, hoff, Bool.false_and, Bool.false_and, Bool.and_false, Bool.or_false]; done))
set_option maxRecDepth 100000 in
set_option maxHeartbeats 4000000 in
theorem c_rch0_119 {ae ad : Nat → Nat} {sh : mSh} {σ : mSt} (hm : mModel ad sh) {g : Nat → Int32} (hg : σ.1 62 = g) (hG : wfP g) {cj f s : Nat} {md : Int32} {qu tk : Bool} {ms w : Nat} (hs : s ≤ 1) (hms : ms ≤ 10) (hw : w ≤ 1) (hf : f < cN g * rN g) {L : List (Int32 × Int32)} (hd : dlR σ L) (hL : ∀ e ∈ L, (-3 ≤ e.1.toInt ∧ e.1.toInt ≤ 3) ∧ (-3 ≤ e.2.toInt ∧ e.2.toInt ≤ 3)) {P : Int64 → mSt → Prop} (hE : ∀ acc : Int64, (∀ z, z < 64 → lb acc z = (L.any (fun e => hitD g w ms f e z) && isF g false qu tk s z)) → P acc σ) : ∀ (n d : Nat), L.length - d = n → d ≤ L.length → ∀ acc : Int64, (∀ z, z < 64 → lb acc z = ((L.take d).any (fun e => hitD g w ms f e z) && isF g false qu tk s z)) → Ev RX10 cX10_reaches 19 false (some .long) (mRm 3 0 0) ae (mPl ad sh P) 119 [some (.ref (ad 61)), some (.int (nI cj)), some (.int (nI f)), some (.int (nI s)), some (.int 0), some (.int md), some (.int (b2i qu)), some (.int (b2i tk)), some (.int (nI ms)), some (.int (nI w)), some (.long acc), none, some (.int (nI d)), none, none, none, none, none, none] [] 0 0 ad sh σ := by
  have hc := hG.1.2
  have hr := hG.2.1.2
  have h36 := sq36 hG
  have h16 := hd.2.1
  intro n
  induction n with
  | zero =>
    intro d hn hdl acc hacc
    have e : d = L.length := by omega
    subst e
    refine ev_iload_12 dX10_reaches_119 ?_
    refine ev_aload_0 dX10_reaches_121 ?_
    refine gf_X10_159 dX10_reaches_122 hm.1 rfl ?_
    rw [hd.1]
    refine ev_icmp_ge (tgt := 337) dX10_reaches_125 (by decide) (fun h125 => ?_) (fun h125 => absurd (Int32.le_refl _) h125)
    refine ev_lload_10 dX10_reaches_337 ?_
    exact ev_pl dX10_reaches_339 (hE acc (fun z hz => by rw [hacc z hz, List.take_length]))
  | succ n ih =>
    intro d hn hdl acc hacc
    have hlt : d < L.length := by omega
    obtain ⟨e, he⟩ : ∃ e, L[d]? = some e := ⟨_, List.getElem?_eq_getElem hlt⟩
    obtain ⟨e1, e2⟩ := hd.2.2 d e he
    obtain ⟨bx, bY⟩ := hL e (List.mem_of_getElem? he)
    have hx0 : (0 : Int) ≤ ((f % cN g : Nat) : Int) ∧ ((f % cN g : Nat) : Int) < 6 := by
      have := Nat.mod_lt f (show 0 < cN g by omega)
      exact ⟨Int.natCast_nonneg _, Int.ofNat_lt.mpr (show f % cN g < 6 by omega)⟩
    have hy0 : (0 : Int) ≤ ((f / cN g : Nat) : Int) ∧ ((f / cN g : Nat) : Int) < 6 := by
      have : f / cN g < rN g := Nat.div_lt_of_lt_mul hf
      exact ⟨Int.natCast_nonneg _, Int.ofNat_lt.mpr (Nat.lt_of_lt_of_le this hr.2)⟩
    have tI : ∀ v : Int32, v = iI v.toInt := fun v => Int32.toInt_inj.mp (by
      unfold iI
      rw [Int32.ofInt_toInt])
    refine ev_iload_12 dX10_reaches_119 ?_
    refine ev_aload_0 dX10_reaches_121 ?_
    refine gf_X10_159 dX10_reaches_122 hm.1 rfl ?_
    rw [hd.1]
    refine ev_icmp_ge (tgt := 337) dX10_reaches_125 (by decide) (fun h125 => absurd h125 (nI_ge hlt (by omega))) (fun h125 => ?_)
    refine ev_iconst_0 dX10_reaches_128 ?_
    refine ev_istore_13 dX10_reaches_129 rfl rfl ?_
    refine ev_iload_2 dX10_reaches_131 ?_
    refine ev_aload_0 dX10_reaches_132 ?_
    refine gf_X10_11 dX10_reaches_133 hm.1 rfl ?_
    refine ev_bipush_53 dX10_reaches_136 ?_
    refine ev_ldk (k := 53) hm.2.1 hg rfl (by omega) (by decide) dX10_reaches_138 ?_
    rw [hG.1.1]
    refine ev_irem dX10_reaches_139 (nI_ne0 (by omega) (by omega)) ?_
    rw [remI (by omega) (by omega) (by omega)]
    refine ev_istore_14 dX10_reaches_140 rfl rfl ?_
    refine ev_aload_0 dX10_reaches_142 ?_
    refine ev_iload_2 dX10_reaches_143 ?_
    refine cl_X10_152 (c_mRow hm hg hG (q := (f)) (by omega)) hm.1 dX10_reaches_144 rfl (Nat.le_of_ble_eq_true rfl) ?_
    rw [show nI (f / cN g) = iI ((f / cN g : Nat) : Int) from (iI_nat _).symm]
    refine ev_istore_15 dX10_reaches_147 rfl rfl ?_
    refine ev_iconst_0 dX10_reaches_149 ?_
    refine ev_istore_16 dX10_reaches_150 rfl rfl ?_
    refine Ev.to (by rfl) rfl rfl (c_rch0_152 (σ := σ) hm hg hG hs hms hw (by omega) bx bY (e1.trans (tI _)) (e2.trans (tI _)) _ 0 rfl (Nat.zero_le _) 0 _ _ acc hx0 hy0 (Nat.zero_le _) (fun acc1 g1 => ?_))
    refine ev_iinc_12 (v := 1) dX10_reaches_331 (by decide) rfl rfl ?_
    rw [show nI d + 1 = nI (d + 1) from nI_add d 1]
    refine ev_goto (tgt := 119) dX10_reaches_334 (by decide) ?_
    refine ih (d + 1) (by omega) (by omega) acc1 (fun z hz => ?_)
    rw [g1 z hz, hacc z hz, List.take_add_one, he, List.any_append, decide_eq_true (Nat.zero_le w)]
    show _ = (((L.take d).any (fun e => hitD g w ms f e z) || (hitD g w ms f e z || false)) && isF g false qu tk s z)
    rw [Nat.sub_zero]
    unfold hitD
    generalize (L.take d).any _ = b1
    generalize isF g false qu tk s z = b2
    generalize wayB _ _ _ _ _ _ _ _ _ _ _ = b3
    cases b1 <;> cases b2 <;> cases b3 <;> rfl
set_option maxRecDepth 100000 in
set_option maxHeartbeats 4000000 in
theorem c_rch1_292 {ae ad : Nat → Nat} {sh : mSh} {σ : mSt} (hm : mModel ad sh) {g : Nat → Int32} (hg : σ.1 62 = g) (hG : wfP g) {cj f s : Nat} {md : Int32} {qu tk : Bool} {ms w : Nat} {Post : mPost} (hs : s ≤ 1) {d ov k q : Nat} {X Y : Int32} {I : Bool} {acc : Int64} (hq : q < 36) (hov : ov < 100) (hw : w < 100) (hk : k < 100) (K : ∀ (acc' : Int64) (ov' : Nat), (∀ z, z < 64 → lb acc' z = (lb acc z || (decide (ov = w) && (I && decide (z = q))))) → ov' = ov + (occG g q).toNat → Ev RX10 cX10_reaches 19 false (some .long) (mRm 3 0 0) ae Post 152 [some (.ref (ad 61)), some (.int (nI cj)), some (.int (nI f)), some (.int (nI s)), some (.int 1), some (.int md), some (.int (b2i qu)), some (.int (b2i tk)), some (.int (nI ms)), some (.int (nI w)), some (.long acc'), none, some (.int (nI d)), some (.int (nI ov')), some (.int X), some (.int Y), some (.int (nI (k + 1))), none, none] [] 0 0 ad sh σ) : Ev RX10 cX10_reaches 19 false (some .long) (mRm 3 0 0) ae Post 292 [some (.ref (ad 61)), some (.int (nI cj)), some (.int (nI f)), some (.int (nI s)), some (.int 1), some (.int md), some (.int (b2i qu)), some (.int (b2i tk)), some (.int (nI ms)), some (.int (nI w)), some (.long acc), none, some (.int (nI d)), some (.int (nI ov)), some (.int X), some (.int Y), some (.int (nI k)), some (.int (nI q)), some (.int (b2i I))] [] 0 0 ad sh σ := by
  refine ev_iload_13 dX10_reaches_292 ?_
  refine ev_iload_9 dX10_reaches_294 ?_
  refine ev_icmp_ne (tgt := 313) dX10_reaches_296 (by decide) (fun h296 => ?_) (fun h296 => ?_)
  · have hno : (decide (ov = w) && I) = false := by
      first
      | (rw [decide_eq_false (fun z => h296 (by rw [z]))]; rfl)
      | (rw [(b2i_0 _).mp h301, Bool.and_false]; done)
    refine ev_aload_0 dX10_reaches_313 ?_
    refine ev_iload_17 dX10_reaches_314 ?_
    refine cl_X10_172 (c_mEmpty hm hg hG (q := (q)) hq) hm.1 dX10_reaches_316 rfl (Nat.le_of_ble_eq_true rfl) ?_
    refine ev_if_ne (tgt := 325) dX10_reaches_319 (by decide) (fun h319 => ?_) (fun h319 => ?_)
    · refine ev_iinc_16 (v := 1) dX10_reaches_325 (by decide) rfl rfl ?_
      rw [show nI k + 1 = nI (k + 1) from nI_add (k) 1]
      refine ev_goto (tgt := 152) dX10_reaches_328 (by decide) ?_
      refine ev_drop_17 ?_
      refine ev_drop_18 ?_
      exact K _ _ (fun z _ => by rw [← Bool.and_assoc, hno, Bool.false_and, Bool.or_false]) (by rw [bn_f h319]; rfl)
    · skip
      refine ev_iinc_13 (v := 1) dX10_reaches_322 (by decide) rfl rfl ?_
      rw [show nI ov + 1 = nI (ov + 1) from nI_add (ov) 1]
      refine ev_iinc_16 (v := 1) dX10_reaches_325 (by decide) rfl rfl ?_
      rw [show nI k + 1 = nI (k + 1) from nI_add (k) 1]
      refine ev_goto (tgt := 152) dX10_reaches_328 (by decide) ?_
      refine ev_drop_17 ?_
      refine ev_drop_18 ?_
      exact K _ _ (fun z _ => by rw [← Bool.and_assoc, hno, Bool.false_and, Bool.or_false]) (by rw [bn_t h319]; rfl)
  · refine ev_iload_18 dX10_reaches_299 ?_
    refine ev_if_eq (tgt := 313) dX10_reaches_301 (by decide) (fun h301 => ?_) (fun h301 => ?_)
    · have hno : (decide (ov = w) && I) = false := by
        first
        | (rw [decide_eq_false (fun z => h296 (by rw [z]))]; rfl)
        | (rw [(b2i_0 _).mp h301, Bool.and_false]; done)
      refine ev_aload_0 dX10_reaches_313 ?_
      refine ev_iload_17 dX10_reaches_314 ?_
      refine cl_X10_172 (c_mEmpty hm hg hG (q := (q)) hq) hm.1 dX10_reaches_316 rfl (Nat.le_of_ble_eq_true rfl) ?_
      refine ev_if_ne (tgt := 325) dX10_reaches_319 (by decide) (fun h319 => ?_) (fun h319 => ?_)
      · refine ev_iinc_16 (v := 1) dX10_reaches_325 (by decide) rfl rfl ?_
        rw [show nI k + 1 = nI (k + 1) from nI_add (k) 1]
        refine ev_goto (tgt := 152) dX10_reaches_328 (by decide) ?_
        refine ev_drop_17 ?_
        refine ev_drop_18 ?_
        exact K _ _ (fun z _ => by rw [← Bool.and_assoc, hno, Bool.false_and, Bool.or_false]) (by rw [bn_f h319]; rfl)
      · skip
        refine ev_iinc_13 (v := 1) dX10_reaches_322 (by decide) rfl rfl ?_
        rw [show nI ov + 1 = nI (ov + 1) from nI_add (ov) 1]
        refine ev_iinc_16 (v := 1) dX10_reaches_325 (by decide) rfl rfl ?_
        rw [show nI k + 1 = nI (k + 1) from nI_add (k) 1]
        refine ev_goto (tgt := 152) dX10_reaches_328 (by decide) ?_
        refine ev_drop_17 ?_
        refine ev_drop_18 ?_
        exact K _ _ (fun z _ => by rw [← Bool.and_assoc, hno, Bool.false_and, Bool.or_false]) (by rw [bn_t h319]; rfl)
    · have hI : I = true := b2i_t h301
      have ho : ov = w := (nI_eq (by omega) (by omega)).mp h296
      refine ev_lload_10 dX10_reaches_304 ?_
      refine ev_lconst_1 dX10_reaches_306 ?_
      refine ev_iload_17 dX10_reaches_307 ?_
      refine ev_lshl dX10_reaches_309 ?_
      refine ev_lor dX10_reaches_310 ?_
      refine ev_lstore_10 dX10_reaches_311 rfl rfl ?_
      skip
      refine ev_aload_0 dX10_reaches_313 ?_
      refine ev_iload_17 dX10_reaches_314 ?_
      refine cl_X10_172 (c_mEmpty hm hg hG (q := (q)) hq) hm.1 dX10_reaches_316 rfl (Nat.le_of_ble_eq_true rfl) ?_
      refine ev_if_ne (tgt := 325) dX10_reaches_319 (by decide) (fun h319 => ?_) (fun h319 => ?_)
      · refine ev_iinc_16 (v := 1) dX10_reaches_325 (by decide) rfl rfl ?_
        rw [show nI k + 1 = nI (k + 1) from nI_add (k) 1]
        refine ev_goto (tgt := 152) dX10_reaches_328 (by decide) ?_
        refine ev_drop_17 ?_
        refine ev_drop_18 ?_
        exact K _ _ (fun z hz => by rw [lb_or, show lb (1 <<< ((nI q).toInt64 &&& 63)) z = decide (z = q) from lb_mBit (by omega) hz, hI, decide_eq_true ho]; simp) (by rw [bn_f h319]; rfl)
      · skip
        refine ev_iinc_13 (v := 1) dX10_reaches_322 (by decide) rfl rfl ?_
        rw [show nI ov + 1 = nI (ov + 1) from nI_add (ov) 1]
        refine ev_iinc_16 (v := 1) dX10_reaches_325 (by decide) rfl rfl ?_
        rw [show nI k + 1 = nI (k + 1) from nI_add (k) 1]
        refine ev_goto (tgt := 152) dX10_reaches_328 (by decide) ?_
        refine ev_drop_17 ?_
        refine ev_drop_18 ?_
        exact K _ _ (fun z hz => by rw [lb_or, show lb (1 <<< ((nI q).toInt64 &&& 63)) z = decide (z = q) from lb_mBit (by omega) hz, hI, decide_eq_true ho]; simp) (by rw [bn_t h319]; rfl)
set_option maxRecDepth 100000 in
set_option maxHeartbeats 4000000 in
theorem c_rch1_152 {ae ad : Nat → Nat} {sh : mSh} {σ : mSt} (hm : mModel ad sh) {g : Nat → Int32} (hg : σ.1 62 = g) (hG : wfP g) {cj f s : Nat} {md : Int32} {qu tk : Bool} {ms w : Nat} {Post : mPost} (hs : s ≤ 1) (hms : ms ≤ 10) (hw : w ≤ 1) {d : Nat} (hd16 : d < 16) {dx dy : Int} (hdx : -3 ≤ dx ∧ dx ≤ 3) (hdy : -3 ≤ dy ∧ dy ≤ 3) (ex : σ.1 73 d = iI dx) (ey : σ.1 74 d = iI dy) : ∀ (n k : Nat), ms - k = n → k ≤ ms → ∀ (ov : Nat) (x y : Int) (acc : Int64), (0 ≤ x ∧ x < 6) → (0 ≤ y ∧ y < 6) → ov ≤ w + 1 → (∀ acc' : Int64, (∀ z, z < 64 → lb acc' z = (lb acc z || (decide (ov ≤ w) && (wayB (cN g) (rN g) (occG g) dx dy w n (x + dx) (y + dy) ov z && isF g true qu tk s z)))) → Ev RX10 cX10_reaches 19 false (some .long) (mRm 3 0 0) ae Post 331 [some (.ref (ad 61)), some (.int (nI cj)), some (.int (nI f)), some (.int (nI s)), some (.int 1), some (.int md), some (.int (b2i qu)), some (.int (b2i tk)), some (.int (nI ms)), some (.int (nI w)), some (.long acc'), none, some (.int (nI d)), none, none, none, none, none, none] [] 0 0 ad sh σ) → Ev RX10 cX10_reaches 19 false (some .long) (mRm 3 0 0) ae Post 152 [some (.ref (ad 61)), some (.int (nI cj)), some (.int (nI f)), some (.int (nI s)), some (.int 1), some (.int md), some (.int (b2i qu)), some (.int (b2i tk)), some (.int (nI ms)), some (.int (nI w)), some (.long acc), none, some (.int (nI d)), some (.int (nI ov)), some (.int (iI x)), some (.int (iI y)), some (.int (nI k)), none, none] [] 0 0 ad sh σ := by
  have hc := hG.1.2
  have hr := hG.2.1.2
  intro n
  induction n with
  | zero =>
    intro k hn hk ov x y acc hx hy hov K
    have e : k = ms := by omega
    subst e
    refine ev_iload_16 dX10_reaches_152 ?_
    refine ev_iload_8 dX10_reaches_154 ?_
    refine ev_icmp_ge (tgt := 331) dX10_reaches_156 (by decide) (fun h156 => ?_) (fun h156 => absurd (Int32.le_refl _) h156)
    refine ev_drop_13 ?_
    refine ev_drop_14 ?_
    refine ev_drop_15 ?_
    refine ev_drop_16 ?_
    exact K _ (fun z _ => by rw [wayB, Bool.false_and, Bool.and_false, Bool.or_false])
  | succ n ih =>
    intro k hn hk ov x y acc hx hy hov K
    have hlt : k < ms := by omega
    have hX : -10 ≤ x + dx ∧ x + dx ≤ 10 := by omega
    have hY : -10 ≤ y + dy ∧ y + dy ≤ 10 := by omega
    refine ev_iload_16 dX10_reaches_152 ?_
    refine ev_iload_8 dX10_reaches_154 ?_
    refine ev_icmp_ge (tgt := 331) dX10_reaches_156 (by decide) (fun h156 => absurd h156 (nI_ge hlt (by omega))) (fun h156 => ?_)
    refine ev_iload_13 dX10_reaches_159 ?_
    refine ev_iload_9 dX10_reaches_161 ?_
    refine ev_icmp_gt (tgt := 331) dX10_reaches_163 (by decide) (fun h163 => ?_) (fun h163 => ?_)
    · refine ev_drop_13 ?_
      refine ev_drop_14 ?_
      refine ev_drop_15 ?_
      refine ev_drop_16 ?_
      exact K _ (fun z _ => by
        first
        | (rw [decide_eq_false (show ¬ ov ≤ w from fun y => absurd h163 (nI_nlt y (by omega))), Bool.false_and, Bool.or_false]; done)
        | (have hoff : onB (cN g) (rN g) (x + dx) (y + dy) = false := decide_eq_false (fun y => of_decide_eq_false ((b2i_0 _).mp h205) ⟨y.1, y.2.1⟩)
           rw [wayB, hoff, Bool.false_and, Bool.false_and, Bool.and_false, Bool.or_false]; done)
        | (have hoff : onB (cN g) (rN g) (x + dx) (y + dy) = false := decide_eq_false (fun y => of_decide_eq_false ((b2i_0 _).mp h223) ⟨y.2.2.1, y.2.2.2⟩)
           rw [wayB, hoff, Bool.false_and, Bool.false_and, Bool.and_false, Bool.or_false]; done))
    · refine ev_iload_14 dX10_reaches_166 ?_
      refine ev_aload_0 dX10_reaches_168 ?_
      refine gf_X10_45 dX10_reaches_169 hm.1 rfl ?_
      refine ev_iload_12 dX10_reaches_172 ?_
      refine ev_ldk (k := d) hm.2.2.2.2.2.2.2.2.2.2.2.2.1 rfl rfl (by omega) (by decide) dX10_reaches_174 ?_
      rw [ex]
      refine ev_iadd dX10_reaches_175 ?_
      rw [iI_add]
      refine ev_istore_14 dX10_reaches_176 rfl rfl ?_
      refine ev_iload_15 dX10_reaches_178 ?_
      refine ev_aload_0 dX10_reaches_180 ?_
      refine gf_X10_48 dX10_reaches_181 hm.1 rfl ?_
      refine ev_iload_12 dX10_reaches_184 ?_
      refine ev_ldk (k := d) hm.2.2.2.2.2.2.2.2.2.2.2.2.2.1 rfl rfl (by omega) (by decide) dX10_reaches_186 ?_
      rw [ey]
      refine ev_iadd dX10_reaches_187 ?_
      rw [iI_add]
      refine ev_istore_15 dX10_reaches_188 rfl rfl ?_
      refine ev_iload_14 dX10_reaches_190 ?_
      refine ev_iconst_0 dX10_reaches_192 ?_
      refine ev_aload_0 dX10_reaches_193 ?_
      refine gf_X10_11 dX10_reaches_194 hm.1 rfl ?_
      refine ev_bipush_53 dX10_reaches_197 ?_
      refine ev_ldk (k := 53) hm.2.1 hg rfl (by omega) (by decide) dX10_reaches_199 ?_
      rw [hG.1.1]
      refine ev_iconst_1 dX10_reaches_200 ?_
      refine ev_isub dX10_reaches_201 ?_
      refine cl_X10_61 c_mIn dX10_reaches_202 rfl (Nat.le_of_ble_eq_true rfl) ?_
      rw [inI hX.1 hX.2 (by omega) hc.2]
      refine ev_if_eq (tgt := 331) dX10_reaches_205 (by decide) (fun h205 => ?_) (fun h205 => ?_)
      · refine ev_drop_13 ?_
        refine ev_drop_14 ?_
        refine ev_drop_15 ?_
        refine ev_drop_16 ?_
        exact K _ (fun z _ => by
          first
          | (rw [decide_eq_false (show ¬ ov ≤ w from fun y => absurd h163 (nI_nlt y (by omega))), Bool.false_and, Bool.or_false]; done)
          | (have hoff : onB (cN g) (rN g) (x + dx) (y + dy) = false := decide_eq_false (fun y => of_decide_eq_false ((b2i_0 _).mp h205) ⟨y.1, y.2.1⟩)
             rw [wayB, hoff, Bool.false_and, Bool.false_and, Bool.and_false, Bool.or_false]; done)
          | (have hoff : onB (cN g) (rN g) (x + dx) (y + dy) = false := decide_eq_false (fun y => of_decide_eq_false ((b2i_0 _).mp h223) ⟨y.2.2.1, y.2.2.2⟩)
             rw [wayB, hoff, Bool.false_and, Bool.false_and, Bool.and_false, Bool.or_false]; done))
      · refine ev_iload_15 dX10_reaches_208 ?_
        refine ev_iconst_0 dX10_reaches_210 ?_
        refine ev_aload_0 dX10_reaches_211 ?_
        refine gf_X10_11 dX10_reaches_212 hm.1 rfl ?_
        refine ev_bipush_54 dX10_reaches_215 ?_
        refine ev_ldk (k := 54) hm.2.1 hg rfl (by omega) (by decide) dX10_reaches_217 ?_
        rw [hG.2.1.1]
        refine ev_iconst_1 dX10_reaches_218 ?_
        refine ev_isub dX10_reaches_219 ?_
        refine cl_X10_61 c_mIn dX10_reaches_220 rfl (Nat.le_of_ble_eq_true rfl) ?_
        rw [inI hY.1 hY.2 (by omega) hr.2]
        refine ev_if_ne (tgt := 229) dX10_reaches_223 (by decide) (fun h223 => ?_) (fun h223 => ?_)
        · have hon : onB (cN g) (rN g) (x + dx) (y + dy) = true := by
            have b1 := of_decide_eq_true (b2i_t h205)
            have b2 := of_decide_eq_true (b2i_t h223)
            exact decide_eq_true ⟨b1.1, b1.2, b2.1, b2.2⟩
          have hq36 := sq_lt36 hG hon
          have b9 := of_decide_eq_true hon
          have hle : ov ≤ w := Nat.le_of_not_lt fun z => h163 (nI_lt z (by omega))
          refine ev_aload_0 dX10_reaches_229 ?_
          refine gf_X10_11 dX10_reaches_230 hm.1 rfl ?_
          refine ev_bipush_53 dX10_reaches_233 ?_
          refine ev_ldk (k := 53) hm.2.1 hg rfl (by omega) (by decide) dX10_reaches_235 ?_
          rw [hG.1.1]
          refine ev_iload_15 dX10_reaches_236 ?_
          refine ev_imul dX10_reaches_238 ?_
          refine ev_iload_14 dX10_reaches_239 ?_
          refine ev_iadd dX10_reaches_241 ?_
          rw [sq_val hon]
          refine ev_istore_17 dX10_reaches_242 rfl rfl ?_
          refine ev_iload_4 dX10_reaches_244 ?_
          refine ev_if_eq (tgt := 254) dX10_reaches_246 (by decide) (fun h246 => absurd h246 (by decide)) (fun h246 => ?_)
          refine ev_iload_7 dX10_reaches_249 ?_
          refine ev_goto (tgt := 290) dX10_reaches_251 (by decide) ?_
          refine ev_istore_18 dX10_reaches_290 rfl rfl ?_
          have hI : b2i tk = b2i (isF g true qu tk s (sqI (cN g) (x + dx) (y + dy))) := rfl
          refine Ev.to (ls' := [some (.ref (ad 61)), some (.int (nI cj)), some (.int (nI f)), some (.int (nI s)), some (.int 1), some (.int md), some (.int (b2i qu)), some (.int (b2i tk)), some (.int (nI ms)), some (.int (nI w)), some (.long acc), none, some (.int (nI d)), some (.int (nI ov)), some (.int (iI (x + dx))), some (.int (iI (y + dy))), some (.int (nI k)), some (.int (nI (sqI (cN g) (x + dx) (y + dy)))), some (.int (b2i (isF g true qu tk s (sqI (cN g) (x + dx) (y + dy)))))]) (by rw [← hI]) rfl rfl (c_rch1_292 (σ := σ) hm hg hG hs hq36 (by omega) (by omega) (by omega) (fun acc1 ov1 g1 g2 => ?_))
          refine ih (k + 1) (by omega) (by omega) ov1 (x + dx) (y + dy) acc1 (by omega) (by omega) (by rw [g2]; have := Bool.toNat_le (occG g (sqI (cN g) (x + dx) (y + dy))); omega) (fun acc2 g3 => K acc2 (fun z hz => ?_))
          rw [g3 z hz, g1 z hz, wayB, hon, decide_eq_true hle, ← g2]
          have ez : (isF g true qu tk s (sqI (cN g) (x + dx) (y + dy)) && decide (z = sqI (cN g) (x + dx) (y + dy))) = (isF g true qu tk s z && decide (z = sqI (cN g) (x + dx) (y + dy))) := by
            by_cases y : z = sqI (cN g) (x + dx) (y + dy)
            · rw [← y]
            · rw [decide_eq_false y, Bool.and_false, Bool.and_false]
          rw [ez]
          generalize isF g true qu tk s z = b1
          generalize decide (z = sqI (cN g) (x + dx) (y + dy)) = b2
          generalize decide (ov = w) = b3
          generalize decide (ov1 ≤ w) = b4
          generalize wayB (cN g) (rN g) (occG g) dx dy w n (x + dx + dx) (y + dy + dy) ov1 z = b5
          generalize lb acc z = b6
          cases b1 <;> cases b2 <;> cases b3 <;> cases b4 <;> cases b5 <;> cases b6 <;> rfl
        · refine ev_goto (tgt := 331) dX10_reaches_226 (by decide) ?_
          refine ev_drop_13 ?_
          refine ev_drop_14 ?_
          refine ev_drop_15 ?_
          refine ev_drop_16 ?_
          exact K _ (fun z _ => by
            first
            | (rw [decide_eq_false (show ¬ ov ≤ w from fun y => absurd h163 (nI_nlt y (by omega))), Bool.false_and, Bool.or_false]; done)
            | (have hoff : onB (cN g) (rN g) (x + dx) (y + dy) = false := decide_eq_false (fun y => of_decide_eq_false ((b2i_0 _).mp h205) ⟨y.1, y.2.1⟩)
               rw [wayB, hoff, Bool.false_and, Bool.false_and, Bool.and_false, Bool.or_false]; done)
            | (have hoff : onB (cN g) (rN g) (x + dx) (y + dy) = false := decide_eq_false (fun y => of_decide_eq_false ((b2i_0 _).mp h223) ⟨y.2.2.1, y.2.2.2⟩)
               rw [wayB, hoff, Bool.false_and, Bool.false_and, Bool.and_false, Bool.or_false]; done))
set_option maxRecDepth 100000 in
set_option maxHeartbeats 4000000 in
theorem c_rch1_119 {ae ad : Nat → Nat} {sh : mSh} {σ : mSt} (hm : mModel ad sh) {g : Nat → Int32} (hg : σ.1 62 = g) (hG : wfP g) {cj f s : Nat} {md : Int32} {qu tk : Bool} {ms w : Nat} (hs : s ≤ 1) (hms : ms ≤ 10) (hw : w ≤ 1) (hf : f < cN g * rN g) {L : List (Int32 × Int32)} (hd : dlR σ L) (hL : ∀ e ∈ L, (-3 ≤ e.1.toInt ∧ e.1.toInt ≤ 3) ∧ (-3 ≤ e.2.toInt ∧ e.2.toInt ≤ 3)) {P : Int64 → mSt → Prop} (hE : ∀ acc : Int64, (∀ z, z < 64 → lb acc z = (L.any (fun e => hitD g w ms f e z) && isF g true qu tk s z)) → P acc σ) : ∀ (n d : Nat), L.length - d = n → d ≤ L.length → ∀ acc : Int64, (∀ z, z < 64 → lb acc z = ((L.take d).any (fun e => hitD g w ms f e z) && isF g true qu tk s z)) → Ev RX10 cX10_reaches 19 false (some .long) (mRm 3 0 0) ae (mPl ad sh P) 119 [some (.ref (ad 61)), some (.int (nI cj)), some (.int (nI f)), some (.int (nI s)), some (.int 1), some (.int md), some (.int (b2i qu)), some (.int (b2i tk)), some (.int (nI ms)), some (.int (nI w)), some (.long acc), none, some (.int (nI d)), none, none, none, none, none, none] [] 0 0 ad sh σ := by
  have hc := hG.1.2
  have hr := hG.2.1.2
  have h36 := sq36 hG
  have h16 := hd.2.1
  intro n
  induction n with
  | zero =>
    intro d hn hdl acc hacc
    have e : d = L.length := by omega
    subst e
    refine ev_iload_12 dX10_reaches_119 ?_
    refine ev_aload_0 dX10_reaches_121 ?_
    refine gf_X10_159 dX10_reaches_122 hm.1 rfl ?_
    rw [hd.1]
    refine ev_icmp_ge (tgt := 337) dX10_reaches_125 (by decide) (fun h125 => ?_) (fun h125 => absurd (Int32.le_refl _) h125)
    refine ev_lload_10 dX10_reaches_337 ?_
    exact ev_pl dX10_reaches_339 (hE acc (fun z hz => by rw [hacc z hz, List.take_length]))
  | succ n ih =>
    intro d hn hdl acc hacc
    have hlt : d < L.length := by omega
    obtain ⟨e, he⟩ : ∃ e, L[d]? = some e := ⟨_, List.getElem?_eq_getElem hlt⟩
    obtain ⟨e1, e2⟩ := hd.2.2 d e he
    obtain ⟨bx, bY⟩ := hL e (List.mem_of_getElem? he)
    have hx0 : (0 : Int) ≤ ((f % cN g : Nat) : Int) ∧ ((f % cN g : Nat) : Int) < 6 := by
      have := Nat.mod_lt f (show 0 < cN g by omega)
      exact ⟨Int.natCast_nonneg _, Int.ofNat_lt.mpr (show f % cN g < 6 by omega)⟩
    have hy0 : (0 : Int) ≤ ((f / cN g : Nat) : Int) ∧ ((f / cN g : Nat) : Int) < 6 := by
      have : f / cN g < rN g := Nat.div_lt_of_lt_mul hf
      exact ⟨Int.natCast_nonneg _, Int.ofNat_lt.mpr (Nat.lt_of_lt_of_le this hr.2)⟩
    have tI : ∀ v : Int32, v = iI v.toInt := fun v => Int32.toInt_inj.mp (by
      unfold iI
      rw [Int32.ofInt_toInt])
    refine ev_iload_12 dX10_reaches_119 ?_
    refine ev_aload_0 dX10_reaches_121 ?_
    refine gf_X10_159 dX10_reaches_122 hm.1 rfl ?_
    rw [hd.1]
    refine ev_icmp_ge (tgt := 337) dX10_reaches_125 (by decide) (fun h125 => absurd h125 (nI_ge hlt (by omega))) (fun h125 => ?_)
    refine ev_iconst_0 dX10_reaches_128 ?_
    refine ev_istore_13 dX10_reaches_129 rfl rfl ?_
    refine ev_iload_2 dX10_reaches_131 ?_
    refine ev_aload_0 dX10_reaches_132 ?_
    refine gf_X10_11 dX10_reaches_133 hm.1 rfl ?_
    refine ev_bipush_53 dX10_reaches_136 ?_
    refine ev_ldk (k := 53) hm.2.1 hg rfl (by omega) (by decide) dX10_reaches_138 ?_
    rw [hG.1.1]
    refine ev_irem dX10_reaches_139 (nI_ne0 (by omega) (by omega)) ?_
    rw [remI (by omega) (by omega) (by omega)]
    refine ev_istore_14 dX10_reaches_140 rfl rfl ?_
    refine ev_aload_0 dX10_reaches_142 ?_
    refine ev_iload_2 dX10_reaches_143 ?_
    refine cl_X10_152 (c_mRow hm hg hG (q := (f)) (by omega)) hm.1 dX10_reaches_144 rfl (Nat.le_of_ble_eq_true rfl) ?_
    rw [show nI (f / cN g) = iI ((f / cN g : Nat) : Int) from (iI_nat _).symm]
    refine ev_istore_15 dX10_reaches_147 rfl rfl ?_
    refine ev_iconst_0 dX10_reaches_149 ?_
    refine ev_istore_16 dX10_reaches_150 rfl rfl ?_
    refine Ev.to (by rfl) rfl rfl (c_rch1_152 (σ := σ) hm hg hG hs hms hw (by omega) bx bY (e1.trans (tI _)) (e2.trans (tI _)) _ 0 rfl (Nat.zero_le _) 0 _ _ acc hx0 hy0 (Nat.zero_le _) (fun acc1 g1 => ?_))
    refine ev_iinc_12 (v := 1) dX10_reaches_331 (by decide) rfl rfl ?_
    rw [show nI d + 1 = nI (d + 1) from nI_add d 1]
    refine ev_goto (tgt := 119) dX10_reaches_334 (by decide) ?_
    refine ih (d + 1) (by omega) (by omega) acc1 (fun z hz => ?_)
    rw [g1 z hz, hacc z hz, List.take_add_one, he, List.any_append, decide_eq_true (Nat.zero_le w)]
    show _ = (((L.take d).any (fun e => hitD g w ms f e z) || (hitD g w ms f e z || false)) && isF g true qu tk s z)
    rw [Nat.sub_zero]
    unfold hitD
    generalize (L.take d).any _ = b1
    generalize isF g true qu tk s z = b2
    generalize wayB _ _ _ _ _ _ _ _ _ _ _ = b3
    cases b1 <;> cases b2 <;> cases b3 <;> rfl
