/-! the directions of a part, as the reference lists them -/
def dirA (m s y : Int32) : Bool := decide (m &&& 28 = 0) || ((decide (¬ m &&& 4 = 0) && decide (0 < (if s = 0 then y else -y))) || ((decide (¬ m &&& 8 = 0) && decide ((if s = 0 then y else -y) < 0)) || (decide (¬ m &&& 16 = 0) && decide (y = 0))))
def memD (L : List (Int32 × Int32)) (x y : Int32) (n : Nat) : Bool := anyF (fun j => decide (L[j]? = some (x, y))) 0 n
def dir1 (m s : Int32) (L : List (Int32 × Int32)) (x y : Int32) : List (Int32 × Int32) := if dirA m s y && !(memD L x y L.length) then L ++ [(x, y)] else L
def stp1 (m s a b : Int32) (L : List (Int32 × Int32)) (i : Nat) : List (Int32 × Int32) :=
  dir1 m s (dir1 m s L (if i % 2 = 0 then a else -a) (if i < 2 then b else -b)) (if i < 2 then b else -b) (if i % 2 = 0 then a else -a)
def stpL (m s a b : Int32) (L : List (Int32 × Int32)) : Nat → List (Int32 × Int32)
  | 0 => L
  | n + 1 => stp1 m s a b (stpL m s a b L n) n
def dirL (a : Nat) (m s : Int32) : List (Int32 × Int32) := if a = 0 then stpL m s 0 1 [] 4 else if a = 1 then stpL m s 1 1 [] 4 else if a = 2 then stpL m s 0 2 [] 4 else if a = 3 then stpL m s 1 2 [] 4 else if a = 4 then stpL m s 2 2 [] 4 else if a = 5 then stpL m s 1 3 [] 4 else stpL m s 1 1 (stpL m s 0 1 [] 4) 4
theorem dir1_len (m s : Int32) (L : List (Int32 × Int32)) (x y : Int32) : (dir1 m s L x y).length ≤ L.length + 1 := by
  unfold dir1
  split <;> simp
theorem stpL_len (m s a b : Int32) (L : List (Int32 × Int32)) : ∀ n, (stpL m s a b L n).length ≤ L.length + 2 * n
  | 0 => Nat.le_refl _
  | n + 1 => by
    rw [stpL, stp1]
    have h1 := stpL_len m s a b L n
    have h2 := dir1_len m s (stpL m s a b L n) (if n % 2 = 0 then a else -a) (if n < 2 then b else -b)
    have h3 := dir1_len m s (dir1 m s (stpL m s a b L n) (if n % 2 = 0 then a else -a) (if n < 2 then b else -b)) (if n < 2 then b else -b) (if n % 2 = 0 then a else -a)
    omega
/-- the reference's rows hold the directions L -/
def dlR (σ : mSt) (L : List (Int32 × Int32)) : Prop := σ.1 61 17 = nI L.length ∧ L.length ≤ 16 ∧ ∀ i p, L[i]? = some p → σ.1 73 i = p.1 ∧ σ.1 74 i = p.2
/-- only the directions have changed -/
def frE (σ σ' : mSt) : Prop := (∀ j, j ≠ 61 → j ≠ 73 → j ≠ 74 → σ'.1 j = σ.1 j) ∧ (∀ k, k ≠ 17 → σ'.1 61 k = σ.1 61 k) ∧ σ'.2 = σ.2
theorem frE.rf {σ : mSt} : frE σ σ := ⟨fun _ _ _ _ => rfl, fun _ _ => rfl, rfl⟩
theorem frE.tr {σ σ1 σ2 : mSt} (h1 : frE σ σ1) (h2 : frE σ1 σ2) : frE σ σ2 := ⟨fun j a b c => (h2.1 j a b c).trans (h1.1 j a b c), fun k a => (h2.2.1 k a).trans (h1.2.1 k a), h2.2.2.trans h1.2.2⟩
theorem dlR.add {σ σ' : mSt} {L : List (Int32 × Int32)} {x y : Int32} (h : dlR σ L) (hl : L.length < 16) (e1 : σ'.1 61 17 = nI (L.length + 1)) (e2 : σ'.1 73 = upd (σ.1 73) L.length x) (e3 : σ'.1 74 = upd (σ.1 74) L.length y) : dlR σ' (L ++ [(x, y)]) := by
  refine ⟨by rw [e1, List.length_append]; rfl, by rw [List.length_append]; exact hl, fun i q hq => ?_⟩
  rw [e2, e3]
  by_cases z : i = L.length
  · subst z
    rw [List.getElem?_append_right (Nat.le_refl _)] at hq
    simp at hq
    rw [upd_at, upd_at, ← hq]; exact ⟨rfl, rfl⟩
  · rw [upd_ne z, upd_ne z]
    refine h.2.2 i q ?_
    rcases Nat.lt_or_ge i L.length with y | y
    · rw [List.getElem?_append_left y] at hq; exact hq
    · rw [List.getElem?_eq_none (by rw [List.length_append]; simp; omega)] at hq; cases hq
theorem memD_s {L : List (Int32 × Int32)} {x y : Int32} {n : Nat} : memD L x y (n + 1) = (memD L x y n || decide (L[n]? = some (x, y))) := by
  unfold memD
  rw [anyF, Nat.zero_add]

set_option maxRecDepth 100000 in
set_option maxHeartbeats 4000000 in
theorem c_mDir1_66 {ae ad : Nat → Nat} {sh : mSh} {σ : mSt} (hm : mModel ad sh) {L : List (Int32 × Int32)} (hd : dlR σ L) {m s x y : Int32} (hl : L.length < 16) {fw : Int32} : ∀ (n i : Nat), L.length - i = n → i ≤ L.length → Ev RX10 cX10_direction 8 false none (mRm 0 0 0) ae (mPv ad sh (fun σ' => dlR σ' (dir1 m s L x y) ∧ frE σ σ')) 66 [some (.ref (ad 61)), some (.int m), some (.int s), some (.int x), some (.int y), some (.int fw), some (.int (b2i (dirA m s y && !(memD L x y i)))), some (.int (nI i))] [] 0 0 ad sh σ := by
  intro n
  induction n with
  | zero =>
    intro i hn0 hi
    have e : i = L.length := by omega
    subst e
    refine ev_iload_7 dX10_direction_66 ?_
    refine ev_aload_0 dX10_direction_68 ?_
    refine gf_X10_159 dX10_direction_69 hm.1 rfl ?_
    rw [hd.1]
    refine ev_icmp_ge (tgt := 107) dX10_direction_72 (by decide) (fun h72 => ?_) (fun h72 => absurd (Int32.le_refl _) h72)
    refine ev_iload_6 dX10_direction_107 ?_
    refine ev_if_ne (tgt := 113) dX10_direction_109 (by decide) (fun h109 => ?_) (fun h109 => ?_)
    · refine ev_aload_0 dX10_direction_113 ?_
      refine gf_X10_45 dX10_direction_114 hm.1 rfl ?_
      refine ev_aload_0 dX10_direction_117 ?_
      refine gf_X10_159 dX10_direction_118 hm.1 rfl ?_
      rw [hd.1]
      refine ev_iload_3 dX10_direction_121 ?_
      refine ev_stk (k := L.length) hm.2.2.2.2.2.2.2.2.2.2.2.2.1 rfl rfl (by omega) (by decide) dX10_direction_122 (fun σ122 hw122 hf122 hl122 => ?_)
      have zrowsOf_122 := (hf122 74 (by decide)).trans (Eq.refl _)
      refine ev_aload_0 dX10_direction_123 ?_
      refine gf_X10_48 dX10_direction_124 hm.1 rfl ?_
      refine ev_aload_0 dX10_direction_127 ?_
      refine ev_dup dX10_direction_128 rfl ?_
      refine gf_X10_159 dX10_direction_129 hm.1 rfl ?_
      rw [hf122 61 (by decide), hd.1]
      refine ev_dup_x1 dX10_direction_132 rfl rfl ?_
      refine ev_iconst_1 dX10_direction_133 ?_
      refine ev_iadd dX10_direction_134 ?_
      rw [show nI (L.length) + (1 : Int32) = nI (L.length + 1) from nI_add (L.length) (1)]
      refine pf_X10_159 dX10_direction_135 hm.1 rfl ?_
      refine ev_abs (fun σ135 hw135 hf135 hl135 => ?_)
      have zcolumnsOf_135 := (hf135 73 (by decide)).trans hw122
      have zrowsOf_135 := (hf135 74 (by decide)).trans zrowsOf_122
      refine ev_iload_4 dX10_direction_138 ?_
      refine ev_stk (k := L.length) hm.2.2.2.2.2.2.2.2.2.2.2.2.2.1 zrowsOf_135 rfl (by omega) (by decide) dX10_direction_140 (fun σ140 hw140 hf140 hl140 => ?_)
      have zcolumnsOf_140 := (hf140 73 (by decide)).trans zcolumnsOf_135
      first
      | exact ev_pv dX10_direction_141 ⟨by
          rw [dir1, (b2i_0 _).mp h109]; exact hd, frE.rf⟩
      | exact ev_pv dX10_direction_141 ⟨by
          rw [dir1, if_pos (b2i_t h109)]
          exact hd.add hl ((congrFun (hf140 61 (by decide)) 17).trans ((congrFun hw135 17).trans upd_at)) (by rw [hf140 73 (by decide), hf135 73 (by decide)]; exact hw122) (by rw [hw140]), fun j x61 x73 x74 => (by rw [hf140 j x74, hf135 j x61, hf122 j x73]), fun k hk => by rw [hf140 61 (by decide), hw135, upd_ne hk, hf122 61 (by decide)], by rw [hl140, hl135, hl122]⟩
    · first
      | exact ev_pv dX10_direction_112 ⟨by
          rw [dir1, (b2i_0 _).mp h109]; exact hd, frE.rf⟩
      | exact ev_pv dX10_direction_112 ⟨by
          rw [dir1, if_pos (b2i_t h109)]
          exact hd.add hl ((congrFun (hf140 61 (by decide)) 17).trans ((congrFun hw135 17).trans upd_at)) (by rw [hf140 73 (by decide), hf135 73 (by decide)]; exact hw122) (by rw [hw140]), fun j x61 x73 x74 => (by rw [hf140 j x74, hf135 j x61, hf122 j x73]), fun k hk => by rw [hf140 61 (by decide), hw135, upd_ne hk, hf122 61 (by decide)], by rw [hl140, hl135, hl122]⟩
  | succ n ih =>
    intro i hn0 hi
    have hlt : i < L.length := by omega
    have h16 := hd.2.1
    obtain ⟨q, hq⟩ : ∃ q, L[i]? = some q := ⟨_, List.getElem?_eq_getElem hlt⟩
    obtain ⟨e1, e2⟩ := hd.2.2 i q hq
    refine ev_iload_7 dX10_direction_66 ?_
    refine ev_aload_0 dX10_direction_68 ?_
    refine gf_X10_159 dX10_direction_69 hm.1 rfl ?_
    rw [hd.1]
    refine ev_icmp_ge (tgt := 107) dX10_direction_72 (by decide) (fun h72 => absurd h72 (nI_ge hlt (by omega))) (fun h72 => ?_)
    refine ev_aload_0 dX10_direction_75 ?_
    refine gf_X10_45 dX10_direction_76 hm.1 rfl ?_
    refine ev_iload_7 dX10_direction_79 ?_
    refine ev_ldk (k := i) hm.2.2.2.2.2.2.2.2.2.2.2.2.1 rfl rfl (by omega) (by decide) dX10_direction_81 ?_
    rw [e1]
    refine ev_iload_3 dX10_direction_82 ?_
    refine ev_icmp_ne (tgt := 101) dX10_direction_83 (by decide) (fun h83 => ?_) (fun h83 => ?_)
    · refine ev_iinc_7 (v := 1) dX10_direction_101 (by decide) rfl rfl ?_
      rw [show nI i + 1 = nI (i + 1) from nI_add (i) 1]
      refine ev_goto (tgt := 66) dX10_direction_104 (by decide) ?_
      have hM : decide (L[i]? = some (x, y)) = false := decide_eq_false (fun z => by
        have z2 : q = (x, y) := Option.some.inj (hq.symm.trans z)
        rw [z2] at h83
        first
        | exact h83 rfl
        | (rw [z2] at h95; exact h95 rfl))
      exact Ev.to (by rw [memD_s, hM, Bool.or_false]) rfl rfl (ih (i + 1) (by omega) (by omega))
    · refine ev_aload_0 dX10_direction_86 ?_
      refine gf_X10_48 dX10_direction_87 hm.1 rfl ?_
      refine ev_iload_7 dX10_direction_90 ?_
      refine ev_ldk (k := i) hm.2.2.2.2.2.2.2.2.2.2.2.2.2.1 rfl rfl (by omega) (by decide) dX10_direction_92 ?_
      rw [e2]
      refine ev_iload_4 dX10_direction_93 ?_
      refine ev_icmp_ne (tgt := 101) dX10_direction_95 (by decide) (fun h95 => ?_) (fun h95 => ?_)
      · refine ev_iinc_7 (v := 1) dX10_direction_101 (by decide) rfl rfl ?_
        rw [show nI i + 1 = nI (i + 1) from nI_add (i) 1]
        refine ev_goto (tgt := 66) dX10_direction_104 (by decide) ?_
        have hM : decide (L[i]? = some (x, y)) = false := decide_eq_false (fun z => by
          have z2 : q = (x, y) := Option.some.inj (hq.symm.trans z)
          rw [z2] at h83
          first
          | exact h83 rfl
          | (rw [z2] at h95; exact h95 rfl))
        exact Ev.to (by rw [memD_s, hM, Bool.or_false]) rfl rfl (ih (i + 1) (by omega) (by omega))
      · have hM : decide (L[i]? = some (x, y)) = true := decide_eq_true (by rw [hq, ← h83, ← h95])
        refine ev_iconst_0 dX10_direction_98 ?_
        refine ev_istore_6 dX10_direction_99 rfl rfl ?_
        refine ev_iinc_7 (v := 1) dX10_direction_101 (by decide) rfl rfl ?_
        rw [show nI i + 1 = nI (i + 1) from nI_add (i) 1]
        refine ev_goto (tgt := 66) dX10_direction_104 (by decide) ?_
        exact Ev.to (by rw [memD_s, hM]; simp [b2i]) rfl rfl (ih (i + 1) (by omega) (by omega))
set_option maxRecDepth 100000 in
set_option maxHeartbeats 4000000 in
theorem c_mDir1 {ae ad : Nat → Nat} {sh : mSh} {σ : mSt} (hm : mModel ad sh) {L : List (Int32 × Int32)} (hd : dlR σ L) {m s x y : Int32} (hl : L.length < 16) : Ct yX10_direction cX10_direction 8 none 0 0 0 [.ref (ad 61), .int m, .int s, .int x, .int y] ae ad sh σ (mPv ad sh (fun σ' => dlR σ' (dir1 m s L x y) ∧ frE σ σ')) := by
  refine Ct.ofL (own := RX10) (ini := false) (ls := [some (.ref (ad 61)), some (.int m), some (.int s), some (.int x), some (.int y), none, none, none]) (by decide +kernel) rfl (fun h => by cases h) (Nat.le_of_ble_eq_true rfl) rfl ?_
  refine ev_iload_2 dX10_direction_0 ?_
  refine ev_if_ne (tgt := 9) dX10_direction_1 (by decide) (fun h1 => ?_) (fun h1 => ?_)
  · refine ev_iload_4 dX10_direction_9 ?_
    refine ev_ineg dX10_direction_11 ?_
    refine ev_istore_5 dX10_direction_12 rfl rfl ?_
    refine ev_iload_1 dX10_direction_14 ?_
    refine ev_bipush_28 dX10_direction_15 ?_
    refine ev_iand dX10_direction_17 ?_
    refine ev_if_eq (tgt := 56) dX10_direction_18 (by decide) (fun h18 => ?_) (fun h18 => ?_)
    · refine ev_iconst_1 dX10_direction_56 ?_
      refine ev_goto (tgt := 61) dX10_direction_57 (by decide) ?_
      refine ev_istore_6 dX10_direction_61 rfl rfl ?_
      refine ev_iconst_0 dX10_direction_63 ?_
      refine ev_istore_7 dX10_direction_64 rfl rfl ?_
      have hA : dirA m s y = true := by
        simp_all [dirA]
      exact Ev.to (by rw [hA]; rfl) rfl rfl (c_mDir1_66 (m := m) (s := s) hm hd hl _ 0 rfl (Nat.zero_le _))
    · refine ev_iload_1 dX10_direction_21 ?_
      refine ev_iconst_4 dX10_direction_22 ?_
      refine ev_iand dX10_direction_23 ?_
      refine ev_if_eq (tgt := 32) dX10_direction_24 (by decide) (fun h24 => ?_) (fun h24 => ?_)
      · refine ev_iload_1 dX10_direction_32 ?_
        refine ev_bipush_8 dX10_direction_33 ?_
        refine ev_iand dX10_direction_35 ?_
        refine ev_if_eq (tgt := 44) dX10_direction_36 (by decide) (fun h36 => ?_) (fun h36 => ?_)
        · refine ev_iload_1 dX10_direction_44 ?_
          refine ev_bipush_16 dX10_direction_45 ?_
          refine ev_iand dX10_direction_47 ?_
          refine ev_if_eq (tgt := 60) dX10_direction_48 (by decide) (fun h48 => ?_) (fun h48 => ?_)
          · refine ev_iconst_0 dX10_direction_60 ?_
            refine ev_istore_6 dX10_direction_61 rfl rfl ?_
            refine ev_iconst_0 dX10_direction_63 ?_
            refine ev_istore_7 dX10_direction_64 rfl rfl ?_
            have hA : dirA m s y = false := by
              simp_all [dirA]
            exact Ev.to (by rw [hA]; rfl) rfl rfl (c_mDir1_66 (m := m) (s := s) hm hd hl _ 0 rfl (Nat.zero_le _))
          · refine ev_iload_4 dX10_direction_51 ?_
            refine ev_if_ne (tgt := 60) dX10_direction_53 (by decide) (fun h53 => ?_) (fun h53 => ?_)
            · refine ev_iconst_0 dX10_direction_60 ?_
              refine ev_istore_6 dX10_direction_61 rfl rfl ?_
              refine ev_iconst_0 dX10_direction_63 ?_
              refine ev_istore_7 dX10_direction_64 rfl rfl ?_
              have hA : dirA m s y = false := by
                simp_all [dirA]
              exact Ev.to (by rw [hA]; rfl) rfl rfl (c_mDir1_66 (m := m) (s := s) hm hd hl _ 0 rfl (Nat.zero_le _))
            · refine ev_iconst_1 dX10_direction_56 ?_
              refine ev_goto (tgt := 61) dX10_direction_57 (by decide) ?_
              refine ev_istore_6 dX10_direction_61 rfl rfl ?_
              refine ev_iconst_0 dX10_direction_63 ?_
              refine ev_istore_7 dX10_direction_64 rfl rfl ?_
              have hA : dirA m s y = true := by
                simp_all [dirA]
              exact Ev.to (by rw [hA]; rfl) rfl rfl (c_mDir1_66 (m := m) (s := s) hm hd hl _ 0 rfl (Nat.zero_le _))
        · refine ev_iload_5 dX10_direction_39 ?_
          refine ev_if_lt (tgt := 56) dX10_direction_41 (by decide) (fun h41 => ?_) (fun h41 => ?_)
          · refine ev_iconst_1 dX10_direction_56 ?_
            refine ev_goto (tgt := 61) dX10_direction_57 (by decide) ?_
            refine ev_istore_6 dX10_direction_61 rfl rfl ?_
            refine ev_iconst_0 dX10_direction_63 ?_
            refine ev_istore_7 dX10_direction_64 rfl rfl ?_
            have hA : dirA m s y = true := by
              simp_all [dirA]
            exact Ev.to (by rw [hA]; rfl) rfl rfl (c_mDir1_66 (m := m) (s := s) hm hd hl _ 0 rfl (Nat.zero_le _))
          · refine ev_iload_1 dX10_direction_44 ?_
            refine ev_bipush_16 dX10_direction_45 ?_
            refine ev_iand dX10_direction_47 ?_
            refine ev_if_eq (tgt := 60) dX10_direction_48 (by decide) (fun h48 => ?_) (fun h48 => ?_)
            · refine ev_iconst_0 dX10_direction_60 ?_
              refine ev_istore_6 dX10_direction_61 rfl rfl ?_
              refine ev_iconst_0 dX10_direction_63 ?_
              refine ev_istore_7 dX10_direction_64 rfl rfl ?_
              have hA : dirA m s y = false := by
                simp_all [dirA]
              exact Ev.to (by rw [hA]; rfl) rfl rfl (c_mDir1_66 (m := m) (s := s) hm hd hl _ 0 rfl (Nat.zero_le _))
            · refine ev_iload_4 dX10_direction_51 ?_
              refine ev_if_ne (tgt := 60) dX10_direction_53 (by decide) (fun h53 => ?_) (fun h53 => ?_)
              · refine ev_iconst_0 dX10_direction_60 ?_
                refine ev_istore_6 dX10_direction_61 rfl rfl ?_
                refine ev_iconst_0 dX10_direction_63 ?_
                refine ev_istore_7 dX10_direction_64 rfl rfl ?_
                have hA : dirA m s y = false := by
                  simp_all [dirA]
                exact Ev.to (by rw [hA]; rfl) rfl rfl (c_mDir1_66 (m := m) (s := s) hm hd hl _ 0 rfl (Nat.zero_le _))
              · refine ev_iconst_1 dX10_direction_56 ?_
                refine ev_goto (tgt := 61) dX10_direction_57 (by decide) ?_
                refine ev_istore_6 dX10_direction_61 rfl rfl ?_
                refine ev_iconst_0 dX10_direction_63 ?_
                refine ev_istore_7 dX10_direction_64 rfl rfl ?_
                have hA : dirA m s y = true := by
                  simp_all [dirA]
                exact Ev.to (by rw [hA]; rfl) rfl rfl (c_mDir1_66 (m := m) (s := s) hm hd hl _ 0 rfl (Nat.zero_le _))
      · refine ev_iload_5 dX10_direction_27 ?_
        refine ev_if_gt (tgt := 56) dX10_direction_29 (by decide) (fun h29 => ?_) (fun h29 => ?_)
        · refine ev_iconst_1 dX10_direction_56 ?_
          refine ev_goto (tgt := 61) dX10_direction_57 (by decide) ?_
          refine ev_istore_6 dX10_direction_61 rfl rfl ?_
          refine ev_iconst_0 dX10_direction_63 ?_
          refine ev_istore_7 dX10_direction_64 rfl rfl ?_
          have hA : dirA m s y = true := by
            simp_all [dirA]
          exact Ev.to (by rw [hA]; rfl) rfl rfl (c_mDir1_66 (m := m) (s := s) hm hd hl _ 0 rfl (Nat.zero_le _))
        · refine ev_iload_1 dX10_direction_32 ?_
          refine ev_bipush_8 dX10_direction_33 ?_
          refine ev_iand dX10_direction_35 ?_
          refine ev_if_eq (tgt := 44) dX10_direction_36 (by decide) (fun h36 => ?_) (fun h36 => ?_)
          · refine ev_iload_1 dX10_direction_44 ?_
            refine ev_bipush_16 dX10_direction_45 ?_
            refine ev_iand dX10_direction_47 ?_
            refine ev_if_eq (tgt := 60) dX10_direction_48 (by decide) (fun h48 => ?_) (fun h48 => ?_)
            · refine ev_iconst_0 dX10_direction_60 ?_
              refine ev_istore_6 dX10_direction_61 rfl rfl ?_
              refine ev_iconst_0 dX10_direction_63 ?_
              refine ev_istore_7 dX10_direction_64 rfl rfl ?_
              have hA : dirA m s y = false := by
                simp_all [dirA]
              exact Ev.to (by rw [hA]; rfl) rfl rfl (c_mDir1_66 (m := m) (s := s) hm hd hl _ 0 rfl (Nat.zero_le _))
            · refine ev_iload_4 dX10_direction_51 ?_
              refine ev_if_ne (tgt := 60) dX10_direction_53 (by decide) (fun h53 => ?_) (fun h53 => ?_)
              · refine ev_iconst_0 dX10_direction_60 ?_
                refine ev_istore_6 dX10_direction_61 rfl rfl ?_
                refine ev_iconst_0 dX10_direction_63 ?_
                refine ev_istore_7 dX10_direction_64 rfl rfl ?_
                have hA : dirA m s y = false := by
                  simp_all [dirA]
                exact Ev.to (by rw [hA]; rfl) rfl rfl (c_mDir1_66 (m := m) (s := s) hm hd hl _ 0 rfl (Nat.zero_le _))
              · refine ev_iconst_1 dX10_direction_56 ?_
                refine ev_goto (tgt := 61) dX10_direction_57 (by decide) ?_
                refine ev_istore_6 dX10_direction_61 rfl rfl ?_
                refine ev_iconst_0 dX10_direction_63 ?_
                refine ev_istore_7 dX10_direction_64 rfl rfl ?_
                have hA : dirA m s y = true := by
                  simp_all [dirA]
                exact Ev.to (by rw [hA]; rfl) rfl rfl (c_mDir1_66 (m := m) (s := s) hm hd hl _ 0 rfl (Nat.zero_le _))
          · refine ev_iload_5 dX10_direction_39 ?_
            refine ev_if_lt (tgt := 56) dX10_direction_41 (by decide) (fun h41 => ?_) (fun h41 => ?_)
            · refine ev_iconst_1 dX10_direction_56 ?_
              refine ev_goto (tgt := 61) dX10_direction_57 (by decide) ?_
              refine ev_istore_6 dX10_direction_61 rfl rfl ?_
              refine ev_iconst_0 dX10_direction_63 ?_
              refine ev_istore_7 dX10_direction_64 rfl rfl ?_
              have hA : dirA m s y = true := by
                simp_all [dirA]
              exact Ev.to (by rw [hA]; rfl) rfl rfl (c_mDir1_66 (m := m) (s := s) hm hd hl _ 0 rfl (Nat.zero_le _))
            · refine ev_iload_1 dX10_direction_44 ?_
              refine ev_bipush_16 dX10_direction_45 ?_
              refine ev_iand dX10_direction_47 ?_
              refine ev_if_eq (tgt := 60) dX10_direction_48 (by decide) (fun h48 => ?_) (fun h48 => ?_)
              · refine ev_iconst_0 dX10_direction_60 ?_
                refine ev_istore_6 dX10_direction_61 rfl rfl ?_
                refine ev_iconst_0 dX10_direction_63 ?_
                refine ev_istore_7 dX10_direction_64 rfl rfl ?_
                have hA : dirA m s y = false := by
                  simp_all [dirA]
                exact Ev.to (by rw [hA]; rfl) rfl rfl (c_mDir1_66 (m := m) (s := s) hm hd hl _ 0 rfl (Nat.zero_le _))
              · refine ev_iload_4 dX10_direction_51 ?_
                refine ev_if_ne (tgt := 60) dX10_direction_53 (by decide) (fun h53 => ?_) (fun h53 => ?_)
                · refine ev_iconst_0 dX10_direction_60 ?_
                  refine ev_istore_6 dX10_direction_61 rfl rfl ?_
                  refine ev_iconst_0 dX10_direction_63 ?_
                  refine ev_istore_7 dX10_direction_64 rfl rfl ?_
                  have hA : dirA m s y = false := by
                    simp_all [dirA]
                  exact Ev.to (by rw [hA]; rfl) rfl rfl (c_mDir1_66 (m := m) (s := s) hm hd hl _ 0 rfl (Nat.zero_le _))
                · refine ev_iconst_1 dX10_direction_56 ?_
                  refine ev_goto (tgt := 61) dX10_direction_57 (by decide) ?_
                  refine ev_istore_6 dX10_direction_61 rfl rfl ?_
                  refine ev_iconst_0 dX10_direction_63 ?_
                  refine ev_istore_7 dX10_direction_64 rfl rfl ?_
                  have hA : dirA m s y = true := by
                    simp_all [dirA]
                  exact Ev.to (by rw [hA]; rfl) rfl rfl (c_mDir1_66 (m := m) (s := s) hm hd hl _ 0 rfl (Nat.zero_le _))
  · refine ev_iload_4 dX10_direction_4 ?_
    refine ev_goto (tgt := 12) dX10_direction_6 (by decide) ?_
    refine ev_istore_5 dX10_direction_12 rfl rfl ?_
    refine ev_iload_1 dX10_direction_14 ?_
    refine ev_bipush_28 dX10_direction_15 ?_
    refine ev_iand dX10_direction_17 ?_
    refine ev_if_eq (tgt := 56) dX10_direction_18 (by decide) (fun h18 => ?_) (fun h18 => ?_)
    · refine ev_iconst_1 dX10_direction_56 ?_
      refine ev_goto (tgt := 61) dX10_direction_57 (by decide) ?_
      refine ev_istore_6 dX10_direction_61 rfl rfl ?_
      refine ev_iconst_0 dX10_direction_63 ?_
      refine ev_istore_7 dX10_direction_64 rfl rfl ?_
      have hA : dirA m s y = true := by
        simp_all [dirA]
      exact Ev.to (by rw [hA]; rfl) rfl rfl (c_mDir1_66 (m := m) (s := s) hm hd hl _ 0 rfl (Nat.zero_le _))
    · refine ev_iload_1 dX10_direction_21 ?_
      refine ev_iconst_4 dX10_direction_22 ?_
      refine ev_iand dX10_direction_23 ?_
      refine ev_if_eq (tgt := 32) dX10_direction_24 (by decide) (fun h24 => ?_) (fun h24 => ?_)
      · refine ev_iload_1 dX10_direction_32 ?_
        refine ev_bipush_8 dX10_direction_33 ?_
        refine ev_iand dX10_direction_35 ?_
        refine ev_if_eq (tgt := 44) dX10_direction_36 (by decide) (fun h36 => ?_) (fun h36 => ?_)
        · refine ev_iload_1 dX10_direction_44 ?_
          refine ev_bipush_16 dX10_direction_45 ?_
          refine ev_iand dX10_direction_47 ?_
          refine ev_if_eq (tgt := 60) dX10_direction_48 (by decide) (fun h48 => ?_) (fun h48 => ?_)
          · refine ev_iconst_0 dX10_direction_60 ?_
            refine ev_istore_6 dX10_direction_61 rfl rfl ?_
            refine ev_iconst_0 dX10_direction_63 ?_
            refine ev_istore_7 dX10_direction_64 rfl rfl ?_
            have hA : dirA m s y = false := by
              simp_all [dirA]
            exact Ev.to (by rw [hA]; rfl) rfl rfl (c_mDir1_66 (m := m) (s := s) hm hd hl _ 0 rfl (Nat.zero_le _))
          · refine ev_iload_4 dX10_direction_51 ?_
            refine ev_if_ne (tgt := 60) dX10_direction_53 (by decide) (fun h53 => ?_) (fun h53 => ?_)
            · refine ev_iconst_0 dX10_direction_60 ?_
              refine ev_istore_6 dX10_direction_61 rfl rfl ?_
              refine ev_iconst_0 dX10_direction_63 ?_
              refine ev_istore_7 dX10_direction_64 rfl rfl ?_
              have hA : dirA m s y = false := by
                simp_all [dirA]
              exact Ev.to (by rw [hA]; rfl) rfl rfl (c_mDir1_66 (m := m) (s := s) hm hd hl _ 0 rfl (Nat.zero_le _))
            · refine ev_iconst_1 dX10_direction_56 ?_
              refine ev_goto (tgt := 61) dX10_direction_57 (by decide) ?_
              refine ev_istore_6 dX10_direction_61 rfl rfl ?_
              refine ev_iconst_0 dX10_direction_63 ?_
              refine ev_istore_7 dX10_direction_64 rfl rfl ?_
              have hA : dirA m s y = true := by
                simp_all [dirA]
              exact Ev.to (by rw [hA]; rfl) rfl rfl (c_mDir1_66 (m := m) (s := s) hm hd hl _ 0 rfl (Nat.zero_le _))
        · refine ev_iload_5 dX10_direction_39 ?_
          refine ev_if_lt (tgt := 56) dX10_direction_41 (by decide) (fun h41 => ?_) (fun h41 => ?_)
          · refine ev_iconst_1 dX10_direction_56 ?_
            refine ev_goto (tgt := 61) dX10_direction_57 (by decide) ?_
            refine ev_istore_6 dX10_direction_61 rfl rfl ?_
            refine ev_iconst_0 dX10_direction_63 ?_
            refine ev_istore_7 dX10_direction_64 rfl rfl ?_
            have hA : dirA m s y = true := by
              simp_all [dirA]
            exact Ev.to (by rw [hA]; rfl) rfl rfl (c_mDir1_66 (m := m) (s := s) hm hd hl _ 0 rfl (Nat.zero_le _))
          · refine ev_iload_1 dX10_direction_44 ?_
            refine ev_bipush_16 dX10_direction_45 ?_
            refine ev_iand dX10_direction_47 ?_
            refine ev_if_eq (tgt := 60) dX10_direction_48 (by decide) (fun h48 => ?_) (fun h48 => ?_)
            · refine ev_iconst_0 dX10_direction_60 ?_
              refine ev_istore_6 dX10_direction_61 rfl rfl ?_
              refine ev_iconst_0 dX10_direction_63 ?_
              refine ev_istore_7 dX10_direction_64 rfl rfl ?_
              have hA : dirA m s y = false := by
                simp_all [dirA]
              exact Ev.to (by rw [hA]; rfl) rfl rfl (c_mDir1_66 (m := m) (s := s) hm hd hl _ 0 rfl (Nat.zero_le _))
            · refine ev_iload_4 dX10_direction_51 ?_
              refine ev_if_ne (tgt := 60) dX10_direction_53 (by decide) (fun h53 => ?_) (fun h53 => ?_)
              · refine ev_iconst_0 dX10_direction_60 ?_
                refine ev_istore_6 dX10_direction_61 rfl rfl ?_
                refine ev_iconst_0 dX10_direction_63 ?_
                refine ev_istore_7 dX10_direction_64 rfl rfl ?_
                have hA : dirA m s y = false := by
                  simp_all [dirA]
                exact Ev.to (by rw [hA]; rfl) rfl rfl (c_mDir1_66 (m := m) (s := s) hm hd hl _ 0 rfl (Nat.zero_le _))
              · refine ev_iconst_1 dX10_direction_56 ?_
                refine ev_goto (tgt := 61) dX10_direction_57 (by decide) ?_
                refine ev_istore_6 dX10_direction_61 rfl rfl ?_
                refine ev_iconst_0 dX10_direction_63 ?_
                refine ev_istore_7 dX10_direction_64 rfl rfl ?_
                have hA : dirA m s y = true := by
                  simp_all [dirA]
                exact Ev.to (by rw [hA]; rfl) rfl rfl (c_mDir1_66 (m := m) (s := s) hm hd hl _ 0 rfl (Nat.zero_le _))
      · refine ev_iload_5 dX10_direction_27 ?_
        refine ev_if_gt (tgt := 56) dX10_direction_29 (by decide) (fun h29 => ?_) (fun h29 => ?_)
        · refine ev_iconst_1 dX10_direction_56 ?_
          refine ev_goto (tgt := 61) dX10_direction_57 (by decide) ?_
          refine ev_istore_6 dX10_direction_61 rfl rfl ?_
          refine ev_iconst_0 dX10_direction_63 ?_
          refine ev_istore_7 dX10_direction_64 rfl rfl ?_
          have hA : dirA m s y = true := by
            simp_all [dirA]
          exact Ev.to (by rw [hA]; rfl) rfl rfl (c_mDir1_66 (m := m) (s := s) hm hd hl _ 0 rfl (Nat.zero_le _))
        · refine ev_iload_1 dX10_direction_32 ?_
          refine ev_bipush_8 dX10_direction_33 ?_
          refine ev_iand dX10_direction_35 ?_
          refine ev_if_eq (tgt := 44) dX10_direction_36 (by decide) (fun h36 => ?_) (fun h36 => ?_)
          · refine ev_iload_1 dX10_direction_44 ?_
            refine ev_bipush_16 dX10_direction_45 ?_
            refine ev_iand dX10_direction_47 ?_
            refine ev_if_eq (tgt := 60) dX10_direction_48 (by decide) (fun h48 => ?_) (fun h48 => ?_)
            · refine ev_iconst_0 dX10_direction_60 ?_
              refine ev_istore_6 dX10_direction_61 rfl rfl ?_
              refine ev_iconst_0 dX10_direction_63 ?_
              refine ev_istore_7 dX10_direction_64 rfl rfl ?_
              have hA : dirA m s y = false := by
                simp_all [dirA]
              exact Ev.to (by rw [hA]; rfl) rfl rfl (c_mDir1_66 (m := m) (s := s) hm hd hl _ 0 rfl (Nat.zero_le _))
            · refine ev_iload_4 dX10_direction_51 ?_
              refine ev_if_ne (tgt := 60) dX10_direction_53 (by decide) (fun h53 => ?_) (fun h53 => ?_)
              · refine ev_iconst_0 dX10_direction_60 ?_
                refine ev_istore_6 dX10_direction_61 rfl rfl ?_
                refine ev_iconst_0 dX10_direction_63 ?_
                refine ev_istore_7 dX10_direction_64 rfl rfl ?_
                have hA : dirA m s y = false := by
                  simp_all [dirA]
                exact Ev.to (by rw [hA]; rfl) rfl rfl (c_mDir1_66 (m := m) (s := s) hm hd hl _ 0 rfl (Nat.zero_le _))
              · refine ev_iconst_1 dX10_direction_56 ?_
                refine ev_goto (tgt := 61) dX10_direction_57 (by decide) ?_
                refine ev_istore_6 dX10_direction_61 rfl rfl ?_
                refine ev_iconst_0 dX10_direction_63 ?_
                refine ev_istore_7 dX10_direction_64 rfl rfl ?_
                have hA : dirA m s y = true := by
                  simp_all [dirA]
                exact Ev.to (by rw [hA]; rfl) rfl rfl (c_mDir1_66 (m := m) (s := s) hm hd hl _ 0 rfl (Nat.zero_le _))
          · refine ev_iload_5 dX10_direction_39 ?_
            refine ev_if_lt (tgt := 56) dX10_direction_41 (by decide) (fun h41 => ?_) (fun h41 => ?_)
            · refine ev_iconst_1 dX10_direction_56 ?_
              refine ev_goto (tgt := 61) dX10_direction_57 (by decide) ?_
              refine ev_istore_6 dX10_direction_61 rfl rfl ?_
              refine ev_iconst_0 dX10_direction_63 ?_
              refine ev_istore_7 dX10_direction_64 rfl rfl ?_
              have hA : dirA m s y = true := by
                simp_all [dirA]
              exact Ev.to (by rw [hA]; rfl) rfl rfl (c_mDir1_66 (m := m) (s := s) hm hd hl _ 0 rfl (Nat.zero_le _))
            · refine ev_iload_1 dX10_direction_44 ?_
              refine ev_bipush_16 dX10_direction_45 ?_
              refine ev_iand dX10_direction_47 ?_
              refine ev_if_eq (tgt := 60) dX10_direction_48 (by decide) (fun h48 => ?_) (fun h48 => ?_)
              · refine ev_iconst_0 dX10_direction_60 ?_
                refine ev_istore_6 dX10_direction_61 rfl rfl ?_
                refine ev_iconst_0 dX10_direction_63 ?_
                refine ev_istore_7 dX10_direction_64 rfl rfl ?_
                have hA : dirA m s y = false := by
                  simp_all [dirA]
                exact Ev.to (by rw [hA]; rfl) rfl rfl (c_mDir1_66 (m := m) (s := s) hm hd hl _ 0 rfl (Nat.zero_le _))
              · refine ev_iload_4 dX10_direction_51 ?_
                refine ev_if_ne (tgt := 60) dX10_direction_53 (by decide) (fun h53 => ?_) (fun h53 => ?_)
                · refine ev_iconst_0 dX10_direction_60 ?_
                  refine ev_istore_6 dX10_direction_61 rfl rfl ?_
                  refine ev_iconst_0 dX10_direction_63 ?_
                  refine ev_istore_7 dX10_direction_64 rfl rfl ?_
                  have hA : dirA m s y = false := by
                    simp_all [dirA]
                  exact Ev.to (by rw [hA]; rfl) rfl rfl (c_mDir1_66 (m := m) (s := s) hm hd hl _ 0 rfl (Nat.zero_le _))
                · refine ev_iconst_1 dX10_direction_56 ?_
                  refine ev_goto (tgt := 61) dX10_direction_57 (by decide) ?_
                  refine ev_istore_6 dX10_direction_61 rfl rfl ?_
                  refine ev_iconst_0 dX10_direction_63 ?_
                  refine ev_istore_7 dX10_direction_64 rfl rfl ?_
                  have hA : dirA m s y = true := by
                    simp_all [dirA]
                  exact Ev.to (by rw [hA]; rfl) rfl rfl (c_mDir1_66 (m := m) (s := s) hm hd hl _ 0 rfl (Nat.zero_le _))
theorem dl_len {σ : mSt} {m s x y : Int32} {L : List (Int32 × Int32)} {k : Nat} (_h : dlR σ (dir1 m s L x y)) (h : L.length ≤ k) : (dir1 m s L x y).length ≤ k + 1 := Nat.le_trans (dir1_len m s L x y) (Nat.add_le_add_right h 1)
set_option maxRecDepth 100000 in
set_option maxHeartbeats 4000000 in
theorem c_mSteps {ae ad : Nat → Nat} {sh : mSh} {σ : mSt} (hm : mModel ad sh) {m s a b : Int32} {L : List (Int32 × Int32)} (hd0 : dlR σ L) (hl8 : L.length ≤ 8) : Ct yX10_steps cX10_steps 8 none 1 0 0 [.ref (ad 61), .int m, .int s, .int a, .int b] ae ad sh σ (mPv ad sh (fun σ' => dlR σ' (stpL m s a b L 4) ∧ frE σ σ')) := by
  refine Ct.ofL (own := RX10) (ini := false) (ls := [some (.ref (ad 61)), some (.int m), some (.int s), some (.int a), some (.int b), none, none, none]) (by decide +kernel) rfl (fun h => by cases h) (Nat.le_of_ble_eq_true rfl) rfl ?_
  have hd := hd0
  have hf : frE σ σ := frE.rf
  have hl : L.length ≤ L.length + 0 := Nat.le_refl _
  refine ev_iconst_0 dX10_steps_0 ?_
  refine ev_istore_5 dX10_steps_1 rfl rfl ?_
  refine ev_iload_5 dX10_steps_3 ?_
  refine ev_iconst_4 dX10_steps_5 ?_
  refine ev_icmp_ge (tgt := 66) dX10_steps_6 (by decide) (fun h6 => absurd h6 (by decide)) (fun h6 => ?_)
  refine ev_iload_5 dX10_steps_9 ?_
  refine ev_iconst_2 dX10_steps_11 ?_
  refine ev_irem dX10_steps_12 (by decide) ?_
  rw [show (0 : Int32) - 0 / 2 * 2 = 0 from by decide]
  refine ev_if_ne (tgt := 20) dX10_steps_13 (by decide) (fun h13 => absurd h13 (by decide)) (fun h13 => ?_)
  refine ev_iload_3 dX10_steps_16 ?_
  refine ev_goto (tgt := 22) dX10_steps_17 (by decide) ?_
  refine ev_istore_6 dX10_steps_22 rfl rfl ?_
  refine ev_iload_5 dX10_steps_24 ?_
  refine ev_iconst_2 dX10_steps_26 ?_
  refine ev_icmp_ge (tgt := 35) dX10_steps_27 (by decide) (fun h27 => absurd h27 (by decide)) (fun h27 => ?_)
  refine ev_iload_4 dX10_steps_30 ?_
  refine ev_goto (tgt := 38) dX10_steps_32 (by decide) ?_
  refine ev_istore_7 dX10_steps_38 rfl rfl ?_
  refine ev_aload_0 dX10_steps_40 ?_
  refine ev_iload_1 dX10_steps_41 ?_
  refine ev_iload_2 dX10_steps_42 ?_
  refine ev_iload_6 dX10_steps_43 ?_
  refine ev_iload_7 dX10_steps_45 ?_
  refine cg_X10_162 (c_mDir1 hm hd (by omega)) hm.1 dX10_steps_47 rfl (Nat.le_of_ble_eq_true rfl) (fun σd hd => ?_)
  obtain ⟨hd, hf1⟩ := hd
  have hf := hf.tr hf1
  have hl := dl_len hd hl
  refine ev_aload_0 dX10_steps_50 ?_
  refine ev_iload_1 dX10_steps_51 ?_
  refine ev_iload_2 dX10_steps_52 ?_
  refine ev_iload_7 dX10_steps_53 ?_
  refine ev_iload_6 dX10_steps_55 ?_
  refine cg_X10_162 (c_mDir1 hm hd (by omega)) hm.1 dX10_steps_57 rfl (Nat.le_of_ble_eq_true rfl) (fun σd hd => ?_)
  obtain ⟨hd, hf1⟩ := hd
  have hf := hf.tr hf1
  have hl := dl_len hd hl
  refine ev_iinc_5 (v := 1) dX10_steps_60 (by decide) rfl rfl ?_
  rw [show (0 : Int32) + (1) = 1 from rfl]
  refine ev_goto (tgt := 3) dX10_steps_63 (by decide) ?_
  refine ev_iload_5 dX10_steps_3 ?_
  refine ev_iconst_4 dX10_steps_5 ?_
  refine ev_icmp_ge (tgt := 66) dX10_steps_6 (by decide) (fun h6 => absurd h6 (by decide)) (fun h6 => ?_)
  refine ev_iload_5 dX10_steps_9 ?_
  refine ev_iconst_2 dX10_steps_11 ?_
  refine ev_irem dX10_steps_12 (by decide) ?_
  rw [show (1 : Int32) - 1 / 2 * 2 = 1 from by decide]
  refine ev_if_ne (tgt := 20) dX10_steps_13 (by decide) (fun h13 => ?_) (fun h13 => (by exfalso; revert h13; decide))
  refine ev_iload_3 dX10_steps_20 ?_
  refine ev_ineg dX10_steps_21 ?_
  refine ev_istore_6 dX10_steps_22 rfl rfl ?_
  refine ev_iload_5 dX10_steps_24 ?_
  refine ev_iconst_2 dX10_steps_26 ?_
  refine ev_icmp_ge (tgt := 35) dX10_steps_27 (by decide) (fun h27 => absurd h27 (by decide)) (fun h27 => ?_)
  refine ev_iload_4 dX10_steps_30 ?_
  refine ev_goto (tgt := 38) dX10_steps_32 (by decide) ?_
  refine ev_istore_7 dX10_steps_38 rfl rfl ?_
  refine ev_aload_0 dX10_steps_40 ?_
  refine ev_iload_1 dX10_steps_41 ?_
  refine ev_iload_2 dX10_steps_42 ?_
  refine ev_iload_6 dX10_steps_43 ?_
  refine ev_iload_7 dX10_steps_45 ?_
  refine cg_X10_162 (c_mDir1 hm hd (by omega)) hm.1 dX10_steps_47 rfl (Nat.le_of_ble_eq_true rfl) (fun σd hd => ?_)
  obtain ⟨hd, hf1⟩ := hd
  have hf := hf.tr hf1
  have hl := dl_len hd hl
  refine ev_aload_0 dX10_steps_50 ?_
  refine ev_iload_1 dX10_steps_51 ?_
  refine ev_iload_2 dX10_steps_52 ?_
  refine ev_iload_7 dX10_steps_53 ?_
  refine ev_iload_6 dX10_steps_55 ?_
  refine cg_X10_162 (c_mDir1 hm hd (by omega)) hm.1 dX10_steps_57 rfl (Nat.le_of_ble_eq_true rfl) (fun σd hd => ?_)
  obtain ⟨hd, hf1⟩ := hd
  have hf := hf.tr hf1
  have hl := dl_len hd hl
  refine ev_iinc_5 (v := 1) dX10_steps_60 (by decide) rfl rfl ?_
  rw [show (1 : Int32) + (1) = 2 from rfl]
  refine ev_goto (tgt := 3) dX10_steps_63 (by decide) ?_
  refine ev_iload_5 dX10_steps_3 ?_
  refine ev_iconst_4 dX10_steps_5 ?_
  refine ev_icmp_ge (tgt := 66) dX10_steps_6 (by decide) (fun h6 => absurd h6 (by decide)) (fun h6 => ?_)
  refine ev_iload_5 dX10_steps_9 ?_
  refine ev_iconst_2 dX10_steps_11 ?_
  refine ev_irem dX10_steps_12 (by decide) ?_
  rw [show (2 : Int32) - 2 / 2 * 2 = 0 from by decide]
  refine ev_if_ne (tgt := 20) dX10_steps_13 (by decide) (fun h13 => absurd h13 (by decide)) (fun h13 => ?_)
  refine ev_iload_3 dX10_steps_16 ?_
  refine ev_goto (tgt := 22) dX10_steps_17 (by decide) ?_
  refine ev_istore_6 dX10_steps_22 rfl rfl ?_
  refine ev_iload_5 dX10_steps_24 ?_
  refine ev_iconst_2 dX10_steps_26 ?_
  refine ev_icmp_ge (tgt := 35) dX10_steps_27 (by decide) (fun h27 => ?_) (fun h27 => (by exfalso; revert h27; decide))
  refine ev_iload_4 dX10_steps_35 ?_
  refine ev_ineg dX10_steps_37 ?_
  refine ev_istore_7 dX10_steps_38 rfl rfl ?_
  refine ev_aload_0 dX10_steps_40 ?_
  refine ev_iload_1 dX10_steps_41 ?_
  refine ev_iload_2 dX10_steps_42 ?_
  refine ev_iload_6 dX10_steps_43 ?_
  refine ev_iload_7 dX10_steps_45 ?_
  refine cg_X10_162 (c_mDir1 hm hd (by omega)) hm.1 dX10_steps_47 rfl (Nat.le_of_ble_eq_true rfl) (fun σd hd => ?_)
  obtain ⟨hd, hf1⟩ := hd
  have hf := hf.tr hf1
  have hl := dl_len hd hl
  refine ev_aload_0 dX10_steps_50 ?_
  refine ev_iload_1 dX10_steps_51 ?_
  refine ev_iload_2 dX10_steps_52 ?_
  refine ev_iload_7 dX10_steps_53 ?_
  refine ev_iload_6 dX10_steps_55 ?_
  refine cg_X10_162 (c_mDir1 hm hd (by omega)) hm.1 dX10_steps_57 rfl (Nat.le_of_ble_eq_true rfl) (fun σd hd => ?_)
  obtain ⟨hd, hf1⟩ := hd
  have hf := hf.tr hf1
  have hl := dl_len hd hl
  refine ev_iinc_5 (v := 1) dX10_steps_60 (by decide) rfl rfl ?_
  rw [show (2 : Int32) + (1) = 3 from rfl]
  refine ev_goto (tgt := 3) dX10_steps_63 (by decide) ?_
  refine ev_iload_5 dX10_steps_3 ?_
  refine ev_iconst_4 dX10_steps_5 ?_
  refine ev_icmp_ge (tgt := 66) dX10_steps_6 (by decide) (fun h6 => absurd h6 (by decide)) (fun h6 => ?_)
  refine ev_iload_5 dX10_steps_9 ?_
  refine ev_iconst_2 dX10_steps_11 ?_
  refine ev_irem dX10_steps_12 (by decide) ?_
  rw [show (3 : Int32) - 3 / 2 * 2 = 1 from by decide]
  refine ev_if_ne (tgt := 20) dX10_steps_13 (by decide) (fun h13 => ?_) (fun h13 => (by exfalso; revert h13; decide))
  refine ev_iload_3 dX10_steps_20 ?_
  refine ev_ineg dX10_steps_21 ?_
  refine ev_istore_6 dX10_steps_22 rfl rfl ?_
  refine ev_iload_5 dX10_steps_24 ?_
  refine ev_iconst_2 dX10_steps_26 ?_
  refine ev_icmp_ge (tgt := 35) dX10_steps_27 (by decide) (fun h27 => ?_) (fun h27 => (by exfalso; revert h27; decide))
  refine ev_iload_4 dX10_steps_35 ?_
  refine ev_ineg dX10_steps_37 ?_
  refine ev_istore_7 dX10_steps_38 rfl rfl ?_
  refine ev_aload_0 dX10_steps_40 ?_
  refine ev_iload_1 dX10_steps_41 ?_
  refine ev_iload_2 dX10_steps_42 ?_
  refine ev_iload_6 dX10_steps_43 ?_
  refine ev_iload_7 dX10_steps_45 ?_
  refine cg_X10_162 (c_mDir1 hm hd (by omega)) hm.1 dX10_steps_47 rfl (Nat.le_of_ble_eq_true rfl) (fun σd hd => ?_)
  obtain ⟨hd, hf1⟩ := hd
  have hf := hf.tr hf1
  have hl := dl_len hd hl
  refine ev_aload_0 dX10_steps_50 ?_
  refine ev_iload_1 dX10_steps_51 ?_
  refine ev_iload_2 dX10_steps_52 ?_
  refine ev_iload_7 dX10_steps_53 ?_
  refine ev_iload_6 dX10_steps_55 ?_
  refine cg_X10_162 (c_mDir1 hm hd (by omega)) hm.1 dX10_steps_57 rfl (Nat.le_of_ble_eq_true rfl) (fun σd hd => ?_)
  obtain ⟨hd, hf1⟩ := hd
  have hf := hf.tr hf1
  have hl := dl_len hd hl
  refine ev_iinc_5 (v := 1) dX10_steps_60 (by decide) rfl rfl ?_
  rw [show (3 : Int32) + (1) = 4 from rfl]
  refine ev_goto (tgt := 3) dX10_steps_63 (by decide) ?_
  refine ev_iload_5 dX10_steps_3 ?_
  refine ev_iconst_4 dX10_steps_5 ?_
  refine ev_icmp_ge (tgt := 66) dX10_steps_6 (by decide) (fun h6 => ?_) (fun h6 => (by exfalso; revert h6; decide))
  exact ev_pv dX10_steps_66 ⟨by simpa [stpL, stp1] using hd, hf⟩
set_option maxRecDepth 100000 in
set_option maxHeartbeats 4000000 in
theorem c_mDirs0 {ae ad : Nat → Nat} {sh : mSh} {σ : mSt} (hm : mModel ad sh) {g : Nat → Int32} {j : Nat} {s : Int32} (hg : σ.1 62 = g) (hj : j + 1 < 2369) (ha : g (j + 1) = 0) : Ct yX10_directions cX10_directions 4 none 2 0 0 [.ref (ad 61), .int (nI j), .int s] ae ad sh σ (mPv ad sh (fun σ' => dlR σ' (dirL 0 (g j) s) ∧ frE σ σ')) := by
  refine Ct.ofL (own := RX10) (ini := false) (ls := [some (.ref (ad 61)), some (.int (nI j)), some (.int s), none]) (by decide +kernel) rfl (fun h => by cases h) (Nat.le_of_ble_eq_true rfl) rfl ?_
  refine ev_aload_0 dX10_directions_0 ?_
  refine ev_iconst_0 dX10_directions_1 ?_
  refine pf_X10_159 dX10_directions_2 hm.1 rfl ?_
  refine ev_abs (fun σ2 hw2 hf2 hl2 => ?_)
  have znow_2 := (hf2 62 (by decide)).trans hg
  have hd : dlR σ2 [] := ⟨by rw [hw2, upd_at]; rfl, by decide, fun i q h => by simp at h⟩
  have hf : frE σ σ2 := ⟨fun j x61 _ _ => hf2 j x61, fun k hk => by rw [hw2, upd_ne hk], hl2⟩
  refine ev_aload_0 dX10_directions_5 ?_
  refine gf_X10_11 dX10_directions_6 hm.1 rfl ?_
  refine ev_iload_1 dX10_directions_9 ?_
  refine ev_ldk (k := j) hm.2.1 znow_2 rfl (by omega) (by decide) dX10_directions_10 ?_
  refine ev_istore_3 dX10_directions_11 rfl rfl ?_
  refine ev_aload_0 dX10_directions_12 ?_
  refine gf_X10_11 dX10_directions_13 hm.1 rfl ?_
  refine ev_iload_1 dX10_directions_16 ?_
  refine ev_iconst_1 dX10_directions_17 ?_
  refine ev_iadd dX10_directions_18 ?_
  rw [show nI j + (1 : Int32) = nI (j + 1) from nI_add (j) (1)]
  refine ev_ldk (k := j + 1) hm.2.1 znow_2 rfl (by omega) (by decide) dX10_directions_19 ?_
  rw [ha]
  refine ev_tableIn (off := 40) (tgt := 60) dX10_directions_20 (by decide) (by decide) (by decide) (by decide) ?_
  refine ev_aload_0 dX10_directions_60 ?_
  refine ev_iload_3 dX10_directions_61 ?_
  refine ev_iload_2 dX10_directions_62 ?_
  refine ev_iconst_0 dX10_directions_63 ?_
  refine ev_iconst_1 dX10_directions_64 ?_
  refine cg_X10_166 (c_mSteps hm (L := []) hd (Nat.zero_le _)) hm.1 dX10_directions_65 rfl (Nat.le_of_ble_eq_true rfl) (fun σd hd => ?_)
  obtain ⟨hd, hf1⟩ := hd
  have hf := hf.tr hf1
  refine ev_goto (tgt := 142) dX10_directions_68 (by decide) ?_
  exact ev_pv dX10_directions_142 ⟨by simpa [dirL] using hd, hf⟩
set_option maxRecDepth 100000 in
set_option maxHeartbeats 4000000 in
theorem c_mDirs1 {ae ad : Nat → Nat} {sh : mSh} {σ : mSt} (hm : mModel ad sh) {g : Nat → Int32} {j : Nat} {s : Int32} (hg : σ.1 62 = g) (hj : j + 1 < 2369) (ha : g (j + 1) = 1) : Ct yX10_directions cX10_directions 4 none 2 0 0 [.ref (ad 61), .int (nI j), .int s] ae ad sh σ (mPv ad sh (fun σ' => dlR σ' (dirL 1 (g j) s) ∧ frE σ σ')) := by
  refine Ct.ofL (own := RX10) (ini := false) (ls := [some (.ref (ad 61)), some (.int (nI j)), some (.int s), none]) (by decide +kernel) rfl (fun h => by cases h) (Nat.le_of_ble_eq_true rfl) rfl ?_
  refine ev_aload_0 dX10_directions_0 ?_
  refine ev_iconst_0 dX10_directions_1 ?_
  refine pf_X10_159 dX10_directions_2 hm.1 rfl ?_
  refine ev_abs (fun σ2 hw2 hf2 hl2 => ?_)
  have znow_2 := (hf2 62 (by decide)).trans hg
  have hd : dlR σ2 [] := ⟨by rw [hw2, upd_at]; rfl, by decide, fun i q h => by simp at h⟩
  have hf : frE σ σ2 := ⟨fun j x61 _ _ => hf2 j x61, fun k hk => by rw [hw2, upd_ne hk], hl2⟩
  refine ev_aload_0 dX10_directions_5 ?_
  refine gf_X10_11 dX10_directions_6 hm.1 rfl ?_
  refine ev_iload_1 dX10_directions_9 ?_
  refine ev_ldk (k := j) hm.2.1 znow_2 rfl (by omega) (by decide) dX10_directions_10 ?_
  refine ev_istore_3 dX10_directions_11 rfl rfl ?_
  refine ev_aload_0 dX10_directions_12 ?_
  refine gf_X10_11 dX10_directions_13 hm.1 rfl ?_
  refine ev_iload_1 dX10_directions_16 ?_
  refine ev_iconst_1 dX10_directions_17 ?_
  refine ev_iadd dX10_directions_18 ?_
  rw [show nI j + (1 : Int32) = nI (j + 1) from nI_add (j) (1)]
  refine ev_ldk (k := j + 1) hm.2.1 znow_2 rfl (by omega) (by decide) dX10_directions_19 ?_
  rw [ha]
  refine ev_tableIn (off := 51) (tgt := 71) dX10_directions_20 (by decide) (by decide) (by decide) (by decide) ?_
  refine ev_aload_0 dX10_directions_71 ?_
  refine ev_iload_3 dX10_directions_72 ?_
  refine ev_iload_2 dX10_directions_73 ?_
  refine ev_iconst_1 dX10_directions_74 ?_
  refine ev_iconst_1 dX10_directions_75 ?_
  refine cg_X10_166 (c_mSteps hm (L := []) hd (Nat.zero_le _)) hm.1 dX10_directions_76 rfl (Nat.le_of_ble_eq_true rfl) (fun σd hd => ?_)
  obtain ⟨hd, hf1⟩ := hd
  have hf := hf.tr hf1
  refine ev_goto (tgt := 142) dX10_directions_79 (by decide) ?_
  exact ev_pv dX10_directions_142 ⟨by simpa [dirL] using hd, hf⟩
set_option maxRecDepth 100000 in
set_option maxHeartbeats 4000000 in
theorem c_mDirs2 {ae ad : Nat → Nat} {sh : mSh} {σ : mSt} (hm : mModel ad sh) {g : Nat → Int32} {j : Nat} {s : Int32} (hg : σ.1 62 = g) (hj : j + 1 < 2369) (ha : g (j + 1) = 2) : Ct yX10_directions cX10_directions 4 none 2 0 0 [.ref (ad 61), .int (nI j), .int s] ae ad sh σ (mPv ad sh (fun σ' => dlR σ' (dirL 2 (g j) s) ∧ frE σ σ')) := by
  refine Ct.ofL (own := RX10) (ini := false) (ls := [some (.ref (ad 61)), some (.int (nI j)), some (.int s), none]) (by decide +kernel) rfl (fun h => by cases h) (Nat.le_of_ble_eq_true rfl) rfl ?_
  refine ev_aload_0 dX10_directions_0 ?_
  refine ev_iconst_0 dX10_directions_1 ?_
  refine pf_X10_159 dX10_directions_2 hm.1 rfl ?_
  refine ev_abs (fun σ2 hw2 hf2 hl2 => ?_)
  have znow_2 := (hf2 62 (by decide)).trans hg
  have hd : dlR σ2 [] := ⟨by rw [hw2, upd_at]; rfl, by decide, fun i q h => by simp at h⟩
  have hf : frE σ σ2 := ⟨fun j x61 _ _ => hf2 j x61, fun k hk => by rw [hw2, upd_ne hk], hl2⟩
  refine ev_aload_0 dX10_directions_5 ?_
  refine gf_X10_11 dX10_directions_6 hm.1 rfl ?_
  refine ev_iload_1 dX10_directions_9 ?_
  refine ev_ldk (k := j) hm.2.1 znow_2 rfl (by omega) (by decide) dX10_directions_10 ?_
  refine ev_istore_3 dX10_directions_11 rfl rfl ?_
  refine ev_aload_0 dX10_directions_12 ?_
  refine gf_X10_11 dX10_directions_13 hm.1 rfl ?_
  refine ev_iload_1 dX10_directions_16 ?_
  refine ev_iconst_1 dX10_directions_17 ?_
  refine ev_iadd dX10_directions_18 ?_
  rw [show nI j + (1 : Int32) = nI (j + 1) from nI_add (j) (1)]
  refine ev_ldk (k := j + 1) hm.2.1 znow_2 rfl (by omega) (by decide) dX10_directions_19 ?_
  rw [ha]
  refine ev_tableIn (off := 62) (tgt := 82) dX10_directions_20 (by decide) (by decide) (by decide) (by decide) ?_
  refine ev_aload_0 dX10_directions_82 ?_
  refine ev_iload_3 dX10_directions_83 ?_
  refine ev_iload_2 dX10_directions_84 ?_
  refine ev_iconst_0 dX10_directions_85 ?_
  refine ev_iconst_2 dX10_directions_86 ?_
  refine cg_X10_166 (c_mSteps hm (L := []) hd (Nat.zero_le _)) hm.1 dX10_directions_87 rfl (Nat.le_of_ble_eq_true rfl) (fun σd hd => ?_)
  obtain ⟨hd, hf1⟩ := hd
  have hf := hf.tr hf1
  refine ev_goto (tgt := 142) dX10_directions_90 (by decide) ?_
  exact ev_pv dX10_directions_142 ⟨by simpa [dirL] using hd, hf⟩
set_option maxRecDepth 100000 in
set_option maxHeartbeats 4000000 in
theorem c_mDirs3 {ae ad : Nat → Nat} {sh : mSh} {σ : mSt} (hm : mModel ad sh) {g : Nat → Int32} {j : Nat} {s : Int32} (hg : σ.1 62 = g) (hj : j + 1 < 2369) (ha : g (j + 1) = 3) : Ct yX10_directions cX10_directions 4 none 2 0 0 [.ref (ad 61), .int (nI j), .int s] ae ad sh σ (mPv ad sh (fun σ' => dlR σ' (dirL 3 (g j) s) ∧ frE σ σ')) := by
  refine Ct.ofL (own := RX10) (ini := false) (ls := [some (.ref (ad 61)), some (.int (nI j)), some (.int s), none]) (by decide +kernel) rfl (fun h => by cases h) (Nat.le_of_ble_eq_true rfl) rfl ?_
  refine ev_aload_0 dX10_directions_0 ?_
  refine ev_iconst_0 dX10_directions_1 ?_
  refine pf_X10_159 dX10_directions_2 hm.1 rfl ?_
  refine ev_abs (fun σ2 hw2 hf2 hl2 => ?_)
  have znow_2 := (hf2 62 (by decide)).trans hg
  have hd : dlR σ2 [] := ⟨by rw [hw2, upd_at]; rfl, by decide, fun i q h => by simp at h⟩
  have hf : frE σ σ2 := ⟨fun j x61 _ _ => hf2 j x61, fun k hk => by rw [hw2, upd_ne hk], hl2⟩
  refine ev_aload_0 dX10_directions_5 ?_
  refine gf_X10_11 dX10_directions_6 hm.1 rfl ?_
  refine ev_iload_1 dX10_directions_9 ?_
  refine ev_ldk (k := j) hm.2.1 znow_2 rfl (by omega) (by decide) dX10_directions_10 ?_
  refine ev_istore_3 dX10_directions_11 rfl rfl ?_
  refine ev_aload_0 dX10_directions_12 ?_
  refine gf_X10_11 dX10_directions_13 hm.1 rfl ?_
  refine ev_iload_1 dX10_directions_16 ?_
  refine ev_iconst_1 dX10_directions_17 ?_
  refine ev_iadd dX10_directions_18 ?_
  rw [show nI j + (1 : Int32) = nI (j + 1) from nI_add (j) (1)]
  refine ev_ldk (k := j + 1) hm.2.1 znow_2 rfl (by omega) (by decide) dX10_directions_19 ?_
  rw [ha]
  refine ev_tableIn (off := 73) (tgt := 93) dX10_directions_20 (by decide) (by decide) (by decide) (by decide) ?_
  refine ev_aload_0 dX10_directions_93 ?_
  refine ev_iload_3 dX10_directions_94 ?_
  refine ev_iload_2 dX10_directions_95 ?_
  refine ev_iconst_1 dX10_directions_96 ?_
  refine ev_iconst_2 dX10_directions_97 ?_
  refine cg_X10_166 (c_mSteps hm (L := []) hd (Nat.zero_le _)) hm.1 dX10_directions_98 rfl (Nat.le_of_ble_eq_true rfl) (fun σd hd => ?_)
  obtain ⟨hd, hf1⟩ := hd
  have hf := hf.tr hf1
  refine ev_goto (tgt := 142) dX10_directions_101 (by decide) ?_
  exact ev_pv dX10_directions_142 ⟨by simpa [dirL] using hd, hf⟩
set_option maxRecDepth 100000 in
set_option maxHeartbeats 4000000 in
theorem c_mDirs4 {ae ad : Nat → Nat} {sh : mSh} {σ : mSt} (hm : mModel ad sh) {g : Nat → Int32} {j : Nat} {s : Int32} (hg : σ.1 62 = g) (hj : j + 1 < 2369) (ha : g (j + 1) = 4) : Ct yX10_directions cX10_directions 4 none 2 0 0 [.ref (ad 61), .int (nI j), .int s] ae ad sh σ (mPv ad sh (fun σ' => dlR σ' (dirL 4 (g j) s) ∧ frE σ σ')) := by
  refine Ct.ofL (own := RX10) (ini := false) (ls := [some (.ref (ad 61)), some (.int (nI j)), some (.int s), none]) (by decide +kernel) rfl (fun h => by cases h) (Nat.le_of_ble_eq_true rfl) rfl ?_
  refine ev_aload_0 dX10_directions_0 ?_
  refine ev_iconst_0 dX10_directions_1 ?_
  refine pf_X10_159 dX10_directions_2 hm.1 rfl ?_
  refine ev_abs (fun σ2 hw2 hf2 hl2 => ?_)
  have znow_2 := (hf2 62 (by decide)).trans hg
  have hd : dlR σ2 [] := ⟨by rw [hw2, upd_at]; rfl, by decide, fun i q h => by simp at h⟩
  have hf : frE σ σ2 := ⟨fun j x61 _ _ => hf2 j x61, fun k hk => by rw [hw2, upd_ne hk], hl2⟩
  refine ev_aload_0 dX10_directions_5 ?_
  refine gf_X10_11 dX10_directions_6 hm.1 rfl ?_
  refine ev_iload_1 dX10_directions_9 ?_
  refine ev_ldk (k := j) hm.2.1 znow_2 rfl (by omega) (by decide) dX10_directions_10 ?_
  refine ev_istore_3 dX10_directions_11 rfl rfl ?_
  refine ev_aload_0 dX10_directions_12 ?_
  refine gf_X10_11 dX10_directions_13 hm.1 rfl ?_
  refine ev_iload_1 dX10_directions_16 ?_
  refine ev_iconst_1 dX10_directions_17 ?_
  refine ev_iadd dX10_directions_18 ?_
  rw [show nI j + (1 : Int32) = nI (j + 1) from nI_add (j) (1)]
  refine ev_ldk (k := j + 1) hm.2.1 znow_2 rfl (by omega) (by decide) dX10_directions_19 ?_
  rw [ha]
  refine ev_tableIn (off := 84) (tgt := 104) dX10_directions_20 (by decide) (by decide) (by decide) (by decide) ?_
  refine ev_aload_0 dX10_directions_104 ?_
  refine ev_iload_3 dX10_directions_105 ?_
  refine ev_iload_2 dX10_directions_106 ?_
  refine ev_iconst_2 dX10_directions_107 ?_
  refine ev_iconst_2 dX10_directions_108 ?_
  refine cg_X10_166 (c_mSteps hm (L := []) hd (Nat.zero_le _)) hm.1 dX10_directions_109 rfl (Nat.le_of_ble_eq_true rfl) (fun σd hd => ?_)
  obtain ⟨hd, hf1⟩ := hd
  have hf := hf.tr hf1
  refine ev_goto (tgt := 142) dX10_directions_112 (by decide) ?_
  exact ev_pv dX10_directions_142 ⟨by simpa [dirL] using hd, hf⟩
set_option maxRecDepth 100000 in
set_option maxHeartbeats 4000000 in
theorem c_mDirs5 {ae ad : Nat → Nat} {sh : mSh} {σ : mSt} (hm : mModel ad sh) {g : Nat → Int32} {j : Nat} {s : Int32} (hg : σ.1 62 = g) (hj : j + 1 < 2369) (ha : g (j + 1) = 5) : Ct yX10_directions cX10_directions 4 none 2 0 0 [.ref (ad 61), .int (nI j), .int s] ae ad sh σ (mPv ad sh (fun σ' => dlR σ' (dirL 5 (g j) s) ∧ frE σ σ')) := by
  refine Ct.ofL (own := RX10) (ini := false) (ls := [some (.ref (ad 61)), some (.int (nI j)), some (.int s), none]) (by decide +kernel) rfl (fun h => by cases h) (Nat.le_of_ble_eq_true rfl) rfl ?_
  refine ev_aload_0 dX10_directions_0 ?_
  refine ev_iconst_0 dX10_directions_1 ?_
  refine pf_X10_159 dX10_directions_2 hm.1 rfl ?_
  refine ev_abs (fun σ2 hw2 hf2 hl2 => ?_)
  have znow_2 := (hf2 62 (by decide)).trans hg
  have hd : dlR σ2 [] := ⟨by rw [hw2, upd_at]; rfl, by decide, fun i q h => by simp at h⟩
  have hf : frE σ σ2 := ⟨fun j x61 _ _ => hf2 j x61, fun k hk => by rw [hw2, upd_ne hk], hl2⟩
  refine ev_aload_0 dX10_directions_5 ?_
  refine gf_X10_11 dX10_directions_6 hm.1 rfl ?_
  refine ev_iload_1 dX10_directions_9 ?_
  refine ev_ldk (k := j) hm.2.1 znow_2 rfl (by omega) (by decide) dX10_directions_10 ?_
  refine ev_istore_3 dX10_directions_11 rfl rfl ?_
  refine ev_aload_0 dX10_directions_12 ?_
  refine gf_X10_11 dX10_directions_13 hm.1 rfl ?_
  refine ev_iload_1 dX10_directions_16 ?_
  refine ev_iconst_1 dX10_directions_17 ?_
  refine ev_iadd dX10_directions_18 ?_
  rw [show nI j + (1 : Int32) = nI (j + 1) from nI_add (j) (1)]
  refine ev_ldk (k := j + 1) hm.2.1 znow_2 rfl (by omega) (by decide) dX10_directions_19 ?_
  rw [ha]
  refine ev_tableIn (off := 95) (tgt := 115) dX10_directions_20 (by decide) (by decide) (by decide) (by decide) ?_
  refine ev_aload_0 dX10_directions_115 ?_
  refine ev_iload_3 dX10_directions_116 ?_
  refine ev_iload_2 dX10_directions_117 ?_
  refine ev_iconst_1 dX10_directions_118 ?_
  refine ev_iconst_3 dX10_directions_119 ?_
  refine cg_X10_166 (c_mSteps hm (L := []) hd (Nat.zero_le _)) hm.1 dX10_directions_120 rfl (Nat.le_of_ble_eq_true rfl) (fun σd hd => ?_)
  obtain ⟨hd, hf1⟩ := hd
  have hf := hf.tr hf1
  refine ev_goto (tgt := 142) dX10_directions_123 (by decide) ?_
  exact ev_pv dX10_directions_142 ⟨by simpa [dirL] using hd, hf⟩
set_option maxRecDepth 100000 in
set_option maxHeartbeats 4000000 in
theorem c_mDirs6 {ae ad : Nat → Nat} {sh : mSh} {σ : mSt} (hm : mModel ad sh) {g : Nat → Int32} {j : Nat} {s : Int32} (hg : σ.1 62 = g) (hj : j + 1 < 2369) (ha : g (j + 1) = 6) : Ct yX10_directions cX10_directions 4 none 2 0 0 [.ref (ad 61), .int (nI j), .int s] ae ad sh σ (mPv ad sh (fun σ' => dlR σ' (dirL 6 (g j) s) ∧ frE σ σ')) := by
  refine Ct.ofL (own := RX10) (ini := false) (ls := [some (.ref (ad 61)), some (.int (nI j)), some (.int s), none]) (by decide +kernel) rfl (fun h => by cases h) (Nat.le_of_ble_eq_true rfl) rfl ?_
  refine ev_aload_0 dX10_directions_0 ?_
  refine ev_iconst_0 dX10_directions_1 ?_
  refine pf_X10_159 dX10_directions_2 hm.1 rfl ?_
  refine ev_abs (fun σ2 hw2 hf2 hl2 => ?_)
  have znow_2 := (hf2 62 (by decide)).trans hg
  have hd : dlR σ2 [] := ⟨by rw [hw2, upd_at]; rfl, by decide, fun i q h => by simp at h⟩
  have hf : frE σ σ2 := ⟨fun j x61 _ _ => hf2 j x61, fun k hk => by rw [hw2, upd_ne hk], hl2⟩
  refine ev_aload_0 dX10_directions_5 ?_
  refine gf_X10_11 dX10_directions_6 hm.1 rfl ?_
  refine ev_iload_1 dX10_directions_9 ?_
  refine ev_ldk (k := j) hm.2.1 znow_2 rfl (by omega) (by decide) dX10_directions_10 ?_
  refine ev_istore_3 dX10_directions_11 rfl rfl ?_
  refine ev_aload_0 dX10_directions_12 ?_
  refine gf_X10_11 dX10_directions_13 hm.1 rfl ?_
  refine ev_iload_1 dX10_directions_16 ?_
  refine ev_iconst_1 dX10_directions_17 ?_
  refine ev_iadd dX10_directions_18 ?_
  rw [show nI j + (1 : Int32) = nI (j + 1) from nI_add (j) (1)]
  refine ev_ldk (k := j + 1) hm.2.1 znow_2 rfl (by omega) (by decide) dX10_directions_19 ?_
  rw [ha]
  refine ev_tableOut (tgt := 126) dX10_directions_20 (by decide) (by decide) ?_
  refine ev_aload_0 dX10_directions_126 ?_
  refine ev_iload_3 dX10_directions_127 ?_
  refine ev_iload_2 dX10_directions_128 ?_
  refine ev_iconst_0 dX10_directions_129 ?_
  refine ev_iconst_1 dX10_directions_130 ?_
  refine cg_X10_166 (c_mSteps hm (L := []) hd (Nat.zero_le _)) hm.1 dX10_directions_131 rfl (Nat.le_of_ble_eq_true rfl) (fun σd hd => ?_)
  obtain ⟨hd, hf1⟩ := hd
  have hf := hf.tr hf1
  refine ev_aload_0 dX10_directions_134 ?_
  refine ev_iload_3 dX10_directions_135 ?_
  refine ev_iload_2 dX10_directions_136 ?_
  refine ev_iconst_1 dX10_directions_137 ?_
  refine ev_iconst_1 dX10_directions_138 ?_
  refine cg_X10_166 (c_mSteps hm (L := (stpL (g j) s 0 1 [] 4)) hd (stpL_len _ _ _ _ _ 4)) hm.1 dX10_directions_139 rfl (Nat.le_of_ble_eq_true rfl) (fun σd hd => ?_)
  obtain ⟨hd, hf1⟩ := hd
  have hf := hf.tr hf1
  exact ev_pv dX10_directions_142 ⟨by simpa [dirL] using hd, hf⟩
theorem c_mDirs {ae ad : Nat → Nat} {sh : mSh} {σ : mSt} (hm : mModel ad sh) {g : Nat → Int32} {j a : Nat} {s : Int32} (hg : σ.1 62 = g) (hj : j + 1 < 2369) (ha : g (j + 1) = nI a) (ha7 : a < 7) : Ct yX10_directions cX10_directions 4 none 2 0 0 [.ref (ad 61), .int (nI j), .int s] ae ad sh σ (mPv ad sh (fun σ' => dlR σ' (dirL a (g j) s) ∧ frE σ σ')) := by
  rcases (show a = 0 ∨ a = 1 ∨ a = 2 ∨ a = 3 ∨ a = 4 ∨ a = 5 ∨ a = 6 by omega) with e | e | e | e | e | e | e <;> subst e
  · exact c_mDirs0 hm hg hj ha
  · exact c_mDirs1 hm hg hj ha
  · exact c_mDirs2 hm hg hj ha
  · exact c_mDirs3 hm hg hj ha
  · exact c_mDirs4 hm hg hj ha
  · exact c_mDirs5 hm hg hj ha
  · exact c_mDirs6 hm hg hj ha
/-- the class's directions as a list -/
def clsL (a : Nat) (m s : Int32) : List (Int32 × Int32) := ((List.range (aEnd a - aStart a)).filter (fun n => bt (dirM a (markG m)) (aStart a + n))).map (fun n => (mSTEPX.getD (aStart a + n) 0, if s = 0 then mSTEPY.getD (aStart a + n) 0 else -(mSTEPY.getD (aStart a + n) 0)))
set_option maxRecDepth 100000 in
set_option maxHeartbeats 4000000 in
theorem dir_chk : ∀ a, a < 7 → ∀ m, m < 64 → ∀ s, s < 2 → ((dirL a (nI m) (nI s)).all (fun q => (clsL a (nI m) (nI s)).contains q) && (clsL a (nI m) (nI s)).all (fun q => (dirL a (nI m) (nI s)).contains q)) = true := by decide +kernel
set_option maxRecDepth 100000 in
set_option maxHeartbeats 4000000 in
theorem dir_cnt : ∀ a, a < 7 → ∀ m, m < 64 → popI (dirM a (markG (nI m))) = nI (dirL a (nI m) 0).length := by decide +kernel

