/-- what the reader has read -/
abbrev RS := Nat × (Nat → Int32) × (Nat → Int32) × (Nat → Int32) × Int32 × Bool × Bool
abbrev RS.n (s : RS) : Nat := s.1
abbrev RS.a (s : RS) : Nat → Int32 := s.2.1
abbrev RS.m (s : RS) : Nat → Int32 := s.2.2.1
abbrev RS.r (s : RS) : Nat → Int32 := s.2.2.2.1
abbrev RS.mk (s : RS) : Int32 := s.2.2.2.2.1
abbrev RS.ip (s : RS) : Bool := s.2.2.2.2.2.1
abbrev RS.dg (s : RS) : Bool := s.2.2.2.2.2.2
def mk3 (x : Int32) : Int32 := if x &&& 3 = 0 then (x ||| 1) ||| 2 else x
def chI (c : Int32) : Int32 := (c.toUInt32 % 65536).toInt32
def RS.dig (s : RS) (c : Int32) : RS := ⟨s.n, s.a, s.m, upd s.r (s.n - 1) (if c = 48 then 5 else c - 48), s.mk, s.ip, false⟩
def RS.mod (s : RS) (o : Int32) : RS := ⟨s.n, s.a, s.m, s.r, s.mk ||| (1 <<< (o &&& 31)), true, false⟩
def RS.part (s : RS) (t : Int32) : RS := ⟨s.n + 1, upd s.a s.n t, upd s.m s.n (mk3 s.mk), upd s.r s.n 1, 0, false, true⟩
abbrev RS.isDig (s : RS) (c : Int32) : Prop := s.dg = true ∧ (c = 48 ∨ (¬ c < 50 ∧ ¬ 53 < c))
abbrev RS.full (s : RS) : Prop := s.ip = false ∧ ¬ s.n < 6
def RS.step (s : RS) (c : Int32) : Option RS :=
  if s.isDig c then some (s.dig c) else if s.full then none
  else if indF 14 (chI c) 0 < 0 then (if indF 15 (chI c) 0 < 0 then none else some (s.part (indF 15 (chI c) 0))) else some (s.mod (indF 14 (chI c) 0))
def rdF (T : Nat → Int32) (tl : Nat) : Nat → Nat → RS → Int32 × RS
  | _, 0, s => (if s.ip = true ∨ s.n = 0 then nI tl else -1, s)
  | i, f + 1, s => match s.step (T i) with
    | none => (nI i, s)
    | some s' => rdF T tl (i + 1) f s'
def RS.ok (s : RS) : Prop := s.n ≤ 6 ∧ (s.ip = true → s.n < 6) ∧ (s.dg = true → 1 ≤ s.n)
theorem RS.dig_ok {s : RS} {c : Int32} (h : s.ok) : (s.dig c).ok := ⟨h.1, h.2.1, fun z => by cases z⟩
theorem RS.mod_ok {s : RS} {c : Int32} (h : s.n < 6) : (s.mod c).ok := ⟨by show s.n ≤ 6; omega, fun _ => h, fun z => by cases z⟩
theorem RS.part_ok {s : RS} {c : Int32} (h : s.n < 6) : (s.part c).ok := ⟨h, (fun z => by cases z), fun _ => by show 1 ≤ s.n + 1; omega⟩
/-- the reader's rows -/
def rsR (σ : mSt) (r : Nat) (s : RS) : Prop := σ.1 r 3 = nI s.n ∧ σ.1 (r + 1) = s.a ∧ σ.1 (r + 2) = s.m ∧ σ.1 (r + 3) = s.r
def frT (σ σ' : mSt) (r : Nat) : Prop := (∀ k, (k < r ∨ r + 3 < k) → σ'.1 k = σ.1 k) ∧ σ'.2 = σ.2
theorem frT.rf {σ : mSt} {r : Nat} : frT σ σ r := ⟨fun _ _ => rfl, rfl⟩
theorem frT.tr {σ σ1 σ2 : mSt} {r : Nat} (h1 : frT σ σ1 r) (h2 : frT σ1 σ2 r) : frT σ σ2 r := ⟨fun k hk => (h2.1 k hk).trans (h1.1 k hk), h2.2.trans h1.2⟩

theorem part_R {σ : mSt} {r : Nat} {s : RS} {t x : Int32} (hS : rsR σ r s) (hx : x = mk3 s.mk) : rsR (mu (mr (mr (mr σ.1 (r + 1) (upd (σ.1 (r + 1)) s.n t)) (r + 2) (upd (σ.1 (r + 2)) s.n x)) (r + 3) (upd (σ.1 (r + 3)) s.n 1)) r 3 (nI (s.n + 1)), σ.2) r (s.part t) ∧ frT σ (mu (mr (mr (mr σ.1 (r + 1) (upd (σ.1 (r + 1)) s.n t)) (r + 2) (upd (σ.1 (r + 2)) s.n x)) (r + 3) (upd (σ.1 (r + 3)) s.n 1)) r 3 (nI (s.n + 1)), σ.2) r := by
  obtain ⟨h1, h2, h3, h4⟩ := hS
  refine ⟨⟨by simp [mu, upd]; rfl, ?_, ?_, ?_⟩, fun k hk => ?_, rfl⟩
  · dsimp only
    rw [mu_ne _ (by omega), mr_ne _ _ (by omega), mr_ne _ _ (by omega), mr_at, h2]; rfl
  · dsimp only
    rw [mu_ne _ (by omega), mr_ne _ _ (by omega), mr_at, h3, hx]; rfl
  · dsimp only
    rw [mu_ne _ (by omega), mr_at, h4]; rfl
  · dsimp only
    rw [mu_ne _ (by omega), mr_ne _ _ (by omega), mr_ne _ _ (by omega), mr_ne _ _ (by omega)]
set_option maxRecDepth 100000 in
set_option maxHeartbeats 4000000 in
theorem c_addPart {ae ad : Nat → Nat} {sh : mSh} {σ : mSt} {r : Nat} {s : RS} {t : Int32} (hr : mReader ad sh r) (hS : rsR σ r s) (hn : s.n < 6) : Ct yX4_addPart cX4_addPart 3 none 1 0 0 [.ref (ad r), .int t, .int s.mk] ae ad sh σ (mPv ad sh (fun σ' => rsR σ' r (s.part t) ∧ frT σ σ' r)) := by
  refine Ct.ofL (own := RX4) (ini := false) (ls := [some (.ref (ad r)), some (.int t), some (.int s.mk)]) (by decide +kernel) rfl (fun h => by cases h) (Nat.le_of_ble_eq_true rfl) rfl ?_
  refine ev_aload_0 dX4_addPart_0 ?_
  refine gf_X4_9 dX4_addPart_1 hr.1 rfl ?_
  refine ev_aload_0 dX4_addPart_4 ?_
  refine gf_X4_57 dX4_addPart_5 hr.1 rfl ?_
  rw [hS.1]
  refine ev_iload_1 dX4_addPart_8 ?_
  refine cl_X4_62 (c_setCell hr.2.1 (by decide)) dX4_addPart_9 rfl (Nat.le_of_ble_eq_true rfl) ?_
  rw [setV_nI (by omega) hn]
  refine ev_aload_0 dX4_addPart_12 ?_
  refine gf_X4_15 dX4_addPart_13 hr.1 rfl ?_
  refine ev_aload_0 dX4_addPart_16 ?_
  refine gf_X4_57 dX4_addPart_17 hr.1 rfl ?_
  dsimp only
  rw [mr_ne _ _ (show r ≠ r + 1 by omega), hS.1]
  refine ev_iload_2 dX4_addPart_20 ?_
  refine ev_iconst_3 dX4_addPart_21 ?_
  refine ev_iand dX4_addPart_22 ?_
  refine ev_if_ne (tgt := 34) dX4_addPart_23 (by decide) (fun h23 => ?_) (fun h23 => ?_)
  · refine ev_iload_2 dX4_addPart_34 ?_
    refine cl_X4_62 (c_setCell hr.2.2.1 (by decide)) dX4_addPart_35 rfl (Nat.le_of_ble_eq_true rfl) ?_
    rw [setV_nI (by omega) hn]
    dsimp only
    rw [mr_ne _ _ (show r + 2 ≠ r + 1 by omega)]
    refine ev_aload_0 dX4_addPart_38 ?_
    refine gf_X4_18 dX4_addPart_39 hr.1 rfl ?_
    refine ev_aload_0 dX4_addPart_42 ?_
    refine gf_X4_57 dX4_addPart_43 hr.1 rfl ?_
    dsimp only
    rw [mr_ne _ _ (show r ≠ r + 2 by omega), mr_ne _ _ (show r ≠ r + 1 by omega), hS.1]
    refine ev_iconst_1 dX4_addPart_46 ?_
    refine cl_X4_62 (c_setCell hr.2.2.2 (by decide)) dX4_addPart_47 rfl (Nat.le_of_ble_eq_true rfl) ?_
    rw [setV_nI (by omega) hn]
    dsimp only
    rw [mr_ne _ _ (show r + 3 ≠ r + 2 by omega), mr_ne _ _ (show r + 3 ≠ r + 1 by omega)]
    refine ev_aload_0 dX4_addPart_50 ?_
    refine ev_dup dX4_addPart_51 rfl ?_
    refine gf_X4_57 dX4_addPart_52 hr.1 rfl ?_
    dsimp only
    rw [mr_ne _ _ (show r ≠ r + 3 by omega), mr_ne _ _ (show r ≠ r + 2 by omega), mr_ne _ _ (show r ≠ r + 1 by omega), hS.1]
    refine ev_iconst_1 dX4_addPart_55 ?_
    refine ev_iadd dX4_addPart_56 ?_
    rw [nI_1]
    refine pf_X4_57 dX4_addPart_57 hr.1 rfl ?_
    exact ev_pv dX4_addPart_60 (part_R hS (by simp_all [mk3]))
  · refine ev_iload_2 dX4_addPart_26 ?_
    refine ev_iconst_1 dX4_addPart_27 ?_
    refine ev_ior dX4_addPart_28 ?_
    refine ev_iconst_2 dX4_addPart_29 ?_
    refine ev_ior dX4_addPart_30 ?_
    refine ev_goto (tgt := 35) dX4_addPart_31 (by decide) ?_
    refine cl_X4_62 (c_setCell hr.2.2.1 (by decide)) dX4_addPart_35 rfl (Nat.le_of_ble_eq_true rfl) ?_
    rw [setV_nI (by omega) hn]
    dsimp only
    rw [mr_ne _ _ (show r + 2 ≠ r + 1 by omega)]
    refine ev_aload_0 dX4_addPart_38 ?_
    refine gf_X4_18 dX4_addPart_39 hr.1 rfl ?_
    refine ev_aload_0 dX4_addPart_42 ?_
    refine gf_X4_57 dX4_addPart_43 hr.1 rfl ?_
    dsimp only
    rw [mr_ne _ _ (show r ≠ r + 2 by omega), mr_ne _ _ (show r ≠ r + 1 by omega), hS.1]
    refine ev_iconst_1 dX4_addPart_46 ?_
    refine cl_X4_62 (c_setCell hr.2.2.2 (by decide)) dX4_addPart_47 rfl (Nat.le_of_ble_eq_true rfl) ?_
    rw [setV_nI (by omega) hn]
    dsimp only
    rw [mr_ne _ _ (show r + 3 ≠ r + 2 by omega), mr_ne _ _ (show r + 3 ≠ r + 1 by omega)]
    refine ev_aload_0 dX4_addPart_50 ?_
    refine ev_dup dX4_addPart_51 rfl ?_
    refine gf_X4_57 dX4_addPart_52 hr.1 rfl ?_
    dsimp only
    rw [mr_ne _ _ (show r ≠ r + 3 by omega), mr_ne _ _ (show r ≠ r + 2 by omega), mr_ne _ _ (show r ≠ r + 1 by omega), hS.1]
    refine ev_iconst_1 dX4_addPart_55 ?_
    refine ev_iadd dX4_addPart_56 ?_
    rw [nI_1]
    refine pf_X4_57 dX4_addPart_57 hr.1 rfl ?_
    exact ev_pv dX4_addPart_60 (part_R hS (by simp_all [mk3]))
