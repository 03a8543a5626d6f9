/-! the reader's automaton with the reference's cells: raw modifiers, -1 for no digit -/
def RS.digX (s : RS) (c : Int32) : RS := ⟨s.n, s.a, s.m, upd s.r (s.n - 1) (c - 48), s.mk, s.ip, false⟩
def RS.partX (s : RS) (t : Int32) : RS := ⟨s.n + 1, upd s.a s.n t, upd s.m s.n s.mk, upd s.r s.n (-1), 0, false, true⟩
def RS.stepX (s : RS) (c : Int32) : Option RS :=
  if s.isDig c then some (s.digX c) else if s.full then none
  else if indF 14 (chI c) 0 < 0 then (if indF 15 (chI c) 0 < 0 then none else some (s.partX (indF 15 (chI c) 0))) else some (s.mod (indF 14 (chI c) 0))
def xF (T : Nat → Int32) (tl : Nat) : Nat → Nat → RS → Int32 × RS
  | _, 0, s => (if s.ip = true ∨ s.n = 0 then nI tl else -1, s)
  | i, f + 1, s => match s.stepX (T i) with
    | none => (nI i, s)
    | some s' => xF T tl (i + 1) f s'
def u0 : RS := (0, fun _ => 0, fun _ => 0, fun _ => 0, 0, false, false)
/-- the class's automaton s beside the reference's u -/
def eqX (s u : RS) : Prop := s.n = u.n ∧ s.mk = u.mk ∧ s.ip = u.ip ∧ s.dg = u.dg ∧ ∀ j, j < u.n → s.a j = u.a j ∧ s.m j = markG (u.m j) ∧ s.r j = nI (reachG (u.r j))
theorem mk3_G (x : Int32) : mk3 x = markG x := by
  unfold mk3 markG
  rw [Int32.or_assoc]
  rfl
theorem dig_G {c : Int32} (h : c = 48 ∨ (¬ c < 50 ∧ ¬ 53 < c)) : (if c = 48 then 5 else c - 48) = nI (reachG (c - 48)) := by
  rcases h with h | ⟨h1, h2⟩
  · subst h; decide
  · have h0 : ¬ c < 0 := fun z => h1 (Int32.lt_trans z (by decide))
    obtain ⟨j, hj, e⟩ := nI_of h0
    subst e
    have a1 : 50 ≤ j := Nat.le_of_not_lt fun z => h1 ((nI_ltI hj (by decide)).mpr z)
    have a2 : j ≤ 53 := Nat.le_of_not_lt fun z => h2 ((nI_ltI (b := j) (by decide) hj).mpr z)
    have h : ∀ j, j ≤ 53 → 50 ≤ j → (if nI j = 48 then 5 else nI j - 48) = nI (reachG (nI j - 48)) := by decide
    exact h j a2 a1
theorem eqX_step {s u : RS} {c : Int32} (h : eqX s u) (ho : u.ok) : (s.step c = none ∧ u.stepX c = none) ∨ ∃ s' u', s.step c = some s' ∧ u.stepX c = some u' ∧ eqX s' u' := by
  obtain ⟨h1, h2, h3, h4, h5⟩ := h
  unfold RS.step RS.stepX
  have eD : s.isDig c ↔ u.isDig c := by unfold RS.isDig; rw [h4]
  have eF : s.full ↔ u.full := by unfold RS.full; rw [h3, h1]
  by_cases d : u.isDig c
  · rw [if_pos (eD.mpr d), if_pos d]
    refine Or.inr ⟨_, _, rfl, rfl, h1, h2, h3, rfl, fun j hj => ?_⟩
    obtain ⟨b1, b2, b3⟩ := h5 j hj
    refine ⟨b1, b2, ?_⟩
    show upd s.r (s.n - 1) (if c = 48 then 5 else c - 48) j = nI (reachG (upd u.r (u.n - 1) (c - 48) j))
    rw [h1]
    by_cases z : j = u.n - 1
    · rw [z, upd_at, upd_at]; exact dig_G d.2
    · rw [upd_ne z, upd_ne z]; exact b3
  · rw [if_neg (fun z => d (eD.mp z)), if_neg d]
    by_cases f : u.full
    · rw [if_pos (eF.mpr f), if_pos f]; exact Or.inl ⟨rfl, rfl⟩
    · rw [if_neg (fun z => f (eF.mp z)), if_neg f]
      by_cases m : indF 14 (chI c) 0 < 0
      · rw [if_pos m, if_pos m]
        by_cases a : indF 15 (chI c) 0 < 0
        · rw [if_pos a, if_pos a]; exact Or.inl ⟨rfl, rfl⟩
        · rw [if_neg a, if_neg a]
          refine Or.inr ⟨_, _, rfl, rfl, by show s.n + 1 = u.n + 1; rw [h1], rfl, rfl, rfl, fun j hj => ?_⟩
          have hj2 : j < u.n + 1 := hj
          show upd s.a s.n _ j = upd u.a u.n _ j ∧ upd s.m s.n (mk3 s.mk) j = markG (upd u.m u.n u.mk j) ∧ upd s.r s.n 1 j = nI (reachG (upd u.r u.n (-1) j))
          rw [h1]
          by_cases z : j = u.n
          · rw [z, upd_at, upd_at, upd_at, upd_at, upd_at, upd_at, mk3_G, h2]; exact ⟨rfl, rfl, by decide⟩
          · rw [upd_ne z, upd_ne z, upd_ne z, upd_ne z, upd_ne z, upd_ne z]; exact h5 j (by omega)
      · rw [if_neg m, if_neg m]
        exact Or.inr ⟨_, _, rfl, rfl, h1, by show s.mk ||| _ = u.mk ||| _; rw [h2], rfl, rfl, h5⟩
/-- what is read keeps its bounds -/
def okX (u : RS) : Prop := u.ok ∧ (∃ c, c < 64 ∧ u.mk = nI c) ∧ ∀ j, j < u.n → (∃ b, b < 7 ∧ u.a j = nI b) ∧ (∃ c, c < 64 ∧ u.m j = nI c) ∧ (u.r j = -1 ∨ ∃ d, d ≤ 5 ∧ u.r j = nI d)
theorem ixF_rng (L : Nat → Int32) (c : Int32) : ∀ n f, ixF L c f n < 0 ∨ ∃ b, b < f + n ∧ ixF L c f n = nI b
  | 0, _ => Or.inl (show (-1 : Int32) < 0 by decide)
  | n + 1, f => by
    rw [ixF]
    by_cases h : L f = c
    · rw [if_pos h]; exact Or.inr ⟨f, by omega, rfl⟩
    · rw [if_neg h]
      rcases ixF_rng L c n (f + 1) with z | ⟨b, hb, e⟩
      · exact Or.inl z
      · exact Or.inr ⟨b, by omega, e⟩
theorem indF_rng {i : Nat} {c : Int32} (h : ¬ indF i c 0 < 0) : ∃ b, b < slen i ∧ indF i c 0 = nI b := by
  unfold indF at *
  split
  · rename_i e
    rw [if_pos e] at h
    rcases ixF_rng (sgn i) c.toInt8.toInt32 (slen i - 0) 0 with z | ⟨b, hb, e⟩
    · exact absurd z h
    · exact ⟨b, by omega, e⟩
  · rename_i e
    rw [if_neg e] at h
    exact absurd (by decide) h
theorem or_64 : ∀ c, c < 64 → ∀ b, b < 6 → ∃ d, d < 64 ∧ nI c ||| 1 <<< (nI b &&& 31) = nI d := by
  have h : ∀ c, c < 64 → ∀ b, b < 6 → nI c ||| 1 <<< (nI b &&& 31) = nI (c ||| 2 ^ b) ∧ c ||| 2 ^ b < 64 := by decide +kernel
  exact fun c hc b hb => ⟨_, (h c hc b hb).2, (h c hc b hb).1⟩
theorem dig_rng {c : Int32} (h : c = 48 ∨ (¬ c < 50 ∧ ¬ 53 < c)) : ∃ d, d ≤ 5 ∧ c - 48 = nI d := by
  rcases h with h | ⟨h1, h2⟩
  · subst h; exact ⟨0, by decide, by decide⟩
  · have h0 : ¬ c < 0 := fun z => h1 (Int32.lt_trans z (by decide))
    obtain ⟨j, hj, e⟩ := nI_of h0
    subst e
    have a1 : 50 ≤ j := Nat.le_of_not_lt fun z => h1 ((nI_ltI hj (by decide)).mpr z)
    have a2 : j ≤ 53 := Nat.le_of_not_lt fun z => h2 ((nI_ltI (b := j) (by decide) hj).mpr z)
    exact ⟨j - 48, by omega, by rw [show (48 : Int32) = nI 48 from rfl, nI_sub (by omega)]⟩
theorem okX_0 : okX u0 := ⟨⟨by decide, fun z => (by cases z), fun z => (by cases z)⟩, ⟨0, by decide, rfl⟩, fun j hj => absurd hj (Nat.not_lt_zero _)⟩
theorem okX_step {u u' : RS} {c : Int32} (h : okX u) (e : u.stepX c = some u') : okX u' := by
  obtain ⟨⟨o1, o2, o3⟩, ⟨mk, hmk, emk⟩, h3⟩ := h
  unfold RS.stepX at e
  by_cases d : u.isDig c
  · rw [if_pos d] at e
    cases e
    refine ⟨⟨o1, o2, fun z => (by cases z)⟩, ⟨mk, hmk, emk⟩, fun j hj => ⟨(h3 j hj).1, (h3 j hj).2.1, ?_⟩⟩
    show upd u.r (u.n - 1) (c - 48) j = -1 ∨ ∃ d, d ≤ 5 ∧ upd u.r (u.n - 1) (c - 48) j = nI d
    by_cases z : j = u.n - 1
    · rw [z, upd_at]; exact Or.inr (dig_rng d.2)
    · rw [upd_ne z]; exact (h3 j hj).2.2
  · rw [if_neg d] at e
    by_cases f : u.full
    · rw [if_pos f] at e; cases e
    · rw [if_neg f] at e
      have hn : u.n < 6 := by
        cases hi : u.ip
        · exact Classical.byContradiction fun z => f ⟨hi, z⟩
        · exact o2 hi
      by_cases m : indF 14 (chI c) 0 < 0
      · rw [if_pos m] at e
        by_cases a : indF 15 (chI c) 0 < 0
        · rw [if_pos a] at e; cases e
        · rw [if_neg a] at e
          cases e
          refine ⟨⟨hn, fun z => (by cases z), fun _ => by show 1 ≤ u.n + 1; omega⟩, ⟨0, by decide, rfl⟩, fun j hj => ?_⟩
          have hj2 : j < u.n + 1 := hj
          show (∃ b, b < 7 ∧ upd u.a u.n _ j = nI b) ∧ (∃ c, c < 64 ∧ upd u.m u.n u.mk j = nI c) ∧ (upd u.r u.n (-1) j = -1 ∨ ∃ d, d ≤ 5 ∧ upd u.r u.n (-1) j = nI d)
          by_cases z : j = u.n
          · rw [z, upd_at, upd_at, upd_at]
            obtain ⟨b, hb, eb⟩ := indF_rng a
            exact ⟨⟨b, Nat.lt_of_lt_of_le hb (by decide), eb⟩, ⟨mk, hmk, emk⟩, Or.inl rfl⟩
          · rw [upd_ne z, upd_ne z, upd_ne z]; exact h3 j (by omega)
      · rw [if_neg m] at e
        cases e
        obtain ⟨b, hb, eb⟩ := indF_rng m
        have hb6 : b < 6 := Nat.lt_of_lt_of_le hb (by decide)
        refine ⟨⟨o1, fun _ => hn, fun z => (by cases z)⟩, ?_, h3⟩
        obtain ⟨d, hd, ed⟩ := or_64 mk hmk b hb6
        exact ⟨d, hd, by show u.mk ||| 1 <<< (indF 14 (chI c) 0 &&& 31) = nI d; rw [emk, eb, ed]⟩
theorem xF_rel {T T' : Nat → Int32} {tl : Nat} : ∀ (f i : Nat) (s u : RS), (∀ j, i ≤ j → j < i + f → T j = T' j) → eqX s u → okX u → (rdF T tl i f s).1 = (xF T' tl i f u).1 ∧ eqX (rdF T tl i f s).2 (xF T' tl i f u).2 ∧ okX (xF T' tl i f u).2
  | 0, i, s, u, _, h, ho => by
    rw [rdF, xF]
    refine ⟨?_, h, ho⟩
    dsimp only
    rw [h.1, h.2.2.1]
  | f + 1, i, s, u, hT, h, ho => by
    rw [rdF, xF, hT i (Nat.le_refl _) (by omega)]
    rcases eqX_step (c := T' i) h ho.1 with ⟨e1, e2⟩ | ⟨s', u', e1, e2, h'⟩
    · rw [e1, e2]; exact ⟨rfl, h, ho⟩
    · rw [e1, e2]; exact xF_rel f (i + 1) s' u' (fun j h1 h2 => hT j (by omega) (by omega)) h' (okX_step ho e2)
theorem xF_end {T : Nat → Int32} {tl : Nat} : ∀ (f i : Nat) (u : RS), i + f < 2 ^ 31 → tl < 2 ^ 31 → (¬ (xF T tl i f u).1 < 0 ∧ ∃ k, k ≤ max tl (i + f) ∧ (xF T tl i f u).1 = nI k) ∨ ((xF T tl i f u).1 = -1 ∧ 1 ≤ (xF T tl i f u).2.n)
  | 0, i, u, _, h2 => by
    rw [xF]
    by_cases h : u.ip = true ∨ u.n = 0
    · rw [if_pos h]; exact Or.inl ⟨nI_pos h2, tl, by omega, rfl⟩
    · rw [if_neg h]; exact Or.inr ⟨rfl, Nat.pos_of_ne_zero fun z => h (Or.inr z)⟩
  | f + 1, i, u, h1, h2 => by
    rw [xF]
    rcases u.stepX (T i) with _ | u'
    · exact Or.inl ⟨nI_pos (by omega), i, by omega, rfl⟩
    · have := xF_end (T := T) (tl := tl) f (i + 1) u' (by omega) h2
      rw [show i + 1 + f = i + (f + 1) by omega] at this
      exact this
/-- what define reads off a tape -/
def defR (T : Nat → Int32) (tl : Nat) : Int32 × RS := match rdK T tl 7 0 0 with
  | .inl k => xF (sgn (7 + k)) (slen (7 + k)) 0 (slen (7 + k)) u0
  | .inr kn => (if (xF T tl 0 tl u0).1 < 0 then (xF T tl 0 tl u0).1 else maxR (xF T tl 0 tl u0).1 (nI kn), (xF T tl 0 tl u0).2)

