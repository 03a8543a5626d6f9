def cdM (g : Nat → Int32) (f : Nat) : List Nat := if isOfG g f (tuN g) then ftm (tgF g f) (cN g * rN g) else []
def cdC (g : Nat → Int32) (k : Nat) : List Nat := if castB g k then [1 * 4096 + k * 64 + 0] else []
def cdD (g : Nat → Int32) (t : Nat) : List Nat := if clN g 55 = 1 ∧ 1 ≤ hN g (6 * tuN g + t) then ftm (drF g t) (cN g * rN g) else []
/-- the moves that may turn out not to be safe, in their order -/
def candG (g : Nat → Int32) : List Nat := ftm (cdM g) (cN g * rN g) ++ ftm (cdC g) 4 ++ ftm (cdD g) 6
theorem ftm_cnt {F : Nat → List Nat} {c : Nat → Bool} {b : Nat} : ∀ {n : Nat}, (∀ i, i < n → (F i).length ≤ if c i then b else 0) → (ftm F n).length ≤ cntF c n * b := by
  intro n
  induction n with
  | zero => intro _; simp [ftm]
  | succ n ih =>
    intro h
    have h1 := ih (fun i hi => h i (by omega))
    have h2 := h n (by omega)
    rw [ftm, List.length_append, cntF, Nat.add_mul]
    cases hc : c n with
    | true => rw [hc] at h2; simp at h2 ⊢; omega
    | false => rw [hc] at h2; simp at h2 ⊢; rw [h2]; simp; omega
theorem cnt_le {c d : Nat → Bool} : ∀ {n : Nat}, (∀ i, i < n → c i = true → d i = false) → cntF c n + cntF d n ≤ n := by
  intro n
  induction n with
  | zero => intro _; simp [cntF]
  | succ n ih =>
    intro h
    have h1 := ih (fun i hi => h i (by omega))
    have h2 := h n (by omega)
    rw [cntF, cntF]
    cases hc : c n with
    | true => rw [h2 hc]; simp; omega
    | false => cases d n <;> simp <;> omega
theorem cnt_n {c : Nat → Bool} : ∀ n, cntF c n ≤ n := by
  intro n
  induction n with
  | zero => exact Nat.le_refl _
  | succ n ih => rw [cntF]; cases c n <;> simp <;> omega
theorem goG_want {g : Nat → Int32} {t f s q : Nat} {em ot : Nat → Bool} (h : goG g t f s em ot q = true) : em q = true ∨ ot q = true := by
  obtain ⟨j, -, -, h1⟩ := anyF_iff.mp h
  rw [partB, Bool.and_eq_true] at h1
  have h2 := h1.1
  unfold wantB at h2
  rw [Bool.or_eq_true, Bool.and_eq_true, Bool.and_eq_true] at h2
  rcases h2 with z | z
  · exact Or.inl z.2
  · exact Or.inr z.2
theorem tgt_own {g : Nat → Int32} {f q : Nat} (h : tgtG g f q = true) : isOfG g q (sdN (mN g f)) = false := by
  have hs : sdN (mN g f) ≤ 1 := by unfold sdN; split <;> decide
  cases hz : isOfG g q (sdN (mN g f)) with
  | false => rfl
  | true =>
    obtain ⟨a, b, c⟩ := isOf_1 hz
    rcases goG_want h with z | z
    · rw [show occG g q = true from decide_eq_true ⟨a, b⟩] at z; cases z
    · have := (isOf_1 z).2.2
      omega
theorem b441 : ∀ c, c ≤ 36 → ∀ n, n ≤ c → n * (c - n) + 4 + 6 * (c - n) ≤ 445 := by decide +kernel
theorem cand_len {g : Nat → Int32} (hG : wfP g) : (ftm (cdM g) (cN g * rN g)).length + (ftm (cdC g) 4).length + (ftm (cdD g) 6).length ≤ 445 := by
  have h36 := wf_sq hG
  have hn := cnt_n (c := fun f => isOfG g f (tuN g)) (cN g * rN g)
  have hb := b441 _ h36 _ hn
  have e1 : (ftm (cdM g) (cN g * rN g)).length ≤ cntF (fun f => isOfG g f (tuN g)) (cN g * rN g) * (cN g * rN g - cntF (fun f => isOfG g f (tuN g)) (cN g * rN g)) := by
    refine ftm_cnt (fun f hf => ?_)
    unfold cdM
    by_cases h : isOfG g f (tuN g) = true
    · rw [if_pos h, if_pos h]
      have h1 : (ftm (tgF g f) (cN g * rN g)).length ≤ cntF (tgtG g f) (cN g * rN g) * 1 := ftm_cnt (fun t _ => by unfold tgF; split <;> simp)
      have h2 := cnt_le (c := tgtG g f) (d := fun f => isOfG g f (tuN g)) (n := cN g * rN g) (fun i _ hi => by rw [← (isOf_1 h).2.2]; exact tgt_own hi)
      omega
    · rw [if_neg h, if_neg h]; exact Nat.le_refl _
  have e2 : (ftm (cdC g) 4).length ≤ cntF (fun _ => true) 4 * 1 := ftm_cnt (fun k _ => by unfold cdC; split <;> simp)
  have e3 : (ftm (cdD g) 6).length ≤ cntF (fun _ => true) 6 * (cN g * rN g - cntF (fun f => isOfG g f (tuN g)) (cN g * rN g)) := by
    refine ftm_cnt (fun t _ => ?_)
    rw [if_pos rfl]
    unfold cdD
    split
    · have h1 : (ftm (drF g t) (cN g * rN g)).length ≤ cntF (drOk g t) (cN g * rN g) * 1 := ftm_cnt (fun t _ => by unfold drF; split <;> simp)
      have h2 := cnt_le (c := drOk g t) (d := fun f => isOfG g f (tuN g)) (n := cN g * rN g) (fun i _ hi => by
        unfold drOk at hi
        rw [Bool.and_eq_true] at hi
        cases hz : isOfG g i (tuN g) with
        | false => rfl
        | true =>
          obtain ⟨a, b, c⟩ := isOf_1 hz
          rw [show occG g i = true from decide_eq_true ⟨a, b⟩] at hi
          cases hi.1)
      omega
    · exact Nat.zero_le _
  have c4 : cntF (fun _ => true) 4 = 4 := by decide
  have c6 : cntF (fun _ => true) 6 = 6 := by decide
  rw [c4] at e2
  rw [c6] at e3
  omega
theorem ftm_mem {F : Nat → List Nat} {x : Nat} : ∀ {n : Nat}, x ∈ ftm F n → ∃ i, i < n ∧ x ∈ F i := by
  intro n
  induction n with
  | zero => intro h; simp [ftm] at h
  | succ n ih =>
    intro h
    rw [ftm, List.mem_append] at h
    rcases h with h | h
    · obtain ⟨i, h1, h2⟩ := ih h
      exact ⟨i, by omega, h2⟩
    · exact ⟨n, by omega, h⟩
theorem cand_ok {g : Nat → Int32} (hG : wfP g) (hW : wfL g) {m : Nat} (h : m ∈ candG g) : mvOk g m := by
  have h36 := wf_sq hG
  unfold candG at h
  rw [List.mem_append, List.mem_append] at h
  rcases h with (h | h) | h
  · obtain ⟨f, hf, h1⟩ := ftm_mem h
    unfold cdM at h1
    by_cases ho : isOfG g f (tuN g) = true
    · rw [if_pos ho] at h1
      obtain ⟨t, ht, h2⟩ := ftm_mem h1
      unfold tgF at h2
      by_cases hg : tgtG g f t = true
      · rw [if_pos hg, List.mem_singleton] at h2
        subst h2
        have e := mK_c (k := 0) (a := f) (b := t) (by omega) (by omega)
        rw [Nat.zero_mul, Nat.zero_add] at e
        obtain ⟨a, b, c⟩ := isOf_1 ho
        refine Or.inl ⟨e.1, by rw [e.2.1]; exact hf, by rw [e.2.2]; exact ht, by rw [e.2.1]; exact b, by rw [e.2.1]; exact c, ?_⟩
        rw [e.2.1, e.2.2]
        intro z
        have := tgt_own hg
        rw [← z, c, ho] at this
        cases this
      · rw [if_neg hg] at h2; cases h2
    · rw [if_neg ho] at h1; cases h1
  · obtain ⟨k, hk, h1⟩ := ftm_mem h
    unfold cdC at h1
    by_cases hc : castB g k = true
    · rw [if_pos hc, List.mem_singleton] at h1
      subst h1
      have e := mK_c (k := 1) (a := k) (b := 0) (by omega) (by omega)
      unfold castB at hc
      rw [Bool.and_eq_true, Bool.and_eq_true, Bool.and_eq_true] at hc
      obtain ⟨cA, cM, cC, -⟩ := hc
      unfold caA at cA
      rw [Bool.and_eq_true] at cA
      obtain ⟨x1, x2⟩ := of_decide_eq_true cA.1
      unfold caM at cM
      rw [Bool.and_eq_true, Bool.and_eq_true] at cM
      unfold caC at cC
      rw [Bool.and_eq_true, Bool.and_eq_true] at cC
      have hex := (hW.2.2.2.2.2.2 k hk).2.2.1 x1
      have clr : ∀ x, x < 36 → clrB g k x = true → mN g x = 0 ∨ x = caN g k 2 ∨ x = caN g k 4 := by
        intro x hx hc
        unfold clrB at hc
        by_cases z : mN g x = 0
        · exact Or.inl z
        · right
          rw [show occG g x = true from decide_eq_true ⟨hx, Nat.pos_of_ne_zero z⟩] at hc
          simpa using hc
      refine Or.inr (Or.inl ⟨e.1, by rw [e.2.1]; exact hk, by rw [e.2.1]; exact x1, ?_, ?_, ?_, ?_, ?_, ?_, e.2.2⟩)
      · rw [e.2.1]; exact (isOf_1 cM.1).2.1
      · rw [e.2.1]; exact (isOf_1 cM.2.1).2.1
      · rw [e.2.1]; exact hex.2.2.1
      · rw [e.2.1]; exact hex.2.2.2
      · rw [e.2.1]; exact clr _ (ca_lt hW hk (by decide) (by decide)) cC.2.1
      · rw [e.2.1]; exact clr _ (ca_lt hW hk (by decide) (by decide)) cC.2.2
    · rw [if_neg hc] at h1; cases h1
  · obtain ⟨t, ht, h1⟩ := ftm_mem h
    unfold cdD at h1
    by_cases hd : clN g 55 = 1 ∧ 1 ≤ hN g (6 * tuN g + t)
    · rw [if_pos hd] at h1
      obtain ⟨q, hq, h2⟩ := ftm_mem h1
      unfold drF at h2
      by_cases hg : drOk g t q = true
      · rw [if_pos hg, List.mem_singleton] at h2
        subst h2
        have e := mK_c (k := 2) (a := t) (b := q) (by omega) (by omega)
        unfold drOk at hg
        rw [Bool.and_eq_true] at hg
        refine Or.inr (Or.inr ⟨e.1, by rw [e.2.1]; exact ht, by rw [e.2.2]; exact hq, ?_, by rw [e.2.1]; exact hd.2⟩)
        rw [e.2.2]
        have z := hg.1
        unfold occG at z
        rcases Nat.eq_zero_or_pos (mN g q) with y | y
        · exact y
        · rw [decide_eq_true ⟨(by omega : q < 36), y⟩] at z; cases z
      · rw [if_neg hg] at h2; cases h2
    · rw [if_neg hd] at h1; cases h1

