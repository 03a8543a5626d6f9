/-- a sign has been fed to both -/
theorem jRel.feed {σ σ1 σ2 : mSt} {g : Nat → Int32} {tl : Nat} {s : Int32} (h : jRel σ g) (h1 : σ.1 1 1 = nI tl) (hl : tl < 60) (hs : ¬ (s < 0 ∨ 127 < s)) (e1 : σ1 = (mu (mu σ.1 2 tl s) 1 1 (nI (tl + 1)), σ.2)) (m1 : σ2.1 64 = upd (σ1.1 64) tl s) (m2 : σ2.1 61 = upd (σ1.1 61) 4 (nI (tl + 1))) (m3 : ∀ j, j ≠ 61 → j ≠ 64 → σ2.1 j = σ1.1 j) (m4 : σ2.2 = σ1.2) : jRel σ2 g := by
  obtain ⟨q1, q2, q3, q4, ⟨q5, q6⟩, ⟨t, t1, t2, t3, t4⟩, q8⟩ := h
  have et : t = tl := (nI_eq (by omega) (by omega)).mp (t2.symm.trans h1)
  subst et
  have F : ∀ k, k ≠ 1 → k ≠ 2 → σ1.1 k = σ.1 k := fun k a b => by rw [e1]; exact (mu_ne _ a).trans (mu_ne _ b)
  have L : σ1.2 = σ.2 := by rw [e1]
  have E : ∀ k, k ≠ 1 → k ≠ 2 → k ≠ 61 → k ≠ 64 → σ2.1 k = σ.1 k ∧ σ2.2 k = σ.2 k := fun k a b c d => ⟨(m3 k c d).trans (F k a b), by rw [m4, L]⟩
  have h61 : ∀ c, c ≠ 4 → σ2.1 61 c = σ.1 61 c := fun c hc => by rw [m2, upd_ne hc, F 61 (by decide) (by decide)]
  obtain ⟨c1, c2, ⟨D, c3⟩, c4⟩ := q4
  have hc : cRel σ2 g := by
    refine ⟨posR_lo c1.1 c1.2 (fun j hj => (E _ (by omega) (by omega) (by omega) (by omega)).1) (E 20 (by decide) (by decide) (by decide) (by decide)).2, lawR_lo c2 (fun i hi => (E _ (by omega) (by omega) (by omega) (by omega)).1), ⟨D, trR_lo c3 (fun i hi => (E _ (by omega) (by omega) (by omega) (by omega)).1)⟩, ?_⟩
    rcases c4 with c4 | ⟨a, b⟩
    · left; rw [(E 0 (by decide) (by decide) (by decide) (by decide)).1]; exact c4
    · right
      refine ⟨by rw [(E 0 (by decide) (by decide) (by decide) (by decide)).1]; exact a, ?_⟩
      unfold listR at b ⊢
      rw [(E 30 (by decide) (by decide) (by decide) (by decide)).1, (E 31 (by decide) (by decide) (by decide) (by decide)).1]
      exact b
  refine ⟨q1, q2, (E 62 (by decide) (by decide) (by decide) (by decide)).1.trans q3, hc, ⟨?_, ?_⟩, ⟨t + 1, by omega, ?_, ?_, fun i hi => ?_⟩, q8.fr (fun k a b => E k (by omega) (by omega) (by omega) (by omega)) (E 63 (by decide) (by decide) (by decide) (by decide)).1 (h61 2 (by decide))⟩
  · unfold lkR mliR at q5 ⊢
    rw [h61 13 (by decide), (E 70 (by decide) (by decide) (by decide) (by decide)).1, (E 66 (by decide) (by decide) (by decide) (by decide)).1, (E 67 (by decide) (by decide) (by decide) (by decide)).1, (E 68 (by decide) (by decide) (by decide) (by decide)).1, (E 69 (by decide) (by decide) (by decide) (by decide)).1]
    exact q5
  · unfold sqR at q6 ⊢
    rw [(E 72 (by decide) (by decide) (by decide) (by decide)).1]
    exact q6
  · rw [m3 1 (by decide) (by decide), e1]
    show mu (mu σ.1 2 t s) 1 1 (nI (t + 1)) 1 1 = _
    simp [mu, upd]
  · rw [m2, upd_at]
  · have g2 : σ2.1 2 i = upd (σ.1 2) t s i := by
      rw [m3 2 (by decide) (by decide), e1]
      show mu (mu σ.1 2 t s) 1 1 (nI (t + 1)) 2 i = _
      rw [mu_ne _ (by decide)]
      show (if (2 : Nat) = 2 then upd (σ.1 2) t s else σ.1 2) i = _
      rw [if_pos rfl]
    have g64 : σ2.1 64 i = upd (σ.1 64) t s i := by rw [m1, F 64 (by decide) (by decide)]
    rw [g2, g64]
    by_cases z : i = t
    · subst z
      rw [upd_at, upd_at]
      have s0 : ¬ s < 0 := fun y => hs (Or.inl y)
      obtain ⟨k, hk, ek⟩ := nI_of s0
      refine ⟨rfl, k, ?_, ek⟩
      refine Nat.lt_of_not_le fun y => hs (Or.inr ?_)
      rw [ek]
      exact (nI_ltI (a := 127) (by decide) hk).mpr (by omega)
    · rw [upd_ne z, upd_ne z]
      exact t4 i (by omega)

