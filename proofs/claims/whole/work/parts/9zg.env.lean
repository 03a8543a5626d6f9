/-- what the Statement says of the start, in a row -/
def lwF : List Cond := flatC (Jvm.Cond.and given_1 narrow_1)
def strE : List Nat := [99, 107, 117, 127, 140, 154, 167, 183, 195, 209, 224, 240, 256, 278, 302, 326, 352, 414, 463, 491]
def tabE : List Nat := [64, 29, 9, 19]
def sKo (i : Nat) : String := (mStrK.getD i ("", 0, "")).1
def sKk (i : Nat) : Nat := (mStrK.getD i ("", 0, "")).2.1
def sKt (i : Nat) : String := (mStrK.getD i ("", 0, "")).2.2
def sT (i : Nat) : Term := Term.string (sKo i) (sKk i)
def tT (j : Nat) : Term := Term.static RX9 (mTabN j) "[I"
theorem nf_ex : ∀ i, i < 20 → lwF[strE.getD i 0]? = some (Cond.exactly (sT i) "java/lang/String") := by decide +kernel
theorem nf_co : ∀ i, i < 20 → lwF[strE.getD i 0 + 1]? = some (Cond.eq (.field (sT i) "java/lang/String" "coder" "B") (.int 0)) := by decide +kernel
theorem nf_ar : ∀ i, i < 20 → lwF[strE.getD i 0 + 2]? = some (Cond.arrayOf (.field (sT i) "java/lang/String" "value" "[B") .byte) := by decide +kernel
theorem nf_le : ∀ i, i < 20 → lwF[strE.getD i 0 + 3]? = some (Cond.eq (.length (.field (sT i) "java/lang/String" "value" "[B")) (.int (Int32.ofNat (mLen.getD i 0)))) := by decide +kernel
theorem nf_el : ∀ i, i < 20 → ∀ j, j < mLen.getD i 0 → lwF[strE.getD i 0 + 4 + j]? = some (Cond.eq (.elem (.field (sT i) "java/lang/String" "value" "[B") (.int (Int32.ofNat j))) (.int ((mByt.getD i []).getD j 0))) := by decide +kernel
theorem nf_ta : ∀ j, j < 4 → lwF[tabE.getD j 0 + 1]? = some (Cond.arrayOf (tT j) .int) := by decide +kernel
theorem nf_tl : ∀ j, j < 4 → lwF[tabE.getD j 0 + 2]? = some (Cond.eq (.length (tT j)) (.int (Int32.ofNat (mTab j).length))) := by decide +kernel
theorem nf_te : ∀ j, j < 4 → ∀ i, i < (mTab j).length → lwF[tabE.getD j 0 + 3 + i]? = some (Cond.eq (.elem (tT j) (.int (Int32.ofNat i))) (.int ((mTab j).getD i 0))) := by decide +kernel
theorem nf_c : lwF[4]? = some (Cond.eq (.static "java/lang/String" "COMPACT_STRINGS" "Z") (.int 1)) := by decide +kernel
theorem nf_s : lwF[5]? = some (Cond.isRef (.static "jdk/internal/util/Preconditions" "SIOOBE_FORMATTER" "Ljava/util/function/BiFunction;")) := by decide +kernel
def srE : List Nat := [369, 370, 371, 372, 373, 374, 375, 434, 435, 436, 437, 438, 439, 440, 450, 510, 1097, 1106, 1111, 1113]
theorem nf_sr : ∀ i, i < 20 → tables_1[srE.getD i 0]? = some (Cond.stringRef (sKo i) (sKk i) (sKt i)) := by decide +kernel
def lsE : List Nat := [688, 532, 528, 530]
theorem nf_ls : ∀ j, j < 4 → tables_1[lsE.getD j 0]? = some (Cond.laysStatic RX9 (mTabN j) "[I") := by decide +kernel
theorem nf_lc : (Cond.laysStatic "java/lang/String" "COMPACT_STRINGS" "Z") ∈ tables_1 := List.mem_of_getElem? (i := 388) (by decide +kernel)
theorem nf_lf : (Cond.laysStatic "jdk/internal/util/Preconditions" "SIOOBE_FORMATTER" "Ljava/util/function/BiFunction;") ∈ tables_1 := List.mem_of_getElem? (i := 408) (by decide +kernel)
theorem nf_is : (Cond.initialized "java/lang/String") ∈ tables_1 := List.mem_of_getElem? (i := 12) (by decide +kernel)
theorem nf_ip : (Cond.initialized "jdk/internal/util/Preconditions") ∈ tables_1 := List.mem_of_getElem? (i := 14) (by decide +kernel)
theorem nf_ib : (Cond.initialized "VariantBoard") ∈ tables_1 := List.mem_of_getElem? (i := 1) (by decide +kernel)
theorem nf_ac : (Cond.arrayClass .int) ∈ tables_1 := List.mem_of_getElem? (i := 43) (by decide +kernel)
theorem sK_at : ∀ i, i < 20 → mStrK[i]? = some (sKo i, sKk i, sKt i) := by decide +kernel
theorem sK_len : ∀ i, i < 20 → mLen.getD i 0 < 2 ^ 31 := by decide +kernel
theorem mTab_len : ∀ j, j < 4 → (mTab j).length < 2 ^ 31 := by decide +kernel
/-- the environment's addresses -/
def lwAe (tb : Nat → Nat) (f0 f1 b L : Nat) (st : Nat → Nat × Nat) (xs : Nat → Int32) : Nat → Nat := fun n => if n < 4 then tb n else if n = 50 then f0 else if n = 51 then f1 else if n = 60 then b else if n = 61 then L else if n < 200 then (st (n - 100)).1 else if n < 1000 then (st (n - 200)).2 else (xs (n - 1000)).toBitVec.toNat
section AE
variable {tb : Nat → Nat} {f0 f1 b L : Nat} {st : Nat → Nat × Nat} {xs : Nat → Int32}
theorem ae_t {j : Nat} (h : j < 4) : lwAe tb f0 f1 b L st xs j = tb j := if_pos h
theorem ae_50 : lwAe tb f0 f1 b L st xs 50 = f0 := rfl
theorem ae_51 : lwAe tb f0 f1 b L st xs 51 = f1 := rfl
theorem ae_60 : lwAe tb f0 f1 b L st xs 60 = b := rfl
theorem ae_61 : lwAe tb f0 f1 b L st xs 61 = L := rfl
theorem ae_k {i : Nat} (h : i < 20) : lwAe tb f0 f1 b L st xs (100 + i) = (st i).1 := by
  unfold lwAe
  rw [if_neg (by omega), if_neg (by omega), if_neg (by omega), if_neg (by omega), if_neg (by omega), if_pos (by omega), Nat.add_sub_cancel_left]
theorem ae_v {i : Nat} (h : i < 20) : lwAe tb f0 f1 b L st xs (200 + i) = (st i).2 := by
  unfold lwAe
  rw [if_neg (by omega), if_neg (by omega), if_neg (by omega), if_neg (by omega), if_neg (by omega), if_neg (by omega), if_pos (by omega), Nat.add_sub_cancel_left]
theorem ofBits (x : Int32) : Int32.ofNat x.toBitVec.toNat = x := by
  apply Int32.toBitVec_inj.mp
  apply BitVec.eq_of_toNat_eq
  show (BitVec.ofNat 32 x.toBitVec.toNat).toNat = _
  rw [BitVec.toNat_ofNat]
  exact Nat.mod_eq_of_lt x.toBitVec.isLt
theorem ae_x {j : Nat} : Int32.ofNat (lwAe tb f0 f1 b L st xs (1000 + j)) = xs j := by
  unfold lwAe
  rw [if_neg (by omega), if_neg (by omega), if_neg (by omega), if_neg (by omega), if_neg (by omega), if_neg (by omega), if_neg (by omega), Nat.add_sub_cancel_left]
  exact ofBits _
end AE
/-- the start's environment -/
theorem env_of {args : Array Value} {s : State} {b L : Nat} {xs : Nat → Int32} (hF : ∀ (i : Nat) (w : Cond), lwF[i]? = some w → w.before args s = true) (hT : ∀ w ∈ tables_1, w.before args s = true) (hX : va_X b L xs s s.heap) (hb : b < s.heap.size) : ∃ ae : Nat → Nat, ae 60 = b ∧ ae 61 = L ∧ mEnv ae (fun q => s.heap.size ≤ q) s s.heap := by
  have hA : ∀ a : Nat, a < s.heap.size → ¬ (fun q : Nat => s.heap.size ≤ q) a := fun a h => Nat.not_le.mpr h
  have h0 : ∀ i : Nat, ∃ q : Nat × Nat, i < 20 → vk_S 1 [mLen.getD i 0] [mByt.getD i []] (fun _ => q.1) (fun _ => q.2) (fun q => s.heap.size ≤ q) s s.heap ∧ (sT i).eval args s none [] s = some (.ref q.1) := by
    intro i
    by_cases hi : i < 20
    · obtain ⟨adK, adV, hs, he⟩ := vk_Sof (N := 1) (tm := fun _ => sT i) (len := [mLen.getD i 0]) (byt := [mByt.getD i []]) (A := fun q => s.heap.size ≤ q) (args := args) (s := s)
        (fun j hj => by have e : j = 0 := by omega
                        subst e; exact sK_len i hi)
        (fun j _ => hF _ _ (nf_ex i hi)) (fun j _ => hF _ _ (nf_co i hi)) (fun j _ => hF _ _ (nf_ar i hi))
        (fun j hj => by have e : j = 0 := by omega
                        subst e; exact hF _ _ (nf_le i hi))
        (fun j hj k hk => by have e : j = 0 := by omega
                             subst e; exact hF _ _ (nf_el i hi k hk))
        (fun j k hj hk hne => absurd (by omega) hne) hA
      refine ⟨(adK 0, adV 0), fun _ => ⟨⟨fun j hj => ?_, fun j k hj hk _ => by omega⟩, he 0 (by decide)⟩⟩
      have e : j = 0 := by omega
      subst e
      exact hs.1 0 (by decide)
    · exact ⟨(0, 0), fun h => absurd h hi⟩
  obtain ⟨st, hst⟩ := Classical.axiomOfChoice h0
  have h1 : ∀ j : Nat, ∃ t : Nat, j < 4 → va_Z RX9 (mTabN j) "[I" (.ref t) (fun q => s.heap.size ≤ q) s s.heap ∧ va_T .int t (mTab j).length (fun i => .int ((mTab j).getD i 0)) (fun q => s.heap.size ≤ q) s s.heap := by
    intro j
    by_cases hj : j < 4
    · obtain ⟨t, ht, hTt⟩ := va_Tof (tm := tT j) (ty := .int) (f := fun i => .int ((mTab j).getD i 0)) (A := fun q => s.heap.size ≤ q) (mTab_len j hj) (hF _ _ (nf_ta j hj)) (va_eqt (hF _ _ (nf_tl j hj))) (fun i hi => va_eqt (hF _ _ (nf_te j hj i hi))) hA
      exact ⟨t, fun _ => ⟨va_Zref (hT _ (List.mem_of_getElem? (nf_ls j hj))) (hT _ nf_ib) ht hA, hTt⟩⟩
    · exact ⟨0, fun h => absurd h hj⟩
  obtain ⟨tb, htb⟩ := Classical.axiomOfChoice h1
  have h2 : ∃ f : Nat × Nat, va_Z "jdk/internal/util/Preconditions" "SIOOBE_FORMATTER" "Ljava/util/function/BiFunction;" (if f.1 = 0 then .null else .ref f.2) (fun q => s.heap.size ≤ q) s s.heap := by
    rcases va_Zqof (A := fun q => s.heap.size ≤ q) (hT _ nf_lf) (hT _ nf_ip) (hF _ _ nf_s) hA with h | ⟨t, h⟩
    · exact ⟨(0, 0), by simpa using h⟩
    · exact ⟨(1, t), by simpa using h⟩
  obtain ⟨f, hf⟩ := h2
  refine ⟨lwAe tb f.1 f.2 b L st xs, ae_60, ae_61, ?_⟩
  refine ⟨fun i hi => ?_, fun i q hq => ?_, fun j hj => ?_, va_Zof (hT _ nf_lc) (hT _ nf_is) (va_eqt (hF _ _ nf_c)) hA, hf, ?_⟩
  · rw [ae_k hi, ae_v hi]
    exact (hst i hi).1
  · have hi : i < 20 := (List.getElem?_eq_some_iff.mp hq).1
    rw [sK_at i hi] at hq
    cases hq
    rw [ae_k hi]
    exact vk_R.of (hT _ (List.mem_of_getElem? (nf_sr i hi))) (hst i hi).2
  · rw [ae_t hj]
    exact htb j hj
  · obtain ⟨scr, x1, x2, x3, x4, x5⟩ := hX
    refine ⟨scr, x1, x2, x3, Nat.le_of_eq x4.symm, by rw [x4]; rfl, fun j hj => ?_, Nat.not_le.mpr hb⟩
    rw [x5 j hj]
    dsimp only
    rw [ae_x]
