/-! The judgement Ev: from a point of a method's body, over a world of cells whose shape is a list and whose numbers are two functions, the method returns with Post. -/
abbrev mSh : Type := List (Nat ⊕ (Nat × List Value))
abbrev mSt : Type := (Nat → Nat → Int32) × (Nat → Nat → Int64)
def mVal (σ : mSt) (i k : Nat) : Value → Value
  | .int _ => .int (σ.1 i k)
  | .long _ => .long (σ.2 i k)
  | v => v
def mCell (cy : ClassId) (σ : mSt) (i : Nat) : Nat ⊕ (Nat × List Value) → va_E
  | .inl n => .inl (cy, n, .inl (σ.1 i))
  | .inr o => .inr (o.1, o.2.mapIdx (mVal σ i))
def mW (cy : ClassId) (ad : Nat → Nat) (sh : mSh) (σ : mSt) : va_W := sh.mapIdx (fun i e => (ad i, mCell cy σ i e))
theorem mW_at {cy : ClassId} {ad : Nat → Nat} {sh : mSh} {σ : mSt} {i : Nat} {e : Nat ⊕ (Nat × List Value)} (h : sh[i]? = some e) : (mW cy ad sh σ)[i]? = some (ad i, mCell cy σ i e) := by
  rw [mW, List.getElem?_mapIdx, h]; rfl
/-- a number put at a place -/
def mu (h : Nat → Nat → Int32) (i j : Nat) (x : Int32) : Nat → Nat → Int32 := fun k => if k = i then upd (h i) j x else h k
def mul (h : Nat → Nat → Int64) (i j : Nat) (x : Int64) : Nat → Nat → Int64 := fun k => if k = i then (fun q => if q = j then x else h i q) else h k
/-- a whole row put at a place -/
def mr (h : Nat → Nat → Int32) (i : Nat) (f : Nat → Int32) : Nat → Nat → Int32 := fun k => if k = i then f else h k
theorem mVal_ne {σ σ' : mSt} {i : Nat} (h1 : σ'.1 i = σ.1 i) (h2 : σ'.2 i = σ.2 i) : mVal σ' i = mVal σ i := by
  funext k v; cases v <;> simp [mVal, h1, h2]
theorem mCell_ne {cy : ClassId} {σ σ' : mSt} {i : Nat} (h1 : σ'.1 i = σ.1 i) (h2 : σ'.2 i = σ.2 i) (e : Nat ⊕ (Nat × List Value)) : mCell cy σ' i e = mCell cy σ i e := by
  cases e with
  | inl n => simp [mCell, h1]
  | inr o => simp only [mCell, mVal_ne h1 h2]
theorem mW_set {cy : ClassId} {ad : Nat → Nat} {sh : mSh} {σ σ' : mSt} {i : Nat} {e : Nat ⊕ (Nat × List Value)} (h : sh[i]? = some e) (hne : ∀ k, k ≠ i → σ'.1 k = σ.1 k ∧ σ'.2 k = σ.2 k) : (mW cy ad sh σ).set i (ad i, mCell cy σ' i e) = mW cy ad sh σ' := by
  apply List.ext_getElem?
  intro k
  by_cases hk : k = i
  · subst hk
    have hl : k < (mW cy ad sh σ).length := by
      rw [mW, List.length_mapIdx]; exact (List.getElem?_eq_some_iff.mp h).1
    rw [List.getElem?_set_self hl, mW_at h]
  · rw [List.getElem?_set_ne (fun q => hk q.symm), mW, mW, List.getElem?_mapIdx, List.getElem?_mapIdx]
    cases sh[k]? with
    | none => rfl
    | some x => simp only [Option.map_some, mCell_ne (hne k hk).1 (hne k hk).2]
theorem mW_put {cy : ClassId} {ad : Nat → Nat} {sh : mSh} {σ σ' : mSt} {i ci k : Nat} {fs fs' : List Value} {v : Value} (h : sh[i]? = some (.inr (ci, fs))) (hne : ∀ k, k ≠ i → σ'.1 k = σ.1 k ∧ σ'.2 k = σ.2 k) (hv : (fs.mapIdx (mVal σ i)).set k v = fs.mapIdx (mVal σ' i)) : (mW cy ad sh σ).set i (ad i, .inr (ci, (fs.mapIdx (mVal σ i)).set k v)) = mW cy ad sh σ' := by
  rw [hv]; exact mW_set h hne
theorem mW_app {cy : ClassId} {ad ad1 : Nat → Nat} {sh : mSh} {σ σ1 : mSt} {e : Nat ⊕ (Nat × List Value)} (ha : ∀ j, j < sh.length → ad1 j = ad j) (hs : ∀ k, k ≠ sh.length → σ1.1 k = σ.1 k ∧ σ1.2 k = σ.2 k) : mW cy ad1 (sh ++ [e]) σ1 = mW cy ad sh σ ++ [(ad1 sh.length, mCell cy σ1 sh.length e)] := by
  apply List.ext_getElem?
  intro k
  rw [mW, mW, List.getElem?_mapIdx]
  rcases Nat.lt_trichotomy k sh.length with hk | hk | hk
  · rw [List.getElem?_append_left hk, List.getElem?_append_left (by rw [List.length_mapIdx]; exact hk), List.getElem?_mapIdx]
    cases hx : sh[k]? with
    | none => rfl
    | some x => simp only [Option.map_some, ha k hk, mCell_ne (hs k (by omega)).1 (hs k (by omega)).2]
  · subst hk
    simp
  · rw [List.getElem?_append_right (by omega), List.getElem?_append_right (by rw [List.length_mapIdx]; omega), List.length_mapIdx]
    have hz : k - sh.length = (k - sh.length - 1) + 1 := by omega
    rw [hz]
    simp

def mSTEPX : List Int32 := [0, 0, 1, (-1), 1, 1, (-1), (-1), 0, 0, 2, (-2), 1, 1, (-1), (-1), 2, 2, (-2), (-2), 2, 2, (-2), (-2), 1, 1, (-1), (-1), 3, 3, (-3), (-3)]
def mSTEPY : List Int32 := [1, (-1), 0, 0, 1, (-1), 1, (-1), 2, (-2), 0, 0, 2, (-2), 2, (-2), 1, (-1), 1, (-1), 2, (-2), 2, (-2), 3, (-3), 3, (-3), 1, (-1), 1, (-1)]
def mASTART : List Int32 := [0, 4, 8, 12, 20, 24, 0]
def mAEND : List Int32 := [4, 8, 12, 20, 24, 32, 8]
def mTab : Nat → List Int32
  | 0 => mSTEPX
  | 1 => mSTEPY
  | 2 => mASTART
  | _ => mAEND
def mTabN : Nat → String
  | 0 => "STEP_X"
  | 1 => "STEP_Y"
  | 2 => "ATOM_START"
  | _ => "ATOM_END"
def mLen : List Nat := [4, 5, 4, 6, 6, 4, 6, 1, 2, 2, 2, 1, 6, 7, 6, 7, 42, 28, 6, 7]
def mByt : List (List Int32) := [[107, 105, 110, 103], [113, 117, 101, 101, 110], [114, 111, 111, 107], [98, 105, 115, 104, 111, 112], [107, 110, 105, 103, 104, 116], [112, 97, 119, 110], [99, 97, 110, 110, 111, 110], [75], [75, 48], [87, 48], [70, 48], [78], [109, 102, 87, 99, 102, 70], [109, 87, 48, 99, 104, 87, 48], [109, 99, 102, 98, 115, 104], [87, 70, 68, 78, 65, 67, 75], [107, 105, 110, 103, 32, 113, 117, 101, 101, 110, 32, 114, 111, 111, 107, 32, 98, 105, 115, 104, 111, 112, 32, 107, 110, 105, 103, 104, 116, 32, 112, 97, 119, 110, 32, 99, 97, 110, 110, 111, 110, 32], [75, 32, 75, 48, 32, 87, 48, 32, 70, 48, 32, 78, 32, 109, 102, 87, 99, 102, 70, 32, 109, 87, 48, 99, 104, 87, 48, 32], [109, 99, 102, 98, 115, 104], [87, 70, 68, 78, 65, 67, 75]]
def mStrK : List (String × Nat × String) := [(RX4, 85, "king"), (RX4, 87, "queen"), (RX4, 89, "rook"), (RX4, 91, "bishop"), (RX4, 93, "knight"), (RX4, 95, "pawn"), (RX4, 97, "cannon"), (RX4, 99, "K"), (RX4, 101, "K0"), (RX4, 103, "W0"), (RX4, 105, "F0"), (RX4, 107, "N"), (RX4, 109, "mfWcfF"), (RX4, 111, "mW0chW0"), (RX4, 66, "mcfbsh"), (RX4, 71, "WFDNACK"), (RX10, 89, "king queen rook bishop knight pawn cannon "), (RX10, 127, "K K0 W0 F0 N mfWcfF mW0chW0 "), (RX10, 114, "mcfbsh"), (RX10, 118, "WFDNACK")]
def mFmt (ae : Nat → Nat) : Value := if ae 50 = 0 then .null else .ref (ae 51)
/-- what lies outside the world: strings, tables -/
def mEnv (ae : Nat → Nat) (A : Nat → Prop) (U : State) (H : Heap) : Prop :=
  (∀ i : Nat, i < 20 → vk_S 1 [mLen.getD i 0] [mByt.getD i []] (fun _ => ae (100 + i)) (fun _ => ae (200 + i)) A U H) ∧ (∀ i q, mStrK[i]? = some q → vk_R q.1 q.2.1 q.2.2 (ae (100 + i)) U) ∧
  (∀ i, i < 4 → va_Z RX9 (mTabN i) "[I" (.ref (ae i)) A U H ∧ va_T .int (ae i) (mTab i).length (fun j => .int ((mTab i).getD j 0)) A U H) ∧
  va_Z "java/lang/String" "COMPACT_STRINGS" "Z" (.int 1) A U H ∧ va_Z "jdk/internal/util/Preconditions" "SIOOBE_FORMATTER" "Ljava/util/function/BiFunction;" (mFmt ae) A U H ∧
  va_T .int (ae 60) (ae 61) (fun j => .int (Int32.ofNat (ae (1000 + j)))) A U H
theorem mEnv.kept {ae : Nat → Nat} {A : Nat → Prop} {U : State} {H H1 : Heap} (h : mEnv ae A U H) (hq : ∀ a : Nat, a < H.size → ¬ A a → H1[a]? = H[a]?) : mEnv ae A U H1 :=
  ⟨fun i hi => (h.1 i hi).kept hq, h.2.1, fun i hi => ⟨(h.2.2.1 i hi).1.kept hq, (h.2.2.1 i hi).2.kept hq⟩, h.2.2.2.1.kept hq, h.2.2.2.2.1.kept hq, h.2.2.2.2.2.kept hq⟩
theorem mEnv.narrow {ae : Nat → Nat} {A B : Nat → Prop} {U : State} {H : Heap} (h : mEnv ae A U H) (hAB : ∀ q, B q → A q) : mEnv ae B U H :=
  ⟨fun i hi => (h.1 i hi).narrow hAB, h.2.1, fun i hi => ⟨(h.2.2.1 i hi).1.narrow hAB, (h.2.2.1 i hi).2.narrow hAB⟩, h.2.2.2.1.narrow hAB, h.2.2.2.2.1.narrow hAB, h.2.2.2.2.2.narrow hAB⟩
theorem mEnv.warm {ae : Nat → Nat} {A : Nat → Prop} {s U : State} {H : Heap} (hW : s.WarmedH U.vm) (h : mEnv ae A s H) : mEnv ae A U H :=
  ⟨fun i hi => (h.1 i hi).moved hW.alike, fun i q hq => vk_R.warm hW (h.2.1 i q hq), fun i hi => ⟨(h.2.2.1 i hi).1.moved hW.alike, (h.2.2.1 i hi).2.moved hW.alike⟩, h.2.2.2.1.moved hW.alike, h.2.2.2.2.1.moved hW.alike, h.2.2.2.2.2.moved hW.alike⟩
theorem mEnv.same {ae : Nat → Nat} {A : Nat → Prop} {s U : State} {H : Heap} (hv : U.vm = s.vm) (h : mEnv ae A s H) : mEnv ae A U H := by
  have hal : s.vm.Alike U.vm := by rw [hv]; exact Vm.Alike.refl s.vm
  exact ⟨fun i hi => (h.1 i hi).moved hal, fun i q hq => vk_R.same hv (h.2.1 i q hq), fun i hi => ⟨(h.2.2.1 i hi).1.moved hal, (h.2.2.1 i hi).2.moved hal⟩, h.2.2.2.1.moved hal, h.2.2.2.2.1.moved hal, h.2.2.2.2.2.moved hal⟩
def mNest : Cond → Bool
  | .methodLinkNest .. => true
  | .fieldLinkNest .. => true
  | _ => false
def mTs : List Cond := lw_tbl.filter goodWord
theorem mTs_i (i : Nat) {w : Cond} (h : lw_tbl[i]? = some w) (g : goodWord w = true) : w ∈ mTs := List.mem_filter.mpr ⟨List.mem_of_getElem? h, g⟩
theorem mNest_warm {w : Cond} (hn : mNest w = true) {s U : State} (hW : s.WarmedH U.vm) (h : va_Nw w s) : va_Nw w U := by
  cases w <;> simp [mNest] at hn
  · exact va_Nw.warmM hW h
  · exact va_Nw.warmF hW h
theorem mNest_same {w : Cond} (hn : mNest w = true) {s U : State} (hv : s.vm = U.vm) (h : va_Nw w s) : va_Nw w U := by
  cases w <;> simp [mNest] at hn
  · exact va_Nw.same rfl hv h
  · exact va_Nw.same rfl hv h
/-- the world at a call's entry -/
def mPre (D : va_G) (cy : ClassId) (ae ad : Nat → Nat) (sh : mSh) (σ : mSt) (U : State) : Prop :=
  va_P D vwCl (mW cy ad sh σ) U.heap ∧ va_K D vwCl [(cy, .int)] U ∧ va_D (fun _ => True) (mW cy ad sh σ) ∧ (∀ w ∈ tables_1, mNest w = true → va_Nw w U) ∧ mEnv ae (va_A (mW cy ad sh σ) U.heap.size) U U.heap
theorem mPre.blind {D : va_G} {cy : ClassId} {ae ad : Nat → Nat} {sh : mSh} {σ : mSt} {sz : Nat} {av : List Value} : FrameBlind (va_Pc av (fun U => U.heap.size = sz ∧ mPre D cy ae ad sh σ U)) := by
  intro a U g mk q
  obtain ⟨q0, q1, qP, qK, qD, qN, qE⟩ := q
  exact ⟨q0, q1, qP, va_K.moved (u := U) (U := U.calling g mk a) (Vm.Alike.refl U.vm) qK, qD, fun w hw hn => mNest_same (s := U) (U := U.calling g mk a) hn rfl (qN w hw hn), mEnv.same (s := U) (U := U.calling g mk a) rfl qE⟩
abbrev mPost : Type := Option Value → (Nat → Nat) → mSh → mSt → Prop
def mQ (D : va_G) (cy : ClassId) (A : Nat → Prop) (Post : mPost) : Array Value → State → Outcome → State → Prop := fun _ st o t =>
  (∃ (v : Option Value) (ad' : Nat → Nat) (sh' : mSh) (σ' : mSt), o = .returned v ∧ Post v ad' sh' σ' ∧ va_P D vwCl (mW cy ad' sh' σ') t.heap ∧ va_D A (mW cy ad' sh' σ')) ∧ va_F A st t
def mRm (d mc ms : Nat) : Room := { frames := d, cells := mc, slots := ms, locals := 45 * d }
def mWs (y : MethodName) (cc : ByteArray) (nL : Nat) (ret : Option FieldType) : List Cond := .code y cc nL ret :: mTs
/-- a method's contract: called with these values in this world, it returns with Post -/
def Ct (y : MethodName) (cc : ByteArray) (nL : Nat) (ret : Option FieldType) (d mc ms : Nat) (av : List Value) (ae ad : Nat → Nat) (sh : mSh) (σ : mSt) (Post : mPost) : Prop :=
  ∀ (l : Launch) (D : va_G) (cy : ClassId) (sz : Nat), Met l y (mWs y cc nL ret) (mRm d mc ms) (va_Pc av (fun U => U.heap.size = sz ∧ mPre D cy ae ad sh σ U)) (mQ D cy (va_A (mW cy ad sh σ) sz) Post) mc ms (va_A (mW cy ad sh σ) sz)
/-- the listed locals -/
def mLv (arr : Array Slot) (nL : Nat) (ls : List (Option Value)) : Prop := arr.size = nL ∧ lv_wf arr ∧ ∀ (i : Nat) (v : Value), ls[i]? = some (some v) → arr[i]? = some (Slot.val v)
def mLs (ls : List (Option Value)) : List (Nat × Value) := (List.range ls.length).filterMap (fun i => (ls[i]?.join).map (fun v => (i, v)))
theorem mLs_mem {ls : List (Option Value)} {i : Nat} {v : Value} : (i, v) ∈ mLs ls ↔ ls[i]? = some (some v) := by
  unfold mLs
  rw [List.mem_filterMap]
  constructor
  · rintro ⟨j, -, h⟩
    cases hj : ls[j]? with
    | none => simp [hj] at h
    | some x =>
      cases x with
      | none => simp [hj] at h
      | some w =>
        simp [hj] at h
        obtain ⟨rfl, rfl⟩ := h
        exact hj
  · intro h
    refine ⟨i, List.mem_range.mpr (List.getElem?_eq_some_iff.mp h).1, ?_⟩
    simp [h]
theorem mLv.has {arr : Array Slot} {nL : Nat} {ls : List (Option Value)} (h : mLv arr nL ls) : lv_has arr nL (mLs ls) := ⟨h.1, h.2.1, fun q hq => h.2.2 q.1 q.2 (mLs_mem.mp hq)⟩
theorem mLv.set1 {arr : Array Slot} {nL i : Nat} {ls : List (Option Value)} {v : Value} (hc : v.category = 1) (hp : ∀ j w, j + 1 = i → ls[j]? = some (some w) → w.category = 1)
    (h : lv_has arr nL ((i, v) :: (mLs ls).filter (fun q => !(q.1 == i) && !(q.1 + 1 == i && q.2.category == 2)))) : mLv arr nL (ls.set i (some v)) := by
  refine ⟨h.1, h.2.1, fun j w hj => ?_⟩
  by_cases hji : j = i
  · subst hji
    by_cases hl : j < ls.length
    · rw [List.getElem?_set_self hl] at hj
      cases hj
      exact h.2.2 (j, v) List.mem_cons_self
    · rw [List.getElem?_eq_none (by rw [List.length_set]; omega)] at hj
      cases hj
  · rw [List.getElem?_set_ne (fun q => hji q.symm)] at hj
    refine h.2.2 (j, w) (List.mem_cons_of_mem _ (List.mem_filter.mpr ⟨mLs_mem.mpr hj, ?_⟩))
    simp only [Bool.and_eq_true, Bool.not_eq_true', beq_eq_false_iff_ne, ne_eq, Bool.and_eq_false_iff]
    refine ⟨hji, ?_⟩
    by_cases h2 : j + 1 = i
    · right
      have := hp j w h2 hj
      omega
    · left; exact h2
theorem mLv.set2 {arr : Array Slot} {nL i : Nat} {ls : List (Option Value)} {v : Value} (hp : ∀ j w, j + 1 = i → ls[j]? = some (some w) → w.category = 1)
    (h : lv_has arr nL ((i, v) :: (mLs ls).filter (fun q => !(q.1 == i) && (!(q.1 == i + 1) && !(q.1 + 1 == i && q.2.category == 2))))) : mLv arr nL ((ls.set i (some v)).set (i + 1) none) := by
  refine ⟨h.1, h.2.1, fun j w hj => ?_⟩
  by_cases hj1 : j = i + 1
  · subst hj1
    by_cases hl : i + 1 < (ls.set i (some v)).length
    · rw [List.getElem?_set_self hl] at hj
      cases hj
    · rw [List.getElem?_eq_none (by rw [List.length_set]; omega)] at hj
      cases hj
  · rw [List.getElem?_set_ne (fun q => hj1 q.symm)] at hj
    by_cases hji : j = i
    · subst hji
      by_cases hl : j < ls.length
      · rw [List.getElem?_set_self hl] at hj
        cases hj
        exact h.2.2 (j, v) List.mem_cons_self
      · rw [List.getElem?_eq_none (by rw [List.length_set]; omega)] at hj
        cases hj
    · rw [List.getElem?_set_ne (fun q => hji q.symm)] at hj
      refine h.2.2 (j, w) (List.mem_cons_of_mem _ (List.mem_filter.mpr ⟨mLs_mem.mpr hj, ?_⟩))
      simp only [Bool.and_eq_true, Bool.not_eq_true', beq_eq_false_iff_ne, ne_eq, Bool.and_eq_false_iff]
      refine ⟨hji, hj1, ?_⟩
      by_cases h2 : j + 1 = i
      · right
        have := hp j w h2 hj
        omega
      · left; exact h2
/-- how a method of a return type ends -/
def mRetI (ret : Option FieldType) (i : Instr) (v : Option Value) : Prop :=
  (ret = none ∧ i = .return_ ∧ v = none) ∨ (∃ ty x, ret = some ty ∧ i = .ireturn ∧ v = some (.int x) ∧ narrow ty (.int x) = .int x) ∨ (∃ x, ret = some .long ∧ i = .lreturn ∧ v = some (.long x)) ∨ (∃ n a, ret = some (.object n) ∧ i = .areturn ∧ v = some (.ref a))
def mCx (p : Program) (s : State) (m : MethodId) (args : Array Value) (meth : Method) (c : Code) (own : String) (cc : ByteArray) (nL : Nat) (ini : Bool) (D : va_G) (cy : ClassId) : Prop :=
  p.tables.exec = Jvm.exec ∧ c.code = cc ∧ c.maxLocals = nL ∧ s.vm.findClass own = some m.cls ∧ (∀ w ∈ mTs, w.before args s = true) ∧ (∀ w ∈ tables_1, mNest w = true → va_Nw w s) ∧ va_K D vwCl [(cy, .int)] s ∧ (ini = true → meth.name = "<init>")
def mRet (p : Program) (l : Launch) (e : Env) (R : Room) (s : State) (m : MethodId) (args : Array Value) (below : List Frame) (meth : Method) (c : Code) (cc : ByteArray) (ret : Option FieldType) (D : va_G) (cy : ClassId) (A : Nat → Prop) (Q : State → Prop) (Post : mPost) : Prop :=
  ∀ (v : Option Value) (ad : Nat → Nat) (sh : mSh) (σ : mSt) (H : Heap) (locs : List Loc) (arr : Array Slot) (pc : Nat) (i : Instr), Post v ad sh σ → va_P D vwCl (mW cy ad sh σ) H → va_D A (mW cy ad sh σ) → va_S A s.heap H locs → decode cc pc = .ok (i, 1) → mRetI ret i v → W p l e R s m args below meth c H locs R.cells R.slots Q (F0 m pc arr v.toList)
/-- from this point on the body comes to its return with Post -/
def Ev (own : String) (cc : ByteArray) (nL : Nat) (ini : Bool) (ret : Option FieldType) (R : Room) (ae : Nat → Nat) (Post : mPost) (pc : Nat) (ls : List (Option Value)) (st : List Value) (k n : Nat) (ad : Nat → Nat) (sh : mSh) (σ : mSt) : Prop :=
  ∀ (p : Program) (l : Launch) (e : Env) (s : State) (m : MethodId) (args : Array Value) (below : List Frame) (meth : Method) (c : Code) (D : va_G) (cy : ClassId) (A : Nat → Prop) (Q : State → Prop) (H : Heap) (locs : List Loc) (arr : Array Slot),
    mCx p s m args meth c own cc nL ini D cy → mEnv ae A s s.heap → (∀ q, s.heap.size ≤ q → A q) → va_P D vwCl (mW cy ad sh σ) H → va_D A (mW cy ad sh σ) → va_S A s.heap H locs → mLv arr nL ls → mRet p l e R s m args below meth c cc ret D cy A Q Post →
    W p l e R s m args below meth c H locs k n Q (F0 m pc arr st)

theorem mQ_q {D : va_G} {cy : ClassId} {A : Nat → Prop} {Post : mPost} {args : Array Value} {s t : State} {H : Heap} {locs : List Loc} {v : Option Value} {ad : Nat → Nat} {sh : mSh} {σ : mSt} (hp : Post v ad sh σ) (hP : va_P D vwCl (mW cy ad sh σ) H) (hD : va_D A (mW cy ad sh σ)) (hS : va_S A s.heap H locs) (ht : t.heap = H) : mQ D cy A Post args s (.returned v) t :=
  ⟨⟨v, ad, sh, σ, rfl, hp, by rw [ht]; exact hP, hD⟩, hS.F ht⟩
set_option maxHeartbeats 4000000 in
/-- a contract out of a walk -/
theorem Ct.of {y : MethodName} {own : String} {cc : ByteArray} {nL : Nat} {ini : Bool} {ret : Option FieldType} {d mc ms : Nat} {av : List Value} {ae ad : Nat → Nat} {sh : mSh} {σ : mSt} {Post : mPost} {ls : List (Option Value)} (hy : plainName y.cls = true) (hown : own = y.cls) (hini : ini = true → y.name = "<init>") (hn : (lg_sl av).length ≤ nL)
    (hls : ∀ i v, ls[i]? = some (some v) → (i, v) ∈ lv_args 0 av)
    (K : Ev own cc nL ini ret (mRm d mc ms) ae Post 0 ls [] 0 0 ad sh σ) : Ct y cc nL ret d mc ms av ae ad sh σ Post := by
  subst hown
  intro l D cy sz
  refine Met.ofW (cc := cc) (maxL := nL) (ret := ret) hy rfl ?_
  intro p e s m args below meth c s₁ B hml hv
  obtain ⟨rfl, hsz, hP, hK, hD0, hN, hE⟩ := hv
  have hx := B.exec
  have hb := B.bytes
  have hr := B.returns
  have hts := atoms_spec (ws := mWs y cc nL ret) B.pre
  have hown : s.vm.findClass y.cls = some m.cls := findClass_of_methodNamed B.named
  have hlocks : meth.locks = false := B.notSynchronized
  have hin : ini = true → meth.name = "<init>" := fun h => (name_of_methodNamed B.named B.method).1.trans (hini h)
  subst hsz
  have hl := lv_entry av (n := nL) hn
  rw [lg_entry_eq]
  refine K p l e s m _ below meth c D cy (va_A (mW cy ad sh σ) s.heap.size) _ s.heap [] _ ⟨hx, hb, hml, hown, fun w hw => hts w (List.mem_cons_of_mem _ hw), hN, hK, hin⟩ hE (fun q h => Or.inr h) hP hD0.self va_S.rf ⟨hl.1, hl.2.1, fun i v h => hl.2.2 (i, v) (hls i v h)⟩ ?_
  intro v ad' sh' σ' H locs arr pc i hp hP1 hD1 hS1 hdec hri
  rcases hri with ⟨e1, e2, e3⟩ | ⟨ty, x, e1, e2, e3, e4⟩ | ⟨x, e1, e2, e3⟩ | ⟨n, a, e1, e2, e3⟩
  · subst e2; subst e3
    exact W.vret hx hb (hr.trans e1) (fun t ht hW => mQ_q hp hP1 hD1 hS1 ht) hS1.2.2 hdec hlocks
  · subst e2; subst e3
    exact W.zret hx hb (hr.trans e1) e4 (fun t ht hW => mQ_q hp hP1 hD1 hS1 ht) hS1.2.2 hdec hlocks
  · subst e2; subst e3
    exact W.lret hx hb (hr.trans e1) (fun t ht hW => mQ_q hp hP1 hD1 hS1 ht) hS1.2.2 hdec hlocks
  · subst e2; subst e3
    exact W.aret hx hb (hr.trans e1) (Or.inl ⟨n, rfl⟩) (Or.inr ⟨a, rfl⟩) (fun t ht hW => mQ_q hp hP1 hD1 hS1 ht) hS1.2.2 hdec hlocks
