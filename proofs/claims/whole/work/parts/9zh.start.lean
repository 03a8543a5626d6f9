/-! THE CLAIM OUT OF ONE WALK OF THE LAW'S BODY. Your part is whole_start (and what it stands on); all else here is the same for every law, but numbers. -/
def R_law : String := "VariantBoardLaw"
def lw_P (b : Addr) (xs : List Int32) (args : Array Value) (s : State) : Prop := args = #[.ref b] ∧ s.IntsAt b xs ∧ xs.length ≤ 3584 ∧ (Jvm.Cond.and given_1 narrow_1).before args s = true
def lw_Q (_ : Array Value) (s : State) (o : Outcome) (t : State) : Prop := o = .returned (some (.int 1)) ∧ Framed s o t [] 600000 7302250
def lw_Z (below : List Frame) (a : Array Value) (s : State) : State → Prop := fun t => ∃ o, t.status = .running ∧ Ended t below o ∧ lw_Q a s o t
/-- the law's own end, with 1 on the stack, nothing written that was there before, its room as the claim has it -/
theorem lw_ret {p : Program} {l : Launch} {e : Env} {s : State} {m : MethodId} {below : List Frame} {meth : Method} {c : Code} {b : Nat} (hx : p.tables.exec = Jvm.exec) (hb : c.code = code) (hr : meth.sig.returnType = ret) (hlocks : meth.locks = false) {pc : Nat} {H : Heap} {ls : Array Slot} (hdg : decode code pc = .ok (.ireturn, 1)) : W p l e room_1 s m #[Value.ref b] below meth c H [] 600000 7302250 (lw_Z below #[Value.ref b] s) (F0 m pc ls [.int 1]) := by
  intro T hT X
  obtain ⟨fs, hret, hrun, hended, hW, hframe⟩ := X.leave (v := some (.int 1)) (hlocks := hlocks) (fun h => by rw [hr] at h; cases h)
  have hmeth' : T.vm.method? m = some meth := X.method'
  refine ⟨T.setFrames fs, ?_, .returned (some (.int 1)), hrun, hended, rfl, ⟨_, rfl⟩, hW, hframe⟩
  jvm_step X.here [X.here.top, hx, hb, hdg, hmeth', hr, ret, narrow_b1]
  (try refine ⟨rfl, ?_⟩); (try refine ⟨rfl, ?_⟩)
  first | (intro acts; rw [hret _ acts rfl rfl rfl]) | rw [hret _ _ rfl rfl rfl]
  exact Steps.refl _
/-- what holds at the law's entry: the machine, the code, the tables' words (any of lw_tbl by 'hts w (by decide +kernel)'), the script of L ints xs at the cell b, what the Statement gives of the start (any of its parts by flat_of_before) -/
def lw_At (p : Program) (s : State) (m : MethodId) (meth : Method) (c : Code) (b L : Nat) (xs : Nat → Int32) : Prop :=
  p.tables.exec = Jvm.exec ∧ c.code = code ∧ meth.sig.returnType = ret ∧ c.maxLocals = 4 ∧ s.vm.findClass R_law = some m.cls ∧ (∀ w ∈ lw_tbl, w.before #[Value.ref b] s = true) ∧ va_X b L xs s s.heap ∧ b < s.heap.size ∧ meth.locks = false ∧ (Jvm.Cond.and given_1 narrow_1).before #[Value.ref b] s = true

theorem lw_D {s : State} {args : Array Value} (hts : ∀ w ∈ mTs, w.before args s = true) : ∃ D : va_G, ∀ (k : Nat) (q : vw_C), vwCl[k]? = some q → u_Kn s q.1 q.2.1 q.2.2 (D.1 k) (D.2 k) := by
  have h0 : ∀ k : Nat, ∃ q : ClassId × (Nat → Nat), ∀ C : vw_C, vwCl[k]? = some C → u_Kn s C.1 C.2.1 C.2.2 q.1 q.2 := by
    intro k
    rcases (show k = 0 ∨ k = 1 ∨ k = 2 ∨ k = 3 ∨ k = 4 ∨ k = 5 ∨ k = 6 ∨ k = 7 ∨ k = 8 ∨ k = 9 ∨ k = 10 ∨ 11 ≤ k by omega) with e | e | e | e | e | e | e | e | e | e | e | e
    · subst e
      obtain ⟨c, i, h⟩ := u_known (ws := mTs) (n := 5) hts mk_X0.2.1 (hts _ (mTs_i 288 (by decide +kernel) (by decide +kernel)))
      exact ⟨(c, i), fun C hC => by
        have e : vwCl[0]? = some (RX0, TX0, 5) := rfl
        rw [e] at hC
        cases hC
        exact h⟩
    · subst e
      obtain ⟨c, i, h⟩ := u_known (ws := mTs) (n := 11) hts mk_X1.2.1 (hts _ (mTs_i 116 (by decide +kernel) (by decide +kernel)))
      exact ⟨(c, i), fun C hC => by
        have e : vwCl[1]? = some (RX1, TX1, 11) := rfl
        rw [e] at hC
        cases hC
        exact h⟩
    · subst e
      obtain ⟨c, i, h⟩ := u_known (ws := mTs) (n := 2) hts mk_X2.2.1 (hts _ (mTs_i 100 (by decide +kernel) (by decide +kernel)))
      exact ⟨(c, i), fun C hC => by
        have e : vwCl[2]? = some (RX2, TX2, 2) := rfl
        rw [e] at hC
        cases hC
        exact h⟩
    · subst e
      obtain ⟨c, i, h⟩ := u_known (ws := mTs) (n := 2) hts mk_X3.2.1 (hts _ (mTs_i 271 (by decide +kernel) (by decide +kernel)))
      exact ⟨(c, i), fun C hC => by
        have e : vwCl[3]? = some (RX3, TX3, 2) := rfl
        rw [e] at hC
        cases hC
        exact h⟩
    · subst e
      obtain ⟨c, i, h⟩ := u_known (ws := mTs) (n := 4) hts mk_X4.2.1 (hts _ (mTs_i 183 (by decide +kernel) (by decide +kernel)))
      exact ⟨(c, i), fun C hC => by
        have e : vwCl[4]? = some (RX4, TX4, 4) := rfl
        rw [e] at hC
        cases hC
        exact h⟩
    · subst e
      obtain ⟨c, i, h⟩ := u_known (ws := mTs) (n := 1) hts mk_X5.2.1 (hts _ (mTs_i 173 (by decide +kernel) (by decide +kernel)))
      exact ⟨(c, i), fun C hC => by
        have e : vwCl[5]? = some (RX5, TX5, 1) := rfl
        rw [e] at hC
        cases hC
        exact h⟩
    · subst e
      obtain ⟨c, i, h⟩ := u_known (ws := mTs) (n := 8) hts mk_X6.2.1 (hts _ (mTs_i 206 (by decide +kernel) (by decide +kernel)))
      exact ⟨(c, i), fun C hC => by
        have e : vwCl[6]? = some (RX6, TX6, 8) := rfl
        rw [e] at hC
        cases hC
        exact h⟩
    · subst e
      obtain ⟨c, i, h⟩ := u_known (ws := mTs) (n := 4) hts mk_X7.2.1 (hts _ (mTs_i 314 (by decide +kernel) (by decide +kernel)))
      exact ⟨(c, i), fun C hC => by
        have e : vwCl[7]? = some (RX7, TX7, 4) := rfl
        rw [e] at hC
        cases hC
        exact h⟩
    · subst e
      obtain ⟨c, i, h⟩ := u_known (ws := mTs) (n := 4) hts mk_X8.2.1 (hts _ (mTs_i 249 (by decide +kernel) (by decide +kernel)))
      exact ⟨(c, i), fun C hC => by
        have e : vwCl[8]? = some (RX8, TX8, 4) := rfl
        rw [e] at hC
        cases hC
        exact h⟩
    · subst e
      obtain ⟨c, i, h⟩ := u_known (ws := mTs) (n := 12) hts mk_X9.2.1 (hts _ (mTs_i 92 (by decide +kernel) (by decide +kernel)))
      exact ⟨(c, i), fun C hC => by
        have e : vwCl[9]? = some (RX9, TX9, 12) := rfl
        rw [e] at hC
        cases hC
        exact h⟩
    · subst e
      obtain ⟨c, i, h⟩ := u_known (ws := mTs) (n := 19) hts mk_X10.2.1 (hts _ (mTs_i 1061 (by decide +kernel) (by decide +kernel)))
      exact ⟨(c, i), fun C hC => by
        have e : vwCl[10]? = some (RX10, TX10, 19) := rfl
        rw [e] at hC
        cases hC
        exact h⟩
    · obtain ⟨c, i, h⟩ := u_known (ws := mTs) (n := 5) hts mk_X0.2.1 (hts _ (mTs_i 288 (by decide +kernel) (by decide +kernel)))
      refine ⟨(c, i), fun C hC => ?_⟩
      have h11 : k < 11 := (List.getElem?_eq_some_iff.mp hC).1
      omega
  obtain ⟨f, hf⟩ := Classical.axiomOfChoice h0
  exact ⟨(fun k => (f k).1, fun k => (f k).2), fun k q hq => hf k q hq⟩
theorem nest_on {w : Cond} (hn : mNest w = true) : w.onTables = true := by
  cases w <;> simp [mNest] at hn <;> rfl
set_option maxHeartbeats 4000000 in
set_option maxRecDepth 100000 in
theorem whole_start {p : Program} {e : Env} {s : State} {m : MethodId} {below : List Frame} {meth : Method} {c : Code} (l : Launch) (hflags : l.flags = flags0) {b L : Nat} {xs : Nat → Int32} (hL : L ≤ 3584) (C0 : lw_At p s m meth c b L xs) : W p l e room_1 s m #[Value.ref b] below meth c s.heap [] 0 0 (lw_Z below #[Value.ref b] s) (entryFrame m ([Value.ref b] : List Value).toArray 4) := by
  obtain ⟨hx, hb, hr, hml, hown, hts, hX, hbl, hlocks, hgv⟩ := C0
  have hT : ∀ w ∈ tables_1, w.before #[Value.ref b] s = true := fun w hw => hts w (List.mem_append_right _ hw)
  have hM : ∀ w ∈ mTs, w.before #[Value.ref b] s = true := fun w hw => hts w (List.mem_filter.mp hw).1
  have hF : ∀ (i : Nat) (w : Cond), lwF[i]? = some w → w.before #[Value.ref b] s = true := fun i w h => flat_of_before _ hgv w (List.mem_of_getElem? h)
  obtain ⟨ae, h60, h61, hE⟩ := env_of hF hT hX hbl
  obtain ⟨D, hD⟩ := lw_D hM
  obtain ⟨cy, kA, comp, f1, f2, f3⟩ := Cond.arrayClass_spec (hT _ nf_ac)
  have hK : va_K D vwCl [(cy, .int)] s := by
    refine ⟨hD, fun k q hq => ?_⟩
    have hk : k < 1 := (List.getElem?_eq_some_iff.mp hq).1
    have e : k = 0 := by omega
    subst e
    cases hq
    exact ⟨fun n z => ⟨fun k h => (by cases h), kA, f2, comp, f3⟩, f1⟩
  have hl := lv_entry ([.ref b]) (n := 4) (Nat.le_of_ble_eq_true rfl)
  rw [lg_entry_eq]
  generalize (lg_sl ([.ref b]) ++ List.replicate (4 - (lg_sl ([.ref b])).length) Slot.unset).toArray = arr at hl ⊢
  refine law_all (ae := ae) (ad := fun _ => 0) (by rw [h61]; exact hL) p l e s m #[Value.ref b] below meth c D cy (fun q => s.heap.size ≤ q) (lw_Z below #[Value.ref b] s) s.heap [] arr ⟨hx, hb, hml, hown, hM, fun w hw hn => va_Nw.of (nest_on hn) (hT w hw), hK, fun h => (by cases h)⟩ hE (fun _ h => h) (fun k q h => by simp [mW] at h) ⟨fun i j p q h => (by simp [mW] at h), fun k q h => (by simp [mW] at h)⟩ va_S.rf ⟨hl.1, hl.2.1, fun i v h => ?_⟩ ?_
  · match i, h with
    | 0, h => cases h; rw [h60]; exact hl.2.2 (0, .ref b) List.mem_cons_self
    | 1, h => cases h
    | 2, h => cases h
    | 3, h => cases h
  · intro v ad sh σ H locs arr' pc i hp hP1 hD1 hS1 hdec hri
    have hv : v = some (.int 1) := hp
    subst hv
    rcases hri with ⟨e1, e2, e3⟩ | ⟨ty, x, e1, e2, e3, e4⟩ | ⟨x, e1, e2, e3⟩ | ⟨n, a, e1, e2, e3⟩
    · cases e3
    · subst e2
      exact va_forget hS1.2.2 (lw_ret hx hb hr hlocks hdec)
    · cases e3
    · cases e3
set_option maxHeartbeats 4000000 in
theorem lw_walk (l : Launch) (hflags : l.flags = flags0) (b : Addr) (xs : List Int32) : MetFree l x (headSpec (Jvm.Cond.code x code maxLocals ret :: tables_1) room_1) (lw_P b xs) (fun _ _ _ _ _ => True) lw_Q := by
  refine MetFree.of_bodyS (code := code) (maxLocals := maxLocals) (ret := ret) (by decide) ?_ ?_
  · intro args s m h hn
    obtain ⟨meth, c, h1, h2, h3, h4, h5, h6, -, -⟩ := Cond.code_spec hn (atoms_spec (ws := Jvm.Cond.code x code maxLocals ret :: tables_1) h _ List.mem_cons_self)
    exact ⟨meth, c, h1, h2, h3, h4, h5, h6⟩
  · intro p e s m args below meth c s₁ B hml0 hP _
    obtain ⟨rfl, hx, hbd, hgv⟩ := hP
    obtain ⟨scr, harrAt, hlist, hof, hsmall⟩ := hx
    obtain ⟨hcb, hkn, -, -⟩ := State.arrayAt?_spec harrAt
    have hown : s.vm.findClass R_law = some m.cls := findClass_of_methodNamed B.named
    have hts0 : ∀ c ∈ (Jvm.Cond.code x code maxLocals ret :: tables_1), c.before #[Value.ref b] s = true := atoms_spec (ws := Jvm.Cond.code x code maxLocals ret :: tables_1) B.pre
    have hts : ∀ w ∈ lw_tbl, w.before #[Value.ref b] s = true := k2_hts_sels lw_privs (fun w hw => hts0 w (List.mem_cons_of_mem _ hw)) lw_privs_ok
    have hml : c.maxLocals = 4 := B.maxLocals_eq (hts0 _ List.mem_cons_self)
    have X₀ : Stand p l e room_1 s m #[Value.ref b] below meth c s₁ [] 0 0 := Stand.of_body B
    have hh0 : s₁.heap = s.heap := by rw [B.state]; rfl
    have hsz : scr.slots.size = xs.length := by rw [← Array.length_toList, hlist, List.length_map]
    have hval : ∀ j : Nat, j < xs.length → scr.slots[j]? = some (.int (xs.getD j 0)) := fun j hj => by
      rw [← Array.getElem?_toList, hlist]
      simp [hj]
    have hbl : b < s.heap.size := (Array.getElem?_eq_some_iff.mp hcb).1
    have hX : va_X b xs.length (fun j => xs.getD j 0) s s.heap := ⟨scr, hcb, hof, hkn, hsz, hval⟩
    have K : W p l e room_1 s m #[Value.ref b] below meth c s₁.heap [] 0 0 (lw_Z below #[Value.ref b] s) (entryFrame m ([Value.ref b] : List Value).toArray 4) := by
      rw [hh0]
      exact whole_start l hflags hbd ⟨B.exec, B.bytes, B.returns, hml, hown, hts, hX, hbl, B.notSynchronized, hgv⟩
    obtain ⟨t, a1, o, b1, b2, b3⟩ := K s₁ rfl X₀
    exact ⟨t, o, a1, b1, b2, b3⟩
theorem lw_pre_spec {args : Array Value} {s : State} (h : (Jvm.Cond.and given_1 narrow_1).before args s = true) (hr : rest_1_c.before args s = true) : ∃ (b : Addr) (xs : List Int32), lw_P b xs args s := by
  have hs := flat_of_before _ h
  have hq := flat_of_before _ hr
  have hc : (Cond.count 1).before args s = true := hs _ (by decide +kernel)
  have harr : (Cond.arrayOf (.arg 0) .int).before args s = true := hs _ (by decide +kernel)
  have hle : (Cond.le (.length (.arg 0)) (.int 3584)).before args s = true := hs _ (by decide +kernel)
  have hlen : (Cond.isInt (.length (.arg 0))).before args s = true := hq _ (by decide +kernel)
  have hall : (Cond.all (.arg 0) (.isInt (.elem (.arg 0) (.index 0)))).before args s = true := hq _ (by decide +kernel)
  obtain ⟨b, xs, hb, hx⟩ := State.ints_of_pre rfl harr hlen hall
  have hsm : xs.length < 2 ^ 31 := hx.choose_spec.2.2.2
  have hev : (Term.length (.arg 0)).eval args s none [] s = some (.int xs.length.toInt32) := hx.length_eval hb
  have hv := Cond.le_ints hev (show (Term.int 3584).eval args s none [] s = some (.int 3584) from rfl)
  have hd : xs.length.toInt32 ≤ 3584 := by
    simpa [Cond.before, Cond.holds, hv] using hle
  have hN : xs.length ≤ 3584 := (Int32.ofNat_le_ofNat hsm (by decide)).mp (show Int32.ofNat xs.length ≤ Int32.ofNat 3584 from hd)
  exact ⟨b, xs, Cond.one_arg hc (show args[0]? = some (.ref b) from hb), hx, hN, h⟩
theorem lw_comes (l : Launch) (hflags : l.flags = flags0) : Comes l x (Jvm.Cond.code x code maxLocals ret :: tables_1) room_1 (fun tb e args s => Calls_1 tb e args s ∧ rest_1 tb e args s ∧ Pre_1 tb e args s)
    (fun _ _ args s o t => lw_Q args s o t) := by
  intro p e ha hc hk s m args below hf hfit hheap happ hpre
  obtain ⟨b, xs, hP⟩ := lw_pre_spec hpre.2.2 hpre.2.1
  obtain ⟨k, o, h1, h2, h3, hQ⟩ := lw_walk l hflags b xs p e ha hc hk s m args below hf ((Spec.applies_iff_loose hf).mp happ).1 hP trivial
  exact ⟨k, o, h1, h2, h3, hQ⟩
theorem lw_frame {s t : State} {o : Outcome} {args : Array Value} (h : Framed s o t [] 600000 7302250) :
    Framed s o t (fieldLocs frame_1_writes args s ++ arrayLocs frame_1_arrays args s ++ staticLocs frame_1_statics s) 600000 7302250 := h
theorem lw_limb (L : Cond) (hL : ∀ (args : Array Value) (s t : State), L.after args s (.returned (some (.int 1))) t = true) :
    ArmFor flags0 classFile x code maxLocals ret World_1 tables_1 room_1 Calls_1 rest_1 Pre_1
      (fun tb e a s o t => postC L tb e a s o t ∧ Framed s o t (fieldLocs frame_1_writes a s ++ arrayLocs frame_1_arrays a s ++ staticLocs frame_1_statics s) 600000 7302250) := by
  intro l hflags _ _ p e ha hc hk s m args below hf hfit hheap happ hpre
  obtain ⟨k, o, h1, h2, h3, rfl, hF⟩ := lw_comes l hflags p e ha hc hk s m args below hf hfit hheap happ hpre
  exact ⟨k, _, h1, h2, h3, hL args s _, lw_frame hF⟩
theorem i_vc : Claimed_1_1 ∧ Claimed_1_2 := ⟨lw_limb limb_1_1 (fun args s t => by simp [limb_1_1, Cond.after, Cond.holds, Cond.value]), lw_limb limb_1_2 (fun args s t => Cond.after_iff.mpr (by
  first | (rw [show limb_1_2 = Cond.eq .result (.int 1) from rfl, Cond.eq_ints (x := 1) (y := 1) rfl rfl]; simp; done) | (simp [limb_1_2, Cond.value, Term.eval]; done)))⟩

