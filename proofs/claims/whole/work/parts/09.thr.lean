/-- the exceptions by their numbers -/
def xt_E (n : Nat) : String := match n with
  | 1 => "java/lang/IndexOutOfBoundsException"
  | 2 => "java/lang/IllegalStateException"
  | _ => "java/lang/IllegalArgumentException"
abbrev xt_up : List String := ["java/lang/RuntimeException", "java/lang/Exception"]
/-- the four words on Throwable's statics, which speak of the heap -/
def xt_H4 : List Cond := [.isRef (.static Bundle.tN "UNASSIGNED_STACK" Bundle.steD), .isRef (.static Bundle.tN "SUPPRESSED_SENTINEL" Bundle.listD), .laysStatic Bundle.tN "UNASSIGNED_STACK" Bundle.steD, .laysStatic Bundle.tN "SUPPRESSED_SENTINEL" Bundle.listD]
/-- an early state s0 had those words, and none of its cells has changed since -/
def xt_ev (U : State) (H : Heap) : Prop := ∃ s0 : State, s0.vm.Alike U.vm ∧ (∀ q : Nat, q < s0.heap.size → H[q]? = s0.heap[q]?) ∧ (∀ w ∈ xt_H4, w.before #[] s0 = true) ∧ (Cond.initialized Bundle.tN).before #[] s0 = true ∧ va_Nc (xt_E 3) (xt_E 2) s0 ∧ va_Nc (xt_E 3) (xt_E 1) s0 ∧ va_Nc (xt_E 2) (xt_E 1) s0
theorem xt_ev.moved {u U : State} {H : Heap} (ha : u.vm.Alike U.vm) (h : xt_ev u H) : xt_ev U H := by
  obtain ⟨s0, h1, h2⟩ := h
  exact ⟨s0, h1.trans ha, h2⟩
theorem xt_isRef {C n d : String} {A : Nat → Prop} {s : State} (args : Array Value) (h : va_Zq C n d A s s.heap) : (Cond.isRef (.static C n d)).before args s = true := by
  have key : ∀ v : Value, v.isRef = true → va_Z C n d v A s s.heap → (Cond.isRef (.static C n d)).before args s = true := by
    intro v hv hz
    obtain ⟨cf, kf, fi, f, a, cell, g1, g2, -, g4, g5, g6, g7, -⟩ := hz
    have he : (Term.static C n d).eval args s none [] s = some v := by
      simp [Term.eval, State.fieldNamed?, g1, g2, g4, g5, g6, g7]
    simp only [Cond.before, Cond.holds, Cond.value, he]
    cases v <;> simp_all [Value.isRef]
  rcases h with h | ⟨t, h⟩
  · exact key _ rfl h
  · exact key _ rfl h
theorem xt_lays {C n d : String} {s U : State} (args : Array Value) (ha : s.vm.Alike U.vm) (hq : ∀ q : Nat, q < s.heap.size → U.heap[q]? = s.heap[q]?) (h : (Cond.laysStatic C n d).before #[] s = true) : (Cond.laysStatic C n d).before args U = true := by
  obtain ⟨c, k, i, f, a, cell, hc, hi, hst, hs, hcell, g1, g2, g3, g4⟩ := Cond.laysStatic_spec h
  obtain ⟨k', hi', he⟩ := State.fieldFound?_setVm ha hi
  have hcU : U.heap[a]? = some cell := by rw [hq a (Array.getElem?_eq_some_iff.mp hcell).1]; exact hcell
  exact Cond.laysStatic_of (s := U) (by rw [ha.findClass]; exact hc) hi' hst (by rw [he]; exact hs) hcU g1 g2 g3 (by rw [he]; exact g4)
theorem xt_words {U : State} (h : xt_ev U U.heap) (args : Array Value) : ∀ w ∈ xt_H4, w.before args U = true := by
  obtain ⟨s0, ha, hq, hw, hi, -⟩ := h
  have w1 := hw _ (List.mem_of_getElem? (i := 0) rfl)
  have w2 := hw _ (List.mem_of_getElem? (i := 1) rfl)
  have w3 := hw _ (List.mem_of_getElem? (i := 2) rfl)
  have w4 := hw _ (List.mem_of_getElem? (i := 3) rfl)
  have z1 := (va_Zq.moved ha (va_Zq.kept (va_Zqof (A := fun _ => False) w3 hi w1 (fun _ _ q => q)) (fun a h _ => hq a h)))
  have z2 := (va_Zq.moved ha (va_Zq.kept (va_Zqof (A := fun _ => False) w4 hi w2 (fun _ _ q => q)) (fun a h _ => hq a h)))
  intro w hm
  rcases List.mem_cons.mp hm with rfl | hm
  · exact xt_isRef args z1
  rcases List.mem_cons.mp hm with rfl | hm
  · exact xt_isRef args z2
  rcases List.mem_cons.mp hm with rfl | hm
  · exact xt_lays args ha hq w3
  rcases List.mem_cons.mp hm with rfl | hm
  · exact xt_lays args ha hq w4
  · cases hm
abbrev xt_P (av : List Value) (D : va_G) (ca : Nat → ClassId) (ws : va_W) : Array Value → State → Prop := va_Pc av (fun U => va_P D vwCl ws U.heap ∧ va_K D vwCl (tyG ca) U ∧ xt_ev U U.heap)
theorem xt_blind {av : List Value} {D : va_G} {ca : Nat → ClassId} {ws : va_W} : FrameBlind (xt_P av D ca ws) := fun a U g mk q => by
  obtain ⟨q0, qP, qK, qE⟩ := q
  exact ⟨q0, qP, va_K.moved (u := U) (U := U.calling g mk a) (Vm.Alike.refl U.vm) qK, xt_ev.moved (u := U) (U := U.calling g mk a) (Vm.Alike.refl U.vm) qE⟩
/-- the end of a method that threw exception number n: one new cell, nothing old has changed -/
def xm_Q (n : Nat) : Array Value → State → Outcome → State → Prop := fun _ st o t => ∃ (q : Addr) (ce : Cell), o = .threw q ∧ t.heap[q]? = some ce ∧ ce.vm = .none ∧ st.vm.findClass (xt_E n) = some ce.cls ∧ st.WarmedH t.vm ∧ st.sameButNew ({ t with vm := st.vm } : State) [] 1 6
def xm_Met (l : Launch) (y : MethodName) (ws : List Cond) (rm : Room) (Pc : Array Value → State → Prop) (n : Nat) : Prop := MetFree l y (headSpec ws rm) Pc (fun _ _ _ _ _ => True) (xm_Q n)
def xm_MQ (below : List Frame) (n : Nat) (a : Array Value) (s : State) : State → Prop := fun t => ∃ o, t.status = .running ∧ Ended t below o ∧ xm_Q n a s o t
theorem xm_old {s t : State} {k n : Nat} (h : s.sameButNew t [] k n) : s.heap.size ≤ t.heap.size ∧ ∀ q : Nat, q < s.heap.size → t.heap[q]? = s.heap[q]? := by
  obtain ⟨-, h2, -, -, -, h6⟩ := h
  refine ⟨h2, fun q hq => ?_⟩
  obtain ⟨c9, e1, e2, e3, e4⟩ := h6 q _ (Array.getElem?_eq_getElem hq)
  have hs : c9.slots = (s.heap[q]).slots := Array.ext_getElem? fun i => e4 i fun hm => nomatch hm
  have h9 : c9 = s.heap[q] := by
    rw [hs] at e2
    exact e2
  rw [e1, h9, Array.getElem?_eq_getElem hq]
theorem xm_of {l : Launch} {y : MethodName} {cc : ByteArray} {maxL nn : Nat} {ret : Option FieldType} {rm : Room} {av : List Value} {D : va_G} {ca : Nat → ClassId} {ws : va_W} (hy : plainFor y = true) (hlen : (lg_sl av).length ≤ maxL)
    (body : ∀ (p : Program) (e : Env) (s : State) (m : MethodId) (below : List Frame) (meth : Method) (c : Code) (Q : State → Prop) (ar : Array Value) (ls : Array Slot),
      p.tables.exec = Jvm.exec → c.code = cc → c.maxLocals = maxL → (∀ w ∈ TT, w.before ar s = true) → s.vm.findClass y.cls = some m.cls → (∀ x ∈ c.exceptionTable.toList, False) → meth.locks = false → Q = xm_MQ below nn ar s →
      va_P D vwCl ws s.heap → va_K D vwCl (tyG ca) s → xt_ev s s.heap → lv_has ls maxL (lv_args 0 av) → W p l e rm s m ar below meth c s.heap [] 0 0 Q (F0 m 0 ls [])) :
    xm_Met l y (Cond.code y cc maxL ret :: TT) rm (xt_P av D ca ws) nn := by
  refine MetFree.of_bodySF (code := cc) (maxLocals := maxL) (ret := ret) hy ?_ ?_
  · intro args s m h hn
    obtain ⟨meth, c, h1, h2, h3, h4, h5, h6, -, -⟩ := Cond.code_spec hn (atoms_spec (ws := Cond.code y cc maxL ret :: TT) h _ List.mem_cons_self)
    exact ⟨meth, c, h1, h2, h3, h4, h5, h6⟩
  · intro p e s m args below meth c s₁ B hml hv _
    obtain ⟨rfl, hP, hK, hev⟩ := hv
    have hts := atoms_spec (ws := Cond.code y cc maxL ret :: TT) B.pre
    have hh0 : s₁.heap = s.heap := by rw [B.state]; rfl
    have hexc : ∀ x ∈ c.exceptionTable.toList, False := by
      obtain ⟨meth9, c9, h1, h2, -, -, -, -, h7, -⟩ := Cond.code_spec B.named (hts _ List.mem_cons_self)
      cases Option.some.inj (h1.symm.trans B.method)
      cases Option.some.inj (h2.symm.trans (Stand.of_body B).code)
      intro x hx
      rw [Array.isEmpty_iff.mp h7] at hx
      cases hx
    have hl := lv_entry av (n := maxL) hlen
    have w := body p e s m below meth c _ _ _ B.exec B.bytes hml (fun w h => hts w (List.mem_cons_of_mem _ h)) (findClass_of_methodNamed B.named) hexc B.notSynchronized rfl hP hK hev hl
    rw [← lg_entry_eq] at w
    obtain ⟨t, a1, o, b1, b2, b3⟩ := w s₁ hh0 (Stand.of_body B)
    exact ⟨t, o, a1, b1, b2, b3⟩
theorem k_throw {p : Program} {l : Launch} {e : Env} {R : Room} {s : State} {m : MethodId} {ar : Array Value} {below : List Frame} {meth : Method} {c : Code} {Q : State → Prop} {cc : ByteArray} {nL pc n ik is ic : Nat} {own text : String} {ls : Array Slot} {rest : List Value} (hx : p.tables.exec = Jvm.exec) (hb : c.code = cc) (hml : c.maxLocals = nL) (hown : s.vm.findClass own = some m.cls) (hts : ∀ w ∈ TT, w.before ar s = true) (hexc : ∀ x ∈ c.exceptionTable.toList, False) (hlocks : meth.locks = false) (hQ : Q = xm_MQ below n ar s) (hev : xt_ev s s.heap) (hlt : l.stackTraces = false)
    (hfit : Bundle.fit (xt_E n) = true) (hups : ∀ z ∈ xt_up, Bundle.fit z = true) (hk : Cond.classLink own ik (xt_E n) ∈ TT) (hini : Cond.initialized (xt_E n) ∈ TT) (hstr : Cond.stringRef own is text ∈ TT) (hat : ∀ w ∈ Bundle.ownAtoms own ic (xt_E n) xt_up, w ∈ TT ∨ w ∈ xt_H4) (hsz : ls.size = nL)
    (d0 : decode cc pc = .ok (.new ik, 3)) (d3 : decode cc (pc + 3) = .ok (.dup, 1)) (d4 : decode cc (pc + 4) = .ok (.ldc is, 2)) (d6 : decode cc (pc + 6) = .ok (.invokespecial ic, 3)) (d9 : decode cc (pc + 9) = .ok (.athrow, 1))
    (hRf : xt_up.length + 3 < R.frames) (hRl : (rest.map fun v => v.category).sum + 82 ≤ R.locals) (hRc : 0 + 1 ≤ R.cells) (hRs : 0 + 6 ≤ R.slots) : W p l e R s m ar below meth c s.heap [] 0 0 Q (F0 m pc ls rest) := by
  subst hQ
  subst hb
  intro T hT X
  have htr : e.platform.stackTraces = false := by rw [X.admits.platform]; exact hlt
  have hall : ∀ w ∈ Bundle.ownAtoms own ic (xt_E n) xt_up, w.before ar s = true := fun w hw => (hat w hw).elim (fun h => hts w h) (fun h => xt_words hev ar w h)
  obtain ⟨vm₁, cX, kX, hfX, hkX, -, -, X₁, st1⟩ := X.newCold hx (own := own) (C := xt_E n) (index := ik) (n := 6) hown (hts _ hk) (hall _ (by simp [Bundle.ownAtoms])) (hts _ hini) (g := F0 m pc ls rest) rfl d0 hRc hRs
  generalize hT1 : (T.setVm vm₁).pushCell { cls := cX, slots := kX.instanceTypes.map defaultValue, vm := .none } = T1 at X₁ st1
  have hcellA : T1.heap[T.heap.size]? = some (freshCell cX kX) := by rw [← hT1]; exact State.heap_pushCell_size _ _
  obtain ⟨-, -, -, sa, -, -, -, -, -, hsa⟩ := Cond.stringRef_spec hown (hts _ hstr)
  have hcat : (Value.ref T.heap.size).category = 1 := rfl
  obtain ⟨U, hsteps, hrun, hend, hW, hsame, ce, hce, hO⟩ := X₁.ctorThrowS hx htr (own := own) (cls := xt_E n) (names := xt_up) (ic := ic) hown hfit hups hall (fun x hx => nomatch hx) hfX hkX hcellA (by rw [hT]; exact Nat.le_refl _) (msg := .ref sa) rfl
    (g := { method := m, pc := pc + 6, locals := ls, stack := .ref sa :: .ref T.heap.size :: .ref T.heap.size :: rest, locked := none }) rfl (hsz.trans hml.symm) rfl rfl (rest := rest) rfl d6 d9 (fun x h => (hexc x h).elim) hRf (by simp only [List.map_cons, List.sum_cons, hcat, JFrame.monitorRoom, List.length_cons, List.length_nil]; simp; omega) hlocks
  refine ⟨U, ?_, .threw T.heap.size, hrun, hend, T.heap.size, ce, rfl, hce, hO.vm, hO.cls, hW, hsame⟩
  refine st1 _ ?_
  show Steps p.tables e below (T1.setTop { method := m, pc := pc + 3, locals := ls, stack := .ref T.heap.size :: rest, locked := none }) _
  jvm_step X₁.here [X₁.here.top, hx, d3, Value.category]
  exact X₁.ldcString hx (own := own) (text := text) (index := is) (a := sa) hown (hts _ hstr) hsa (g := { method := m, pc := pc + 4, locals := ls, stack := .ref T.heap.size :: .ref T.heap.size :: rest, locked := none }) rfl d4 _ hsteps
theorem k_throwW {p : Program} {l : Launch} {e : Env} {R : Room} {s : State} {m : MethodId} {ar : Array Value} {below : List Frame} {meth : Method} {c : Code} {Q : State → Prop} {cc : ByteArray} {nL pc n ik is ic : Nat} {own text : String} {ls : Array Slot} {rest : List Value} (hx : p.tables.exec = Jvm.exec) (hb : c.code = cc) (hml : c.maxLocals = nL) (hown : s.vm.findClass own = some m.cls) (hts : ∀ w ∈ TT, w.before ar s = true) (hexc : ∀ x ∈ c.exceptionTable.toList, False) (hlocks : meth.locks = false) (hQ : Q = xm_MQ below n ar s) (hev : xt_ev s s.heap) (hlt : l.stackTraces = false)
    (hfit : Bundle.fit (xt_E n) = true) (hups : ∀ z ∈ xt_up, Bundle.fit z = true) (hk : Cond.classLink own ik (xt_E n) ∈ TT) (hini : Cond.initialized (xt_E n) ∈ TT) (hstr : Cond.stringRef own is text ∈ TT) (hat : ∀ w ∈ Bundle.ownAtoms own ic (xt_E n) xt_up, w ∈ TT ∨ w ∈ xt_H4) (hsz : ls.size = nL)
    (d0 : decode cc pc = .ok (.new ik, 3)) (d3 : decode cc (pc + 3) = .ok (.dup, 1)) (d4 : decode cc (pc + 4) = .ok (.ldc_w is, 3)) (d6 : decode cc (pc + 7) = .ok (.invokespecial ic, 3)) (d9 : decode cc (pc + 10) = .ok (.athrow, 1))
    (hRf : xt_up.length + 3 < R.frames) (hRl : (rest.map fun v => v.category).sum + 82 ≤ R.locals) (hRc : 0 + 1 ≤ R.cells) (hRs : 0 + 6 ≤ R.slots) : W p l e R s m ar below meth c s.heap [] 0 0 Q (F0 m pc ls rest) := by
  subst hQ
  subst hb
  intro T hT X
  have htr : e.platform.stackTraces = false := by rw [X.admits.platform]; exact hlt
  have hall : ∀ w ∈ Bundle.ownAtoms own ic (xt_E n) xt_up, w.before ar s = true := fun w hw => (hat w hw).elim (fun h => hts w h) (fun h => xt_words hev ar w h)
  obtain ⟨vm₁, cX, kX, hfX, hkX, -, -, X₁, st1⟩ := X.newCold hx (own := own) (C := xt_E n) (index := ik) (n := 6) hown (hts _ hk) (hall _ (by simp [Bundle.ownAtoms])) (hts _ hini) (g := F0 m pc ls rest) rfl d0 hRc hRs
  generalize hT1 : (T.setVm vm₁).pushCell { cls := cX, slots := kX.instanceTypes.map defaultValue, vm := .none } = T1 at X₁ st1
  have hcellA : T1.heap[T.heap.size]? = some (freshCell cX kX) := by rw [← hT1]; exact State.heap_pushCell_size _ _
  obtain ⟨-, -, -, sa, -, -, -, -, -, hsa⟩ := Cond.stringRef_spec hown (hts _ hstr)
  have hcat : (Value.ref T.heap.size).category = 1 := rfl
  obtain ⟨U, hsteps, hrun, hend, hW, hsame, ce, hce, hO⟩ := X₁.ctorThrowS hx htr (own := own) (cls := xt_E n) (names := xt_up) (ic := ic) hown hfit hups hall (fun x hx => nomatch hx) hfX hkX hcellA (by rw [hT]; exact Nat.le_refl _) (msg := .ref sa) rfl
    (g := { method := m, pc := pc + 7, locals := ls, stack := .ref sa :: .ref T.heap.size :: .ref T.heap.size :: rest, locked := none }) rfl (hsz.trans hml.symm) rfl rfl (rest := rest) rfl d6 d9 (fun x h => (hexc x h).elim) hRf (by simp only [List.map_cons, List.sum_cons, hcat, JFrame.monitorRoom, List.length_cons, List.length_nil]; simp; omega) hlocks
  refine ⟨U, ?_, .threw T.heap.size, hrun, hend, T.heap.size, ce, rfl, hce, hO.vm, hO.cls, hW, hsame⟩
  refine st1 _ ?_
  show Steps p.tables e below (T1.setTop { method := m, pc := pc + 3, locals := ls, stack := .ref T.heap.size :: rest, locked := none }) _
  jvm_step X₁.here [X₁.here.top, hx, d3, Value.category]
  exact X₁.ldcStringW hx (own := own) (text := text) (index := is) (a := sa) hown (hts _ hstr) hsa (g := { method := m, pc := pc + 4, locals := ls, stack := .ref T.heap.size :: .ref T.heap.size :: rest, locked := none }) rfl d4 _ hsteps
/-- behind a callee that threw -/
def xm_Post (n : Nat) : Pt → Array Value → Addr → Pt → Prop := fun A _ q B => B.locs = A.locs ∧ B.cells = A.cells + 1 ∧ B.slots = A.slots + 6 ∧ A.U.heap.size ≤ B.U.heap.size ∧ (∀ z : Nat, z < A.U.heap.size → B.U.heap[z]? = A.U.heap[z]?) ∧ ∃ ce : Cell, B.U.heap[q]? = some ce ∧ ce.vm = .none ∧ A.U.vm.findClass (xt_E n) = some ce.cls
theorem xm_back {p : Program} {l : Launch} {e : Env} {R : Room} {s : State} {ar : Array Value} {below : List Frame} {y : MethodName} {bytes : ByteArray} {maxL n nn : Nat} {ret : Option FieldType} {rm : Room} {Pc : Array Value → State → Prop} (hts : ∀ w ∈ TT, w.before ar s = true) (hM : xm_Met l y (Cond.code y bytes maxL ret :: TT) rm Pc nn) (hblind : FrameBlind Pc) (kc : k_cal y bytes maxL ret n) (hR : rm.frames + 1 ≤ R.frames ∧ 8 + (maxL + 11) + rm.locals ≤ R.locals) (hrc : rm.cells = 1) (hrs : rm.slots = 6) :
    BackT l R p e below s ar y 3 8 (PreOf R 1 6 Pc) (xm_Post nn) := by
  refine BackT.of_free (bytes := bytes) (maxL := maxL) (ret := ret) (E := fun a first o t L k n => L = [] ∧ k = 1 ∧ n = 6 ∧ xm_Q nn a first o t) hM hR.1 hR.2 ?_ ?_ (fun _ _ _ _ _ _ _ _ _ => trivial) ?_ ?_
  · intro m meth c A a X hp
    exact ⟨atoms_intro fun w hw => k_warmc hts kc.1 w hw _ _ X.warmed, k_warm hts _ kc.1 _ _ X.warmed, k_warm hts _ kc.2.1 _ _ X.warmed, by rw [show (headSpec (Cond.code y bytes maxL ret :: TT) rm).room.cells = 1 from hrc]; exact hp.1, by rw [show (headSpec (Cond.code y bytes maxL ret :: TT) rm).room.slots = 6 from hrs]; exact hp.2.1⟩
  · intro m meth c A a g mk X hp
    exact hblind _ _ _ _ hp.2.2
  · intro a first o t hq
    refine ⟨[], 1, 6, ?_, rfl, rfl, rfl, hq⟩
    obtain ⟨q, ce, h1, h2, h3, h4, h5, h6⟩ := hq
    exact ⟨⟨q, h1⟩, h5, h6⟩
  · intro m meth c A a g mk v t L k n X hp hq hfe hE
    obtain ⟨rfl, rfl, rfl, q, ce, h1, h2, h3, h4, h5, h6⟩ := hE
    cases h1
    obtain ⟨o1, o2⟩ := xm_old h6
    exact ⟨List.append_nil _, rfl, rfl, o1, o2, ce, h2, h3, h4⟩
theorem k_xS {p : Program} {l : Launch} {e : Env} {R : Room} {s : State} {m : MethodId} {ar : Array Value} {below : List Frame} {meth : Method} {c : Code} {Q : State → Prop} {y : MethodName} {bytes cc : ByteArray} {maxL nL n index nn : Nat} {ret : Option FieldType} {rm : Room} {own : String} {As rest st0 : List Value} {pc : Nat} {ls : Array Slot} {D : va_G} {ca : Nat → ClassId} {wc ws : va_W} (hx : p.tables.exec = Jvm.exec) (hb : c.code = cc) (hml : c.maxLocals = nL) (hown : s.vm.findClass own = some m.cls) (hts : ∀ w ∈ TT, w.before ar s = true) (hexc : ∀ x ∈ c.exceptionTable.toList, False) (hlocks : meth.locks = false) (hQ : Q = xm_MQ below nn ar s) (hev : xt_ev s s.heap)
    (hM : xm_Met l y (Cond.code y bytes maxL ret :: TT) rm (xt_P As D ca wc) nn) (kc : k_cal y bytes maxL ret n) (kv : Cond.static y ∈ TT) (hk : Cond.methodLink own index y ∈ TT) (hR : rm.frames + 1 ≤ R.frames ∧ 8 + (maxL + 11) + rm.locals ≤ R.locals) (hrc : rm.cells = 1) (hrs : rm.slots = 6)
    (hP : va_P D vwCl ws s.heap) (hK : va_K D vwCl (tyG ca) s) (is : List Nat) (hs : is.filterMap (fun i => ws[i]?) = wc) (hn : As.length = n) (hsz : ls.size = nL) (hw : (rest.map fun v => v.category).sum ≤ 8) (hst : st0 = As.reverse ++ rest) (hdg : decode cc pc = .ok (.invokestatic index, 3)) (hf : 0 + 1 ≤ R.cells ∧ 0 + 6 ≤ R.slots) : W p l e R s m ar below meth c s.heap [] 0 0 Q (F0 m pc ls st0) := by
  subst hQ
  subst hb
  intro T hT X
  obtain ⟨mk, hnamed⟩ := Cond.code_named (hts _ kc.1)
  obtain ⟨methM, cM, hmethM, -, -, -, -, -, -, hsigM⟩ := Cond.code_spec hnamed (hts _ kc.1)
  obtain ⟨v, vm₁, B, hW, X', hpost, st⟩ := X.staticThrows hx hown (hts _ hk) (hts _ kv) (hts _ kc.2.1) hnamed hmethM hsigM ⟨kc.2.2.1, kc.2.2.2.1⟩ (xm_back hts hM xt_blind kc hR hrc hrs) (g := F0 m pc ls st0) rfl (hsz.trans hml.symm) (Steps.refl _) (argsL := As) (rest := rest) (fun sig h => hn.trans (k_len kc.2.2 sig h)) hst (lv_room hw) hdg
    (fun vm₁ hW₁ => ⟨hf.1, hf.2, rfl, by rw [show (T.setVm vm₁).heap = s.heap from hT]; exact hP.sub is hs, va_K.moved hW₁.alike hK, by rw [show (T.setVm vm₁).heap = s.heap from hT]; exact xt_ev.moved hW₁.alike hev⟩)
  obtain ⟨BU, Bl, Bc, Bs⟩ := B
  obtain ⟨p1, p2, p3, p4, p5, ce, p6, p7, p8⟩ := hpost
  dsimp only [Pt.U, Pt.locs, Pt.cells, Pt.slots] at p1 p2 p3 p4 p5 p6 p8 X' st
  subst p1; subst p2; subst p3
  obtain ⟨st1, hrun, hend, hWe, hsm⟩ := X'.leaveThrown v (g := F0 m pc ls rest) rfl rfl rfl (fun x h => (hexc x h).elim) hlocks
  have hcl : s.vm.findClass (xt_E nn) = some ce.cls := by
    have h9 : vm₁.findClass (xt_E nn) = some ce.cls := p8
    rw [hW.alike.findClass] at h9
    exact h9
  exact ⟨_, st.trans st1, .threw v, hrun, hend, v, ce, rfl, p6, p7, hcl, hWe, hsm⟩
set_option maxRecDepth 100000 in
theorem xo_3_254 : ∀ w ∈ Bundle.ownAtoms nR_Room 254 (xt_E 3) xt_up, w ∈ TT ∨ w ∈ xt_H4 := List.forall_mem_cons.mpr ⟨Or.inl tt_11, List.forall_mem_cons.mpr ⟨Or.inl tt_303, List.forall_mem_cons.mpr ⟨Or.inl tt_312, List.forall_mem_cons.mpr ⟨Or.inl tt_316, List.forall_mem_cons.mpr ⟨Or.inl tt_319, List.forall_mem_cons.mpr ⟨Or.inl tt_321, List.forall_mem_cons.mpr ⟨Or.inl tt_304, List.forall_mem_cons.mpr ⟨Or.inl tt_305, List.forall_mem_cons.mpr ⟨Or.inl tt_24, List.forall_mem_cons.mpr ⟨Or.inl tt_25, List.forall_mem_cons.mpr ⟨Or.inl tt_306, List.forall_mem_cons.mpr ⟨Or.inl tt_311, List.forall_mem_cons.mpr ⟨Or.inl tt_317, List.forall_mem_cons.mpr ⟨Or.inl tt_337, List.forall_mem_cons.mpr ⟨Or.inl tt_293, List.forall_mem_cons.mpr ⟨Or.inl tt_338, List.forall_mem_cons.mpr ⟨Or.inl tt_295, List.forall_mem_cons.mpr ⟨Or.inl tt_339, List.forall_mem_cons.mpr ⟨Or.inl tt_297, List.forall_mem_cons.mpr ⟨Or.inl tt_307, List.forall_mem_cons.mpr ⟨Or.inr (List.mem_of_getElem? (i := 2) rfl), List.forall_mem_cons.mpr ⟨Or.inl tt_309, List.forall_mem_cons.mpr ⟨Or.inr (List.mem_of_getElem? (i := 3) rfl), List.forall_mem_cons.mpr ⟨Or.inl tt_299, List.forall_mem_cons.mpr ⟨Or.inl tt_333, List.forall_mem_cons.mpr ⟨Or.inl tt_334, List.forall_mem_cons.mpr ⟨Or.inl tt_336, List.forall_mem_cons.mpr ⟨Or.inl tt_299, List.forall_mem_cons.mpr ⟨Or.inl tt_324, List.forall_mem_cons.mpr ⟨Or.inl tt_325, List.forall_mem_cons.mpr ⟨Or.inl tt_326, List.forall_mem_cons.mpr ⟨Or.inl tt_327, List.forall_mem_cons.mpr ⟨Or.inl tt_285, List.forall_mem_cons.mpr ⟨Or.inl tt_327, List.forall_mem_cons.mpr ⟨Or.inl tt_328, List.forall_mem_cons.mpr ⟨Or.inl tt_329, List.forall_mem_cons.mpr ⟨Or.inl tt_330, List.forall_mem_cons.mpr ⟨Or.inl tt_287, List.forall_mem_cons.mpr ⟨Or.inl tt_330, List.forall_mem_cons.mpr ⟨Or.inl tt_331, List.forall_mem_cons.mpr ⟨Or.inl tt_332, List.forall_mem_cons.mpr ⟨Or.inl tt_333, List.forall_mem_cons.mpr ⟨Or.inl tt_289, List.forall_mem_cons.mpr ⟨Or.inl tt_323, List.forall_mem_cons.mpr ⟨Or.inl tt_282, List.forall_mem_cons.mpr ⟨Or.inl tt_283, List.forall_mem_cons.mpr ⟨Or.inl tt_290, List.forall_mem_cons.mpr ⟨Or.inl tt_291, List.forall_mem_cons.mpr ⟨Or.inl tt_292, List.forall_mem_cons.mpr ⟨Or.inl tt_294, List.forall_mem_cons.mpr ⟨Or.inl tt_296, List.forall_mem_cons.mpr ⟨Or.inl tt_298, List.forall_mem_cons.mpr ⟨Or.inr (List.mem_of_getElem? (i := 0) rfl), List.forall_mem_cons.mpr ⟨Or.inr (List.mem_of_getElem? (i := 1) rfl), List.forall_mem_cons.mpr ⟨Or.inl tt_302, List.forall_mem_cons.mpr ⟨Or.inl tt_301, List.forall_mem_cons.mpr ⟨Or.inl tt_300, fun _ h => nomatch h⟩⟩⟩⟩⟩⟩⟩⟩⟩⟩⟩⟩⟩⟩⟩⟩⟩⟩⟩⟩⟩⟩⟩⟩⟩⟩⟩⟩⟩⟩⟩⟩⟩⟩⟩⟩⟩⟩⟩⟩⟩⟩⟩⟩⟩⟩⟩⟩⟩⟩⟩⟩⟩⟩⟩⟩⟩
set_option maxRecDepth 100000 in
theorem xo_2_198 : ∀ w ∈ Bundle.ownAtoms nR_Room 198 (xt_E 2) xt_up, w ∈ TT ∨ w ∈ xt_H4 := List.forall_mem_cons.mpr ⟨Or.inl tt_11, List.forall_mem_cons.mpr ⟨Or.inl tt_303, List.forall_mem_cons.mpr ⟨Or.inl tt_312, List.forall_mem_cons.mpr ⟨Or.inl tt_316, List.forall_mem_cons.mpr ⟨Or.inl tt_319, List.forall_mem_cons.mpr ⟨Or.inl tt_321, List.forall_mem_cons.mpr ⟨Or.inl tt_304, List.forall_mem_cons.mpr ⟨Or.inl tt_305, List.forall_mem_cons.mpr ⟨Or.inl tt_24, List.forall_mem_cons.mpr ⟨Or.inl tt_25, List.forall_mem_cons.mpr ⟨Or.inl tt_306, List.forall_mem_cons.mpr ⟨Or.inl tt_311, List.forall_mem_cons.mpr ⟨Or.inl tt_317, List.forall_mem_cons.mpr ⟨Or.inl tt_337, List.forall_mem_cons.mpr ⟨Or.inl tt_293, List.forall_mem_cons.mpr ⟨Or.inl tt_338, List.forall_mem_cons.mpr ⟨Or.inl tt_295, List.forall_mem_cons.mpr ⟨Or.inl tt_339, List.forall_mem_cons.mpr ⟨Or.inl tt_297, List.forall_mem_cons.mpr ⟨Or.inl tt_307, List.forall_mem_cons.mpr ⟨Or.inr (List.mem_of_getElem? (i := 2) rfl), List.forall_mem_cons.mpr ⟨Or.inl tt_309, List.forall_mem_cons.mpr ⟨Or.inr (List.mem_of_getElem? (i := 3) rfl), List.forall_mem_cons.mpr ⟨Or.inl tt_299, List.forall_mem_cons.mpr ⟨Or.inl tt_333, List.forall_mem_cons.mpr ⟨Or.inl tt_334, List.forall_mem_cons.mpr ⟨Or.inl tt_336, List.forall_mem_cons.mpr ⟨Or.inl tt_299, List.forall_mem_cons.mpr ⟨Or.inl tt_371, List.forall_mem_cons.mpr ⟨Or.inl tt_372, List.forall_mem_cons.mpr ⟨Or.inl tt_373, List.forall_mem_cons.mpr ⟨Or.inl tt_327, List.forall_mem_cons.mpr ⟨Or.inl tt_285, List.forall_mem_cons.mpr ⟨Or.inl tt_327, List.forall_mem_cons.mpr ⟨Or.inl tt_328, List.forall_mem_cons.mpr ⟨Or.inl tt_329, List.forall_mem_cons.mpr ⟨Or.inl tt_330, List.forall_mem_cons.mpr ⟨Or.inl tt_287, List.forall_mem_cons.mpr ⟨Or.inl tt_330, List.forall_mem_cons.mpr ⟨Or.inl tt_331, List.forall_mem_cons.mpr ⟨Or.inl tt_332, List.forall_mem_cons.mpr ⟨Or.inl tt_333, List.forall_mem_cons.mpr ⟨Or.inl tt_289, List.forall_mem_cons.mpr ⟨Or.inl tt_370, List.forall_mem_cons.mpr ⟨Or.inl tt_361, List.forall_mem_cons.mpr ⟨Or.inl tt_362, List.forall_mem_cons.mpr ⟨Or.inl tt_363, List.forall_mem_cons.mpr ⟨Or.inl tt_314, List.forall_mem_cons.mpr ⟨Or.inl tt_364, List.forall_mem_cons.mpr ⟨Or.inl tt_365, List.forall_mem_cons.mpr ⟨Or.inl tt_366, List.forall_mem_cons.mpr ⟨Or.inl tt_367, List.forall_mem_cons.mpr ⟨Or.inr (List.mem_of_getElem? (i := 0) rfl), List.forall_mem_cons.mpr ⟨Or.inr (List.mem_of_getElem? (i := 1) rfl), List.forall_mem_cons.mpr ⟨Or.inl tt_302, List.forall_mem_cons.mpr ⟨Or.inl tt_301, List.forall_mem_cons.mpr ⟨Or.inl tt_368, fun _ h => nomatch h⟩⟩⟩⟩⟩⟩⟩⟩⟩⟩⟩⟩⟩⟩⟩⟩⟩⟩⟩⟩⟩⟩⟩⟩⟩⟩⟩⟩⟩⟩⟩⟩⟩⟩⟩⟩⟩⟩⟩⟩⟩⟩⟩⟩⟩⟩⟩⟩⟩⟩⟩⟩⟩⟩⟩⟩⟩
set_option maxRecDepth 100000 in
theorem xo_1_177 : ∀ w ∈ Bundle.ownAtoms nR_Room 177 (xt_E 1) xt_up, w ∈ TT ∨ w ∈ xt_H4 := List.forall_mem_cons.mpr ⟨Or.inl tt_11, List.forall_mem_cons.mpr ⟨Or.inl tt_303, List.forall_mem_cons.mpr ⟨Or.inl tt_312, List.forall_mem_cons.mpr ⟨Or.inl tt_316, List.forall_mem_cons.mpr ⟨Or.inl tt_319, List.forall_mem_cons.mpr ⟨Or.inl tt_321, List.forall_mem_cons.mpr ⟨Or.inl tt_304, List.forall_mem_cons.mpr ⟨Or.inl tt_305, List.forall_mem_cons.mpr ⟨Or.inl tt_24, List.forall_mem_cons.mpr ⟨Or.inl tt_25, List.forall_mem_cons.mpr ⟨Or.inl tt_306, List.forall_mem_cons.mpr ⟨Or.inl tt_311, List.forall_mem_cons.mpr ⟨Or.inl tt_317, List.forall_mem_cons.mpr ⟨Or.inl tt_337, List.forall_mem_cons.mpr ⟨Or.inl tt_293, List.forall_mem_cons.mpr ⟨Or.inl tt_338, List.forall_mem_cons.mpr ⟨Or.inl tt_295, List.forall_mem_cons.mpr ⟨Or.inl tt_339, List.forall_mem_cons.mpr ⟨Or.inl tt_297, List.forall_mem_cons.mpr ⟨Or.inl tt_307, List.forall_mem_cons.mpr ⟨Or.inr (List.mem_of_getElem? (i := 2) rfl), List.forall_mem_cons.mpr ⟨Or.inl tt_309, List.forall_mem_cons.mpr ⟨Or.inr (List.mem_of_getElem? (i := 3) rfl), List.forall_mem_cons.mpr ⟨Or.inl tt_299, List.forall_mem_cons.mpr ⟨Or.inl tt_333, List.forall_mem_cons.mpr ⟨Or.inl tt_334, List.forall_mem_cons.mpr ⟨Or.inl tt_336, List.forall_mem_cons.mpr ⟨Or.inl tt_299, List.forall_mem_cons.mpr ⟨Or.inl tt_430, List.forall_mem_cons.mpr ⟨Or.inl tt_431, List.forall_mem_cons.mpr ⟨Or.inl tt_432, List.forall_mem_cons.mpr ⟨Or.inl tt_327, List.forall_mem_cons.mpr ⟨Or.inl tt_285, List.forall_mem_cons.mpr ⟨Or.inl tt_327, List.forall_mem_cons.mpr ⟨Or.inl tt_328, List.forall_mem_cons.mpr ⟨Or.inl tt_329, List.forall_mem_cons.mpr ⟨Or.inl tt_330, List.forall_mem_cons.mpr ⟨Or.inl tt_287, List.forall_mem_cons.mpr ⟨Or.inl tt_330, List.forall_mem_cons.mpr ⟨Or.inl tt_331, List.forall_mem_cons.mpr ⟨Or.inl tt_332, List.forall_mem_cons.mpr ⟨Or.inl tt_333, List.forall_mem_cons.mpr ⟨Or.inl tt_289, List.forall_mem_cons.mpr ⟨Or.inl tt_429, List.forall_mem_cons.mpr ⟨Or.inl tt_420, List.forall_mem_cons.mpr ⟨Or.inl tt_421, List.forall_mem_cons.mpr ⟨Or.inl tt_422, List.forall_mem_cons.mpr ⟨Or.inl tt_315, List.forall_mem_cons.mpr ⟨Or.inl tt_423, List.forall_mem_cons.mpr ⟨Or.inl tt_424, List.forall_mem_cons.mpr ⟨Or.inl tt_425, List.forall_mem_cons.mpr ⟨Or.inl tt_426, List.forall_mem_cons.mpr ⟨Or.inr (List.mem_of_getElem? (i := 0) rfl), List.forall_mem_cons.mpr ⟨Or.inr (List.mem_of_getElem? (i := 1) rfl), List.forall_mem_cons.mpr ⟨Or.inl tt_302, List.forall_mem_cons.mpr ⟨Or.inl tt_301, List.forall_mem_cons.mpr ⟨Or.inl tt_427, fun _ h => nomatch h⟩⟩⟩⟩⟩⟩⟩⟩⟩⟩⟩⟩⟩⟩⟩⟩⟩⟩⟩⟩⟩⟩⟩⟩⟩⟩⟩⟩⟩⟩⟩⟩⟩⟩⟩⟩⟩⟩⟩⟩⟩⟩⟩⟩⟩⟩⟩⟩⟩⟩⟩⟩⟩⟩⟩⟩⟩
