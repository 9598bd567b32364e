/-- the answer of a call that returned -/
def gx_ret {α : Type} (o : Option (Nat ⊕ α)) : Option α := match o with
  | some (.inr a) => some a
  | _ => none
theorem q_ret {α : Type} {o : Option (Nat ⊕ α)} {R : α} (h : gx_ret o = some R) : o = some (.inr R) := by
  match o, h with
  | some (.inr a), h => exact congrArg some (congrArg Sum.inr (Option.some.inj h))
theorem xt_nc {U : State} {H : Heap} (h : xt_ev U H) : va_Nc (xt_E 3) (xt_E 2) U ∧ va_Nc (xt_E 3) (xt_E 1) U ∧ va_Nc (xt_E 2) (xt_E 1) U := by
  obtain ⟨s0, ha, -, -, -, n1, n2, n3⟩ := h
  exact ⟨n1.moved ha, n2.moved ha, n3.moved ha⟩
theorem wr_ofIW {l : Launch} {y : MethodName} {cc : ByteArray} {maxL : Nat} {rm : Room} {hh : List (Nat × Nat × Nat × Nat)} {av : List Value} {D : va_G} {ca : Nat → ClassId} {ws : va_W} {sz : Nat} {ρ : Type} {R : ρ} {val : ρ → Int32} {w1 : ρ → va_W} (hy : plainName y.cls = true) (hlen : (lg_sl av).length ≤ maxL)
    (body : ∀ (p : Program) (e : Env) (s : State) (m : MethodId) (below : List Frame) (meth : Method) (c : Code) (Q : State → Prop) (ar : Array Value) (ls : Array Slot),
      p.tables.exec = Jvm.exec → c.code = cc → c.maxLocals = maxL → (∀ w ∈ TT, w.before ar s = true) → s.vm.findClass y.cls = some m.cls → va_P D vwCl ws s.heap → va_K D vwCl (tyG ca) s → ∀ A : Nat → Prop, va_D A ws → (∀ q : Nat, s.heap.size ≤ q → A q) → lv_has ls maxL (lv_args 0 av) →
      (∀ (x : ρ) (H : Heap) (locs : List Loc) (pc : Nat) (ls : Array Slot), decode cc pc = .ok (.ireturn, 1) → some x = some R → va_P D vwCl (w1 x) H → va_D A (w1 x) → va_S A s.heap H locs → W p l e rm s m ar below meth c H locs 0 0 Q (F0 m pc ls [.int (val x)])) →
      W p l e rm s m ar below meth c s.heap [] 0 0 Q (F0 m 0 ls [])) :
    Met l y (Cond.codeWith y cc maxL (some .int) hh :: TT) rm (wr_P av D ca ws sz) (va_Qi (fun r (_ : Unit) => r = val R) (wr_B D ws sz (w1 R)) (va_A ws sz)) 0 0 (va_A ws sz) := by
  refine va_MetW (cc := cc) (hh := hh) (maxL := maxL) (ret := some .int) hy rfl ?_
  intro p e s m args below meth c s₁ B hml hv
  obtain ⟨rfl, hsz, hP, hK, hD0⟩ := hv
  subst hsz
  have hD := hD0.self (sz := s.heap.size)
  have hts := atoms_spec (ws := Cond.codeWith y cc maxL (some .int) hh :: TT) B.pre
  have hl := lv_entry av (n := maxL) hlen
  rw [lg_entry_eq]
  generalize (lg_sl av ++ List.replicate (maxL - (lg_sl av).length) Slot.unset).toArray = ls at hl ⊢
  refine body p e s m below meth c _ _ ls B.exec B.bytes hml (fun w h => hts w (List.mem_cons_of_mem _ h)) (findClass_of_methodNamed B.named) hP hK _ hD (fun q h => Or.inr h) hl ?_
  intro x H locs pc ls hd hxR hP hD hS
  cases hxR
  exact W.iret B.exec B.bytes B.returns (fun t ht hW => ⟨⟨_, (), rfl, rfl, by rw [ht]; exact hP, hD⟩, hS.F ht⟩) hS.2.2 hd B.notSynchronized
abbrev k_calW (y : MethodName) (bytes : ByteArray) (maxL : Nat) (ret : Option FieldType) (hh : List (Nat × Nat × Nat × Nat)) (n : Nat) : Prop := Cond.codeWith y bytes maxL ret hh ∈ TT ∧ Cond.initialized y.cls ∈ TT ∧ k_hd y n
theorem k_warmW {y : MethodName} {bytes : ByteArray} {maxL : Nat} {ret : Option FieldType} {hh : List (Nat × Nat × Nat × Nat)} {args : Array Value} {s : State} (hts : ∀ w ∈ TT, w.before args s = true) (h : Cond.codeWith y bytes maxL ret hh ∈ TT) : ∀ w ∈ Cond.codeWith y bytes maxL ret hh :: TT, ∀ (a' : Array Value) (U : State), s.WarmedH U.vm → w.before a' U = true := fun w hw => by
  rcases List.mem_cons.mp hw with rfl | hw
  · exact k_warm hts _ h
  · exact k_warm hts _ hw
/-- a static call of a method with an exception table -/
theorem k_runSW {p : Program} {l : Launch} {e : Env} {R : Room} {s : State} {m : MethodId} {ar : Array Value} {below : List Frame} {meth : Method} {c : Code} {H : Heap} {locs : List Loc} {cells slots : Nat} {y : MethodName} {bytes cc : ByteArray} {maxL nL n index mc ms : Nat} {ret : Option FieldType} {hh : List (Nat × Nat × Nat × Nat)} {rm : Room} {own : String} {As rest st0 : List Value} {pc : Nat} {ls : Array Slot} {Pc : Array Value → State → Prop} {Qc : Array Value → State → Outcome → State → Prop} {free : Addr → Prop} (hx : p.tables.exec = Jvm.exec) (hb : c.code = cc) (hml : c.maxLocals = nL) (hown : s.vm.findClass own = some m.cls) (hts : ∀ w ∈ TT, w.before ar s = true)
    (hM : Met l y (Cond.codeWith y bytes maxL ret hh :: TT) rm Pc Qc mc ms free) (kc : k_calW y bytes maxL ret hh n) (kv : Cond.static y ∈ TT) (hk : Cond.methodLink own index y ∈ TT) (hR : rm.frames + 1 ≤ R.frames ∧ 8 + (maxL + 11) + rm.locals ≤ R.locals) (hrc : rm.cells = mc) (hrs : rm.slots = ms) (hp : PreS s H Pc As) (hn : As.length = n) (hsz : ls.size = nL) (hw : (rest.map fun v => v.category).sum ≤ 8) (hst : st0 = As.reverse ++ rest) (hdg : decode cc pc = .ok (.invokestatic index, 3)) (hf : cells + mc ≤ R.cells ∧ slots + ms ≤ R.slots) :
    va_Run p l e R s m ar below meth c H locs cells slots mc ms (F0 m pc ls st0) rest (Qc As.toArray) free := by
  have hK : Back l R p e below s ar y 3 8 (PreOf R mc ms Pc) (PostOf Qc mc ms free) := va_backW (bytes := bytes) (maxL := maxL) (ret := ret) (hh := hh) hM hp.1 hrc hrs hR.1 hR.2 (k_warmW hts kc.1) List.mem_cons_self (fun a' U hW => k_warm hts _ kc.2.1 a' U hW)
  subst hb
  intro T hT X
  obtain ⟨mk, methM, cM, hnamed, hmethM, -, -, -, -, -, -, hsigM⟩ := Cond.codeWith_spec (hts _ kc.1)
  have hstatic : methM.isStatic = true := Cond.static_spec hnamed hmethM (hts _ kv)
  obtain ⟨kP, hkP, -⟩ := className_of_methodNamed hnamed
  have hinitP : kP.init = .initialized := Cond.initialized_spec (findClass_of_methodNamed hnamed) hkP (hts _ kc.2.1)
  obtain ⟨vm₁, X₁, hstep₁⟩ := X.invokestatic hx hown (hts _ hk) hnamed hmethM hstatic hkP hinitP ⟨kc.2.2.1, kc.2.2.2.1⟩ (g := F0 m pc ls st0) rfl (argsL := As) (rest := rest) (hn.trans (k_len kc.2.2 _ hsigM)) hst hdg
  obtain ⟨v, B, X', hpost, hsteps⟩ := hK m meth c ⟨T.setVm vm₁, locs, cells, slots⟩ (F0 m pc ls rest) (.invokestatic index) mk As.toArray X₁ rfl (hsz.trans hml.symm) hdg (lv_room hw) (X₁.named hnamed) ⟨hf.1, hf.2, hp.2 (T.setVm vm₁) hT X₁.warmed⟩
  obtain ⟨U', l2, c2, s2⟩ := B
  obtain ⟨g', mk', t, L9, e1, e2, hq, h1, hL, h2, h3⟩ := hpost
  dsimp only [Pt.U, Pt.locs, Pt.cells, Pt.slots] at X' e1 e2 h1 h2 h3 hsteps
  subst h1; subst h2; subst h3
  exact ⟨v, (T.setVm vm₁).calling g' mk' As.toArray, t, U', L9, hT, X', hL, e1, e2, hq, fun target h => hstep₁ _ fun acts => by rw [doInvoke_state]; exact hsteps.trans h⟩
theorem k_wSWI {p : Program} {l : Launch} {e : Env} {R : Room} {s : State} {m : MethodId} {ar : Array Value} {below : List Frame} {meth : Method} {c : Code} {H : Heap} {locs : List Loc} {cells slots : Nat} {Q : State → Prop} {y : MethodName} {bytes cc : ByteArray} {maxL nL n index : Nat} {ret : Option FieldType} {hh : List (Nat × Nat × Nat × Nat)} {rm : Room} {mc ms : Nat} {own : String} {As rest st0 : List Value} {pc : Nat} {ls : Array Slot} {D : va_G} {ca : Nat → ClassId} {wc ws : va_W} {r : Int32} {wr w1 w2 : va_W} {A : Nat → Prop} {H0 : Heap} (hx : p.tables.exec = Jvm.exec) (hb : c.code = cc) (hml : c.maxLocals = nL) (hown : s.vm.findClass own = some m.cls) (hts : ∀ w ∈ TT, w.before ar s = true)
    (hM : Met l y (Cond.codeWith y bytes maxL ret hh :: TT) rm (wr_P As D ca wc H.size) (va_Qi (fun x (_ : Unit) => x = r) (wr_B D wc H.size w1) (va_A wc H.size)) mc ms (va_A wc H.size)) (kc : k_calW y bytes maxL ret hh n) (kv : Cond.static y ∈ TT) (hk : Cond.methodLink own index y ∈ TT) (hR : rm.frames + 1 ≤ R.frames ∧ 8 + (maxL + 11) + rm.locals ≤ R.locals) (hrc : rm.cells = mc) (hrs : rm.slots = ms)
    (hP : va_P D vwCl ws H) (hK : va_K D vwCl (tyG ca) s) (hD : va_D A ws) (hS : va_S A H0 H locs) (hA : ∀ q : Nat, H0.size ≤ q → A q)
    (isC isR isF : List Nat) (hC : isC.map (fun i => ws[i]?) = wc.map some) (hCn : va_nd isC = true) (hRr : isR.map (fun i => ws[i]?) = wr.map some) (hRn : va_nd isR = true) (hdis : ∀ i ∈ isR, i ∉ isC) (hF : isF.map (fun i => (wr ++ w1)[i]?) = w2.map some) (hFn : va_nd isF = true)
    (hn : As.length = n) (hsz : ls.size = nL) (hw : (rest.map fun v => v.category).sum ≤ 8) (hst : st0 = As.reverse ++ rest) (hdg : decode cc pc = .ok (.invokestatic index, 3)) (hf : cells + mc ≤ R.cells ∧ slots + ms ≤ R.slots)
    (kk : ∀ (H1 : Heap) (locs1 : List Loc), va_P D vwCl w2 H1 → va_D A w2 → va_S A H0 H1 locs1 → W p l e R s m ar below meth c H1 locs1 (cells + mc) (slots + ms) Q (F0 m (pc + 3) ls (.int r :: rest))) : W p l e R s m ar below meth c H locs cells slots Q (F0 m pc ls st0) := by
  have hPc : va_P D vwCl wc H := hP.sub isC (k_fm hC)
  have hDc : va_D A wc := hD.sub isC hCn hC
  have hFc := va_free (wc := wc) hD hS hA isC hC
  refine va_calli (k_runSW (As := As) (rest := rest) hx hb hml hown hts hM kc kv hk hR hrc hrs ⟨wr_blind, fun U hU hW => ⟨rfl, by rw [hU], by rw [hU]; exact hPc, va_K.moved hW.alike hK, hDc.weaken (fun _ _ _ _ => trivial)⟩⟩ hn hsz hw hst hdg hf) hS (fun q _ h => hFc q h) hFc (fun x u t H1 locs ht hvm hw9 hB hz1 hk1 hS => ?_)
  subst hw9
  obtain ⟨hP1, hD1⟩ := hB
  rw [ht] at hP1
  obtain ⟨hP, hD⟩ := va_join (wr := wr) (w1 := w1) hP hD isC isR hC hRr hRn hdis hk1 hFc hP1 hD1
  exact kk H1 locs (hP.sub isF (k_fm hF)) (hD.sub isF hFn hF) hS
abbrev hp_P (av : List Value) (D : va_G) (ca : Nat → ClassId) (ws : va_W) (sz : Nat) : Array Value → State → Prop := va_Pc av (fun U => U.heap.size = sz ∧ va_P D vwCl ws U.heap ∧ va_K D vwCl (tyG ca) U ∧ va_D (fun _ => True) ws ∧ xt_ev U U.heap)
theorem hp_blind {av : List Value} {D : va_G} {ca : Nat → ClassId} {ws : va_W} {sz : Nat} : FrameBlind (hp_P av D ca ws sz) := fun a U g mk q => by
  obtain ⟨q0, q1, qP, qK, qD, qE⟩ := q
  exact ⟨q0, q1, qP, va_K.moved (u := U) (U := U.calling g mk a) (Vm.Alike.refl U.vm) qK, qD, xt_ev.moved (u := U) (U := U.calling g mk a) (Vm.Alike.refl U.vm) qE⟩
theorem k_wSWX {p : Program} {l : Launch} {e : Env} {R : Room} {s : State} {m : MethodId} {ar : Array Value} {below : List Frame} {meth : Method} {c : Code} {H : Heap} {locs : List Loc} {cells slots : Nat} {Q : State → Prop} {y : MethodName} {bytes cc : ByteArray} {maxL nL n index : Nat} {ret : Option FieldType} {hh : List (Nat × Nat × Nat × Nat)} {rm : Room} {mc ms : Nat} {own : String} {As rest st0 : List Value} {pc : Nat} {ls : Array Slot} {D : va_G} {ca : Nat → ClassId} {wc ws : va_W} {r : Int32} {wr w1 w2 : va_W} {A : Nat → Prop} {H0 : Heap} (hx : p.tables.exec = Jvm.exec) (hb : c.code = cc) (hml : c.maxLocals = nL) (hown : s.vm.findClass own = some m.cls) (hts : ∀ w ∈ TT, w.before ar s = true)
    (hM : Met l y (Cond.codeWith y bytes maxL ret hh :: TT) rm (hp_P As D ca wc H.size) (va_Qi (fun x (_ : Unit) => x = r) (wr_B D wc H.size w1) (va_A wc H.size)) mc ms (va_A wc H.size)) (kc : k_calW y bytes maxL ret hh n) (kv : Cond.static y ∈ TT) (hk : Cond.methodLink own index y ∈ TT) (hR : rm.frames + 1 ≤ R.frames ∧ 8 + (maxL + 11) + rm.locals ≤ R.locals) (hrc : rm.cells = mc) (hrs : rm.slots = ms)
    (hP : va_P D vwCl ws H) (hK : va_K D vwCl (tyG ca) s) (hD : va_D A ws) (hS : va_S A H0 H locs) (hA : ∀ q : Nat, H0.size ≤ q → A q) (hev : xt_ev s H)
    (isC isR isF : List Nat) (hC : isC.map (fun i => ws[i]?) = wc.map some) (hCn : va_nd isC = true) (hRr : isR.map (fun i => ws[i]?) = wr.map some) (hRn : va_nd isR = true) (hdis : ∀ i ∈ isR, i ∉ isC) (hF : isF.map (fun i => (wr ++ w1)[i]?) = w2.map some) (hFn : va_nd isF = true)
    (hn : As.length = n) (hsz : ls.size = nL) (hw : (rest.map fun v => v.category).sum ≤ 8) (hst : st0 = As.reverse ++ rest) (hdg : decode cc pc = .ok (.invokestatic index, 3)) (hf : cells + mc ≤ R.cells ∧ slots + ms ≤ R.slots)
    (kk : ∀ (H1 : Heap) (locs1 : List Loc), va_P D vwCl w2 H1 → va_D A w2 → va_S A H0 H1 locs1 → W p l e R s m ar below meth c H1 locs1 (cells + mc) (slots + ms) Q (F0 m (pc + 3) ls (.int r :: rest))) : W p l e R s m ar below meth c H locs cells slots Q (F0 m pc ls st0) := by
  have hPc : va_P D vwCl wc H := hP.sub isC (k_fm hC)
  have hDc : va_D A wc := hD.sub isC hCn hC
  have hFc := va_free (wc := wc) hD hS hA isC hC
  refine va_calli (k_runSW (As := As) (rest := rest) hx hb hml hown hts hM kc kv hk hR hrc hrs ⟨hp_blind, fun U hU hW => ⟨rfl, by rw [hU], by rw [hU]; exact hPc, va_K.moved hW.alike hK, hDc.weaken (fun _ _ _ _ => trivial), by rw [hU]; exact xt_ev.moved hW.alike hev⟩⟩ hn hsz hw hst hdg hf) hS (fun q _ h => hFc q h) hFc (fun x u t H1 locs ht hvm hw9 hB hz1 hk1 hS => ?_)
  subst hw9
  obtain ⟨hP1, hD1⟩ := hB
  rw [ht] at hP1
  obtain ⟨hP, hD⟩ := va_join (wr := wr) (w1 := w1) hP hD isC isR hC hRr hRn hdis hk1 hFc hP1 hD1
  exact kk H1 locs (hP.sub isF (k_fm hF)) (hD.sub isF hFn hF) hS
theorem hx_of {l : Launch} {y : MethodName} {cc : ByteArray} {maxL : Nat} {rm : Room} {hh : List (Nat × Nat × Nat × Nat)} {av : List Value} {D : va_G} {ca : Nat → ClassId} {ws : va_W} {sz : Nat} {k : Int32} (hy : plainName y.cls = true) (hlen : (lg_sl av).length ≤ maxL)
    (body : ∀ (p : Program) (e : Env) (s : State) (m : MethodId) (below : List Frame) (meth : Method) (c : Code) (Q : State → Prop) (ar : Array Value) (ls : Array Slot),
      p.tables.exec = Jvm.exec → c.code = cc → c.maxLocals = maxL → (∀ w ∈ TT, w.before ar s = true) → s.vm.findClass y.cls = some m.cls → c.exceptionTable.toList.map (fun h => (h.startPc, h.endPc, h.handlerPc, h.catchType)) = hh → va_P D vwCl ws s.heap → va_K D vwCl (tyG ca) s → xt_ev s s.heap → lv_has ls maxL (lv_args 0 av) →
      (∀ (v : Int32) (H : Heap) (pc : Nat) (ls : Array Slot), decode cc pc = .ok (.ireturn, 1) → v = k → va_P D vwCl ws H → va_S (va_A ws s.heap.size) s.heap H [] → W p l e rm s m ar below meth c H [] 1 6 Q (F0 m pc ls [.int v])) →
      W p l e rm s m ar below meth c s.heap [] 0 0 Q (F0 m 0 ls [])) :
    Met l y (Cond.codeWith y cc maxL (some .int) hh :: TT) rm (hp_P av D ca ws sz) (va_Qi (fun r (_ : Unit) => r = k) (wr_B D ws sz ws) (va_A ws sz)) 1 6 (va_A ws sz) := by
  refine va_MetW (cc := cc) (maxL := maxL) (ret := some .int) (hh := hh) hy rfl ?_
  intro p e s m args below meth c s₁ B hml hv
  obtain ⟨rfl, hsz, hP, hK, hD0, hev⟩ := hv
  subst hsz
  have hD := hD0.self (sz := s.heap.size)
  have hts := atoms_spec (ws := Cond.codeWith y cc maxL (some .int) hh :: TT) B.pre
  have htab : c.exceptionTable.toList.map (fun h => (h.startPc, h.endPc, h.handlerPc, h.catchType)) = hh := by
    obtain ⟨m9, meth9, c9, hn9, h1, h2, -, -, h6, -⟩ := Cond.codeWith_spec (hts _ List.mem_cons_self)
    cases Option.some.inj (hn9.symm.trans B.named)
    cases Option.some.inj (h1.symm.trans B.method)
    cases Option.some.inj (h2.symm.trans (Stand.of_body B).code)
    exact h6
  have hl := lv_entry av (n := maxL) hlen
  rw [lg_entry_eq]
  generalize (lg_sl av ++ List.replicate (maxL - (lg_sl av).length) Slot.unset).toArray = ls at hl ⊢
  refine body p e s m below meth c _ _ ls B.exec B.bytes hml (fun w h => hts w (List.mem_cons_of_mem _ h)) (findClass_of_methodNamed B.named) htab hP hK hev hl ?_
  intro v H pc ls hd hv hP hS
  exact W.iret B.exec B.bytes B.returns (fun t ht hW => ⟨⟨v, (), rfl, hv, by rw [ht]; exact hP, hD⟩, hS.F ht⟩) (fun q h => nomatch h) hd B.notSynchronized
/-- a virtual call that throws exception number nn, caught in this very method by its row x -/
theorem k_xV {p : Program} {l : Launch} {e : Env} {R : Room} {s : State} {m : MethodId} {ar : Array Value} {below : List Frame} {meth : Method} {c : Code} {Q : State → Prop} {y : MethodName} {bytes cc : ByteArray} {maxL nL n index nn : Nat} {ret : Option FieldType} {rm : Room} {own : String} {As rest st0 : List Value} {pc b ci : Nat} {fs : List Value} {q : vw_C} {ls : Array Slot} {D : va_G} {ca : Nat → ClassId} {wc ws : va_W} {A : Nat → Prop} (hx : p.tables.exec = Jvm.exec) (hb : c.code = cc) (hml : c.maxLocals = nL) (hown : s.vm.findClass own = some m.cls) (hts : ∀ w ∈ TT, w.before ar s = true) (hev : xt_ev s s.heap)
    (hM : xm_Met l y (Cond.code y bytes maxL ret :: TT) rm (xt_P (.ref b :: As) D ca wc) nn) (kc : k_cal y bytes maxL ret n) (kv : k_vir y) (hk : Cond.methodLink own index y ∈ TT) (hR : rm.frames + 1 ≤ R.frames ∧ 8 + (maxL + 11) + rm.locals ≤ R.locals) (hrc : rm.cells = 1) (hrs : rm.slots = 6)
    (hP : va_P D vwCl ws s.heap) (hK : va_K D vwCl (tyG ca) s) (is : List Nat) (hs : is.filterMap (fun i => ws[i]?) = wc) (q0 : Nat) (hq : wc[q0]? = some (b, .inr (ci, fs))) (hc : vwCl[ci]? = some q) (hqc : q.1 = y.cls) (hn : As.length = n) (hsz : ls.size = nL) (hw : (rest.map fun v => v.category).sum ≤ 8) (hst : st0 = As.reverse ++ .ref b :: rest) (hdg : decode cc pc = .ok (.invokevirtual index, 3)) (hf : 0 + 1 ≤ R.cells ∧ 0 + 6 ≤ R.slots)
    (pre : List ExceptionTableEntry) (x : ExceptionTableEntry) (suf : List ExceptionTableEntry) (hsplit : c.exceptionTable.toList = pre ++ x :: suf)
    (hpass : ∀ z ∈ pre, z.catchType ≠ 0 ∧ ∃ nm : String, Cond.classLink own z.catchType nm ∈ TT ∧ va_Nc (xt_E nn) nm s) (hcov : covers x pc = true) (h0 : x.catchType ≠ 0) (hlink : Cond.classLink own x.catchType (xt_E nn) ∈ TT) (hcast : Cond.castable (xt_E nn) (xt_E nn) ∈ TT)
    (kk : ∀ (q9 : Nat) (H1 : Heap), va_P D vwCl ws H1 → va_S A s.heap H1 [] → W p l e R s m ar below meth c H1 [] 1 6 Q (F0 m x.handlerPc ls [.ref q9])) : W p l e R s m ar below meth c s.heap [] 0 0 Q (F0 m pc ls st0) := by
  subst hb
  intro T hT X
  have hPc := hP.sub is hs
  obtain ⟨cellB, hcB, hoB, hclB⟩ := va_recv hK hPc hc hq
  rw [hqc] at hclB
  obtain ⟨mk, methM, hnamed, hmethM, hstM, habM⟩ := Cond.instanceMethod_spec (hts _ kv.1)
  obtain ⟨methM', cM, hmethM', -, -, -, -, -, -, hsigM⟩ := Cond.code_spec hnamed (hts _ kc.1)
  cases hmethM.symm.trans hmethM'
  obtain ⟨c2, r2, m2, s1, s2, s3, s4, kP, hkP, hkPi⟩ := Cond.selects_spec (hts _ kv.2)
  cases hclB.symm.trans s1
  cases (State.methodFound?_of_named hnamed ⟨kc.2.2.1, kc.2.2.2.1⟩).symm.trans s2
  cases hnamed.symm.trans s3
  have hselP : selectMethod e.platform s.vm cellB.cls mk = .method mk := by rw [Launch.admits_selectMethod X.admits]; exact s4
  obtain ⟨vm₁, X₁, hstep₁⟩ := X.invokevirtual hx hown (hts _ hk) hnamed hmethM hstM hkP hkPi ⟨kc.2.2.1, kc.2.2.2.1⟩ (a := b) (cell := cellB) (by rw [hT]; exact hcB)
    (fun z h => by rw [h] at hoB; cases hoB) hselP hmethM habM hkP hkPi (g := F0 m pc ls st0) rfl (argsL := As) (rest := rest) (hn.trans (k_len kc.2.2 _ hsigM)) hst hdg
  have hBk : BackT l R p e below s ar y 3 8 (PreOf R 1 6 (xt_P (.ref b :: As) D ca wc)) (xm_Post nn) := xm_back hts hM xt_blind kc hR hrc hrs
  obtain ⟨v, B, X', hpost, hsteps⟩ := hBk m meth c ⟨T.setVm vm₁, [], 0, 0⟩ (F0 m pc ls rest) (.invokevirtual index) mk (Value.ref b :: As).toArray X₁ rfl (hsz.trans hml.symm) hdg (lv_room hw) (X₁.named hnamed)
    ⟨hf.1, hf.2, rfl, by rw [show (T.setVm vm₁).heap = s.heap from hT]; exact hPc, va_K.moved X₁.warmed.alike hK, by rw [show (T.setVm vm₁).heap = s.heap from hT]; exact xt_ev.moved X₁.warmed.alike hev⟩
  obtain ⟨BU, Bl, Bc, Bs⟩ := B
  obtain ⟨p1, p2, p3, p4, p5, ce, p6, p7, p8⟩ := hpost
  dsimp only [Pt.U, Pt.locs, Pt.cells, Pt.slots] at p1 p2 p3 p4 p5 p6 p8 X' hsteps
  subst p1; subst p2; subst p3
  have hTs : (T.setVm vm₁).heap = s.heap := hT
  rw [hTs] at p4 p5
  have hcl : s.vm.findClass (xt_E nn) = some ce.cls := by
    have h9 := p8
    rw [X₁.warmed.alike.findClass] at h9
    exact h9
  have hpl : e.platform.magicAccessors = ({} : Platform).magicAccessors := by rw [X.admits.platform]
  obtain ⟨c3, c4, hc3, hc4, hasg⟩ := Cond.castable_spec (hts _ hcast)
  cases Option.some.inj (hc3.symm.trans hcl)
  cases Option.some.inj (hc4.symm.trans hcl)
  obtain ⟨c5, hc5, hcl5⟩ := Cond.classLink_spec hown (hts _ hlink) e.platform hpl
  cases Option.some.inj (hcl.symm.trans hc5)
  have hall : Steps p.tables e below (T.setTop (F0 m pc ls st0)) ((BU.setTop (F0 m pc ls rest)).pushFrame (.throwing v)) := hstep₁ _ fun acts => by rw [doInvoke_state]; exact hsteps
  obtain ⟨vm', X2, st2⟩ := X'.thenCaughtThrough v (g := F0 m pc ls rest) rfl hall p6 (by rw [p7]; rfl) (by obtain ⟨k9, h9, -⟩ := Vm.findClass_spec hcl; exact ⟨k9, h9⟩) pre x suf hsplit
    (fun z hz => by
      obtain ⟨z0, nm, zl, zn⟩ := hpass z hz
      obtain ⟨c6, hc6, hcl6⟩ := Cond.classLink_spec hown (hts _ zl) e.platform hpl
      obtain ⟨a8, b8, g1, g2, g3⟩ := zn
      cases Option.some.inj (g1.symm.trans hcl)
      cases Option.some.inj (g2.symm.trans hc6)
      exact Or.inr ⟨z0, _, hcl6, g3⟩) hcov (Or.inr ⟨h0, _, hcl5, hasg⟩)
  have hPn : va_P D vwCl ws BU.heap := hP.kept (fun k z hz => p5 z.1 (hP k z hz).lt)
  have hSn : va_S A s.heap BU.heap [] := ⟨p4, fun z hz _ => p5 z hz, fun z hz => nomatch hz⟩
  obtain ⟨t, a1, b1⟩ := kk v BU.heap hPn hSn (BU.setVm vm') rfl X2
  exact ⟨t, st2.trans a1, b1⟩
theorem k_tab1 {t : List ExceptionTableEntry} {a : Nat × Nat × Nat × Nat} (h : t.map (fun h => (h.startPc, h.endPc, h.handlerPc, h.catchType)) = [a]) : ∃ x, t = [x] ∧ (x.startPc, x.endPc, x.handlerPc, x.catchType) = a := by
  match t, h with
  | [x], h => exact ⟨x, rfl, (List.cons.inj h).1⟩
theorem k_tab2 {t : List ExceptionTableEntry} {a b : Nat × Nat × Nat × Nat} (h : t.map (fun h => (h.startPc, h.endPc, h.handlerPc, h.catchType)) = [a, b]) : ∃ x y, t = [x, y] ∧ (x.startPc, x.endPc, x.handlerPc, x.catchType) = a ∧ (y.startPc, y.endPc, y.handlerPc, y.catchType) = b := by
  match t, h with
  | [x, y], h => exact ⟨x, y, rfl, (List.cons.inj h).1, (List.cons.inj (List.cons.inj h).2).1⟩
theorem k_tab3 {t : List ExceptionTableEntry} {a b d : Nat × Nat × Nat × Nat} (h : t.map (fun h => (h.startPc, h.endPc, h.handlerPc, h.catchType)) = [a, b, d]) : ∃ x y z, t = [x, y, z] ∧ (x.startPc, x.endPc, x.handlerPc, x.catchType) = a ∧ (y.startPc, y.endPc, y.handlerPc, y.catchType) = b ∧ (z.startPc, z.endPc, z.handlerPc, z.catchType) = d := by
  match t, h with
  | [x, y, z], h => exact ⟨x, y, z, rfl, (List.cons.inj h).1, (List.cons.inj (List.cons.inj h).2).1, (List.cons.inj (List.cons.inj (List.cons.inj h).2).2).1⟩
theorem tt_0 : Cond.initialized nR_Law ∈ TT := tt_t (i := 0) (by decide +kernel) (by decide +kernel)
theorem tt_271 : Cond.static nY_Law_room ∈ TT := tt_t (i := 271) (by decide +kernel) (by decide +kernel)
set_option maxRecDepth 100000 in
theorem tt_272 : Cond.codeWith nY_Law_room nC_Law_room 4 (some .int) [((0 : Nat), (6 : Nat), (9 : Nat), (13 : Nat))] ∈ TT := tt_t (i := 272) (rfl) (by decide +kernel)
theorem tt_273 : Cond.classLink nR_Law 13 "java/lang/IllegalArgumentException" ∈ TT := tt_t (i := 273) (by decide +kernel) (by decide +kernel)
theorem tt_274 : Cond.methodLink nR_Law 7 nY_Room_room ∈ TT := tt_t (i := 274) (by decide +kernel) (by decide +kernel)
theorem tt_350 : Cond.static nY_Law_wall ∈ TT := tt_t (i := 350) (by decide +kernel) (by decide +kernel)
set_option maxRecDepth 100000 in
theorem tt_351 : Cond.codeWith nY_Law_wall nC_Law_wall 5 (some .int) [((0 : Nat), (10 : Nat), (13 : Nat), (19 : Nat)), ((0 : Nat), (10 : Nat), (17 : Nat), (13 : Nat))] ∈ TT := tt_t (i := 351) (rfl) (by decide +kernel)
theorem tt_352 : Cond.classLink nR_Law 19 "java/lang/IllegalStateException" ∈ TT := tt_t (i := 352) (by decide +kernel) (by decide +kernel)
theorem tt_353 : Cond.methodLink nR_Law 15 nY_Room_wall ∈ TT := tt_t (i := 353) (by decide +kernel) (by decide +kernel)
theorem tt_382 : Cond.static nY_Law_goods ∈ TT := tt_t (i := 382) (by decide +kernel) (by decide +kernel)
set_option maxRecDepth 100000 in
theorem tt_383 : Cond.codeWith nY_Law_goods nC_Law_goods 4 (some .int) [((0 : Nat), (9 : Nat), (12 : Nat), (13 : Nat))] ∈ TT := tt_t (i := 383) (rfl) (by decide +kernel)
theorem tt_384 : Cond.methodLink nR_Law 21 nY_Room_goods ∈ TT := tt_t (i := 384) (by decide +kernel) (by decide +kernel)
theorem tt_389 : Cond.static nY_Law_row ∈ TT := tt_t (i := 389) (by decide +kernel) (by decide +kernel)
set_option maxRecDepth 100000 in
theorem tt_390 : Cond.codeWith nY_Law_row nC_Law_row 5 (some .int) [((0 : Nat), (10 : Nat), (13 : Nat), (19 : Nat)), ((0 : Nat), (10 : Nat), (17 : Nat), (13 : Nat))] ∈ TT := tt_t (i := 390) (rfl) (by decide +kernel)
theorem tt_391 : Cond.methodLink nR_Law 25 nY_Room_row ∈ TT := tt_t (i := 391) (by decide +kernel) (by decide +kernel)
theorem tt_409 : Cond.static nY_Law_machine ∈ TT := tt_t (i := 409) (by decide +kernel) (by decide +kernel)
set_option maxRecDepth 100000 in
theorem tt_410 : Cond.codeWith nY_Law_machine nC_Law_machine 6 (some .int) [((0 : Nat), (9 : Nat), (12 : Nat), (32 : Nat)), ((0 : Nat), (9 : Nat), (16 : Nat), (13 : Nat))] ∈ TT := tt_t (i := 410) (rfl) (by decide +kernel)
theorem tt_411 : Cond.classLink nR_Law 32 "java/lang/IndexOutOfBoundsException" ∈ TT := tt_t (i := 411) (by decide +kernel) (by decide +kernel)
theorem tt_412 : Cond.methodLink nR_Law 28 nY_Room_machine ∈ TT := tt_t (i := 412) (by decide +kernel) (by decide +kernel)
theorem tt_442 : Cond.static nY_Law_hour ∈ TT := tt_t (i := 442) (by decide +kernel) (by decide +kernel)
set_option maxRecDepth 100000 in
theorem tt_443 : Cond.codeWith nY_Law_hour nC_Law_hour 6 (some .int) [((0 : Nat), (12 : Nat), (15 : Nat), (19 : Nat)), ((0 : Nat), (12 : Nat), (19 : Nat), (13 : Nat))] ∈ TT := tt_t (i := 443) (rfl) (by decide +kernel)
theorem tt_444 : Cond.methodLink nR_Law 34 nY_Room_hour ∈ TT := tt_t (i := 444) (by decide +kernel) (by decide +kernel)
theorem tt_540 : Cond.static nY_Law_layer ∈ TT := tt_t (i := 540) (by decide +kernel) (by decide +kernel)
set_option maxRecDepth 100000 in
theorem tt_541 : Cond.codeWith nY_Law_layer nC_Law_layer 4 (some .int) [((0 : Nat), (9 : Nat), (12 : Nat), (32 : Nat))] ∈ TT := tt_t (i := 541) (rfl) (by decide +kernel)
theorem tt_542 : Cond.methodLink nR_Law 38 nY_Room_layer ∈ TT := tt_t (i := 542) (by decide +kernel) (by decide +kernel)
theorem tt_548 : Cond.static nY_Law_on ∈ TT := tt_t (i := 548) (by decide +kernel) (by decide +kernel)
set_option maxRecDepth 100000 in
theorem tt_549 : Cond.codeWith nY_Law_on nC_Law_on 4 (some .int) [((0 : Nat), (16 : Nat), (19 : Nat), (32 : Nat))] ∈ TT := tt_t (i := 549) (rfl) (by decide +kernel)
theorem tt_550 : Cond.methodLink nR_Law 41 nY_Room_on ∈ TT := tt_t (i := 550) (by decide +kernel) (by decide +kernel)
theorem tt_555 : Cond.static nY_Law_book ∈ TT := tt_t (i := 555) (by decide +kernel) (by decide +kernel)
set_option maxRecDepth 100000 in
theorem tt_556 : Cond.codeWith nY_Law_book nC_Law_book 5 (some .int) [((0 : Nat), (9 : Nat), (12 : Nat), (32 : Nat))] ∈ TT := tt_t (i := 556) (rfl) (by decide +kernel)
theorem tt_557 : Cond.methodLink nR_Law 45 nY_Room_book ∈ TT := tt_t (i := 557) (by decide +kernel) (by decide +kernel)
theorem tt_562 : Cond.static nY_Law_dew ∈ TT := tt_t (i := 562) (by decide +kernel) (by decide +kernel)
set_option maxRecDepth 100000 in
theorem tt_563 : Cond.codeWith nY_Law_dew nC_Law_dew 4 (some .int) [((0 : Nat), (16 : Nat), (19 : Nat), (32 : Nat))] ∈ TT := tt_t (i := 563) (rfl) (by decide +kernel)
theorem tt_564 : Cond.methodLink nR_Law 49 nY_Room_dew ∈ TT := tt_t (i := 564) (by decide +kernel) (by decide +kernel)
theorem tt_572 : Cond.static nY_Law_risk ∈ TT := tt_t (i := 572) (by decide +kernel) (by decide +kernel)
set_option maxRecDepth 100000 in
theorem tt_573 : Cond.codeWith nY_Law_risk nC_Law_risk 6 (some .int) [((0 : Nat), (12 : Nat), (15 : Nat), (32 : Nat)), ((0 : Nat), (12 : Nat), (19 : Nat), (19 : Nat)), ((0 : Nat), (12 : Nat), (23 : Nat), (13 : Nat))] ∈ TT := tt_t (i := 573) (rfl) (by decide +kernel)
theorem tt_574 : Cond.methodLink nR_Law 52 nY_Room_risk ∈ TT := tt_t (i := 574) (by decide +kernel) (by decide +kernel)
theorem tt_579 : Cond.static nY_Law_points ∈ TT := tt_t (i := 579) (by decide +kernel) (by decide +kernel)
set_option maxRecDepth 100000 in
theorem tt_580 : Cond.codeWith nY_Law_points nC_Law_points 4 (some .int) [((0 : Nat), (9 : Nat), (12 : Nat), (32 : Nat))] ∈ TT := tt_t (i := 580) (rfl) (by decide +kernel)
theorem tt_581 : Cond.methodLink nR_Law 55 nY_Room_points ∈ TT := tt_t (i := 581) (by decide +kernel) (by decide +kernel)
theorem tt_586 : Cond.static nY_Law_rule ∈ TT := tt_t (i := 586) (by decide +kernel) (by decide +kernel)
set_option maxRecDepth 100000 in
theorem tt_587 : Cond.codeWith nY_Law_rule nC_Law_rule 6 (some .int) [((0 : Nat), (12 : Nat), (15 : Nat), (19 : Nat)), ((0 : Nat), (12 : Nat), (19 : Nat), (13 : Nat))] ∈ TT := tt_t (i := 587) (rfl) (by decide +kernel)
theorem tt_588 : Cond.methodLink nR_Law 58 nY_Room_rule ∈ TT := tt_t (i := 588) (by decide +kernel) (by decide +kernel)
theorem tt_597 : Cond.static nY_Law_alarm ∈ TT := tt_t (i := 597) (by decide +kernel) (by decide +kernel)
set_option maxRecDepth 100000 in
theorem tt_598 : Cond.codeWith nY_Law_alarm nC_Law_alarm 5 (some .int) [((0 : Nat), (10 : Nat), (13 : Nat), (32 : Nat))] ∈ TT := tt_t (i := 598) (rfl) (by decide +kernel)
theorem tt_599 : Cond.methodLink nR_Law 61 nY_Room_alarm ∈ TT := tt_t (i := 599) (by decide +kernel) (by decide +kernel)
theorem tt_605 : Cond.static nY_Law_sensor ∈ TT := tt_t (i := 605) (by decide +kernel) (by decide +kernel)
set_option maxRecDepth 100000 in
theorem tt_606 : Cond.codeWith nY_Law_sensor nC_Law_sensor 4 (some .int) [((0 : Nat), (6 : Nat), (9 : Nat), (32 : Nat)), ((0 : Nat), (6 : Nat), (12 : Nat), (13 : Nat))] ∈ TT := tt_t (i := 606) (rfl) (by decide +kernel)
theorem tt_607 : Cond.methodLink nR_Law 64 nY_Room_sensor ∈ TT := tt_t (i := 607) (by decide +kernel) (by decide +kernel)
theorem tt_617 : Cond.static nY_Law_check ∈ TT := tt_t (i := 617) (by decide +kernel) (by decide +kernel)
set_option maxRecDepth 100000 in
theorem tt_618 : Cond.codeWith nY_Law_check nC_Law_check 4 (some .int) [((0 : Nat), (6 : Nat), (9 : Nat), (32 : Nat)), ((0 : Nat), (6 : Nat), (12 : Nat), (19 : Nat)), ((0 : Nat), (6 : Nat), (15 : Nat), (13 : Nat))] ∈ TT := tt_t (i := 618) (rfl) (by decide +kernel)
theorem tt_619 : Cond.methodLink nR_Law 67 nY_Room_check ∈ TT := tt_t (i := 619) (by decide +kernel) (by decide +kernel)
theorem tt_629 : Cond.static nY_Law_corrected ∈ TT := tt_t (i := 629) (by decide +kernel) (by decide +kernel)
set_option maxRecDepth 100000 in
theorem tt_630 : Cond.codeWith nY_Law_corrected nC_Law_corrected 4 (some .int) [((0 : Nat), (9 : Nat), (12 : Nat), (32 : Nat))] ∈ TT := tt_t (i := 630) (rfl) (by decide +kernel)
theorem tt_631 : Cond.methodLink nR_Law 70 nY_Room_corrected ∈ TT := tt_t (i := 631) (by decide +kernel) (by decide +kernel)
theorem tt_654 : Cond.static nY_Law_silent ∈ TT := tt_t (i := 654) (by decide +kernel) (by decide +kernel)
set_option maxRecDepth 100000 in
theorem tt_655 : Cond.codeWith nY_Law_silent nC_Law_silent 4 (some .int) [((0 : Nat), (9 : Nat), (12 : Nat), (32 : Nat))] ∈ TT := tt_t (i := 655) (rfl) (by decide +kernel)
theorem tt_656 : Cond.methodLink nR_Law 73 nY_Room_silent ∈ TT := tt_t (i := 656) (by decide +kernel) (by decide +kernel)
theorem tt_665 : Cond.static nY_Law_plan ∈ TT := tt_t (i := 665) (by decide +kernel) (by decide +kernel)
set_option maxRecDepth 100000 in
theorem tt_666 : Cond.codeWith nY_Law_plan nC_Law_plan 6 (some .int) [((0 : Nat), (12 : Nat), (15 : Nat), (13 : Nat))] ∈ TT := tt_t (i := 666) (rfl) (by decide +kernel)
theorem tt_667 : Cond.methodLink nR_Law 76 nY_Room_plan ∈ TT := tt_t (i := 667) (by decide +kernel) (by decide +kernel)
theorem tt_707 : Cond.static nY_Law_count ∈ TT := tt_t (i := 707) (by decide +kernel) (by decide +kernel)
set_option maxRecDepth 100000 in
theorem tt_708 : Cond.codeWith nY_Law_count nC_Law_count 4 (some .int) [((0 : Nat), (9 : Nat), (12 : Nat), (32 : Nat))] ∈ TT := tt_t (i := 708) (rfl) (by decide +kernel)
theorem tt_709 : Cond.methodLink nR_Law 79 nY_Room_count ∈ TT := tt_t (i := 709) (by decide +kernel) (by decide +kernel)
theorem nd_Law_room_0 : decode nC_Law_room 0 = .ok (.aload_n 0, 1) := by decide +kernel
theorem nd_Law_room_1 : decode nC_Law_room 1 = .ok (.iload_n 1, 1) := by decide +kernel
theorem nd_Law_room_2 : decode nC_Law_room 2 = .ok (.iload_n 2, 1) := by decide +kernel
theorem nd_Law_room_3 : decode nC_Law_room 3 = .ok (.invokevirtual 7, 3) := by decide +kernel
theorem nd_Law_room_6 : decode nC_Law_room 6 = .ok (.goto 6, 3) := by decide +kernel
theorem nd_Law_room_9 : decode nC_Law_room 9 = .ok (.astore_n 3, 1) := by decide +kernel
theorem nd_Law_room_10 : decode nC_Law_room 10 = .ok (.iconst 1, 1) := by decide +kernel
theorem nd_Law_room_11 : decode nC_Law_room 11 = .ok (.ireturn, 1) := by decide +kernel
theorem nd_Law_room_12 : decode nC_Law_room 12 = .ok (.iconst 0, 1) := by decide +kernel
theorem nd_Law_room_13 : decode nC_Law_room 13 = .ok (.ireturn, 1) := by decide +kernel
theorem nd_Law_wall_0 : decode nC_Law_wall 0 = .ok (.aload_n 3, 1) := by decide +kernel
theorem nd_Law_wall_1 : decode nC_Law_wall 1 = .ok (.iconst 0, 1) := by decide +kernel
theorem nd_Law_wall_2 : decode nC_Law_wall 2 = .ok (.aload_n 0, 1) := by decide +kernel
theorem nd_Law_wall_3 : decode nC_Law_wall 3 = .ok (.iload_n 1, 1) := by decide +kernel
theorem nd_Law_wall_4 : decode nC_Law_wall 4 = .ok (.iload_n 2, 1) := by decide +kernel
theorem nd_Law_wall_5 : decode nC_Law_wall 5 = .ok (.invokevirtual 15, 3) := by decide +kernel
theorem nd_Law_wall_8 : decode nC_Law_wall 8 = .ok (.i2l, 1) := by decide +kernel
theorem nd_Law_wall_9 : decode nC_Law_wall 9 = .ok (.lastore, 1) := by decide +kernel
theorem nd_Law_wall_10 : decode nC_Law_wall 10 = .ok (.goto 11, 3) := by decide +kernel
theorem nd_Law_wall_13 : decode nC_Law_wall 13 = .ok (.astore 4, 2) := by decide +kernel
theorem nd_Law_wall_15 : decode nC_Law_wall 15 = .ok (.iconst 1, 1) := by decide +kernel
theorem nd_Law_wall_16 : decode nC_Law_wall 16 = .ok (.ireturn, 1) := by decide +kernel
theorem nd_Law_wall_17 : decode nC_Law_wall 17 = .ok (.astore 4, 2) := by decide +kernel
theorem nd_Law_wall_19 : decode nC_Law_wall 19 = .ok (.iconst 2, 1) := by decide +kernel
theorem nd_Law_wall_20 : decode nC_Law_wall 20 = .ok (.ireturn, 1) := by decide +kernel
theorem nd_Law_wall_21 : decode nC_Law_wall 21 = .ok (.iconst 0, 1) := by decide +kernel
theorem nd_Law_wall_22 : decode nC_Law_wall 22 = .ok (.ireturn, 1) := by decide +kernel
theorem nd_Law_goods_0 : decode nC_Law_goods 0 = .ok (.aload_n 2, 1) := by decide +kernel
theorem nd_Law_goods_1 : decode nC_Law_goods 1 = .ok (.iconst 0, 1) := by decide +kernel
theorem nd_Law_goods_2 : decode nC_Law_goods 2 = .ok (.aload_n 0, 1) := by decide +kernel
theorem nd_Law_goods_3 : decode nC_Law_goods 3 = .ok (.iload_n 1, 1) := by decide +kernel
theorem nd_Law_goods_4 : decode nC_Law_goods 4 = .ok (.invokevirtual 21, 3) := by decide +kernel
theorem nd_Law_goods_7 : decode nC_Law_goods 7 = .ok (.i2l, 1) := by decide +kernel
theorem nd_Law_goods_8 : decode nC_Law_goods 8 = .ok (.lastore, 1) := by decide +kernel
theorem nd_Law_goods_9 : decode nC_Law_goods 9 = .ok (.goto 6, 3) := by decide +kernel
theorem nd_Law_goods_12 : decode nC_Law_goods 12 = .ok (.astore_n 3, 1) := by decide +kernel
theorem nd_Law_goods_13 : decode nC_Law_goods 13 = .ok (.iconst 1, 1) := by decide +kernel
theorem nd_Law_goods_14 : decode nC_Law_goods 14 = .ok (.ireturn, 1) := by decide +kernel
theorem nd_Law_goods_15 : decode nC_Law_goods 15 = .ok (.iconst 0, 1) := by decide +kernel
theorem nd_Law_goods_16 : decode nC_Law_goods 16 = .ok (.ireturn, 1) := by decide +kernel
theorem nd_Law_row_0 : decode nC_Law_row 0 = .ok (.aload_n 3, 1) := by decide +kernel
theorem nd_Law_row_1 : decode nC_Law_row 1 = .ok (.iconst 0, 1) := by decide +kernel
theorem nd_Law_row_2 : decode nC_Law_row 2 = .ok (.aload_n 0, 1) := by decide +kernel
theorem nd_Law_row_3 : decode nC_Law_row 3 = .ok (.iload_n 1, 1) := by decide +kernel
theorem nd_Law_row_4 : decode nC_Law_row 4 = .ok (.iload_n 2, 1) := by decide +kernel
theorem nd_Law_row_5 : decode nC_Law_row 5 = .ok (.invokevirtual 25, 3) := by decide +kernel
theorem nd_Law_row_8 : decode nC_Law_row 8 = .ok (.i2l, 1) := by decide +kernel
theorem nd_Law_row_9 : decode nC_Law_row 9 = .ok (.lastore, 1) := by decide +kernel
theorem nd_Law_row_10 : decode nC_Law_row 10 = .ok (.goto 11, 3) := by decide +kernel
theorem nd_Law_row_13 : decode nC_Law_row 13 = .ok (.astore 4, 2) := by decide +kernel
theorem nd_Law_row_15 : decode nC_Law_row 15 = .ok (.iconst 1, 1) := by decide +kernel
theorem nd_Law_row_16 : decode nC_Law_row 16 = .ok (.ireturn, 1) := by decide +kernel
theorem nd_Law_row_17 : decode nC_Law_row 17 = .ok (.astore 4, 2) := by decide +kernel
theorem nd_Law_row_19 : decode nC_Law_row 19 = .ok (.iconst 2, 1) := by decide +kernel
theorem nd_Law_row_20 : decode nC_Law_row 20 = .ok (.ireturn, 1) := by decide +kernel
theorem nd_Law_row_21 : decode nC_Law_row 21 = .ok (.iconst 0, 1) := by decide +kernel
theorem nd_Law_row_22 : decode nC_Law_row 22 = .ok (.ireturn, 1) := by decide +kernel
theorem nd_Law_machine_0 : decode nC_Law_machine 0 = .ok (.aload_n 0, 1) := by decide +kernel
theorem nd_Law_machine_1 : decode nC_Law_machine 1 = .ok (.iload_n 1, 1) := by decide +kernel
theorem nd_Law_machine_2 : decode nC_Law_machine 2 = .ok (.iload_n 2, 1) := by decide +kernel
theorem nd_Law_machine_3 : decode nC_Law_machine 3 = .ok (.iload_n 3, 1) := by decide +kernel
theorem nd_Law_machine_4 : decode nC_Law_machine 4 = .ok (.iload 4, 2) := by decide +kernel
theorem nd_Law_machine_6 : decode nC_Law_machine 6 = .ok (.invokevirtual 28, 3) := by decide +kernel
theorem nd_Law_machine_9 : decode nC_Law_machine 9 = .ok (.goto 11, 3) := by decide +kernel
theorem nd_Law_machine_12 : decode nC_Law_machine 12 = .ok (.astore 5, 2) := by decide +kernel
theorem nd_Law_machine_14 : decode nC_Law_machine 14 = .ok (.iconst 1, 1) := by decide +kernel
theorem nd_Law_machine_15 : decode nC_Law_machine 15 = .ok (.ireturn, 1) := by decide +kernel
theorem nd_Law_machine_16 : decode nC_Law_machine 16 = .ok (.astore 5, 2) := by decide +kernel
theorem nd_Law_machine_18 : decode nC_Law_machine 18 = .ok (.iconst 2, 1) := by decide +kernel
theorem nd_Law_machine_19 : decode nC_Law_machine 19 = .ok (.ireturn, 1) := by decide +kernel
theorem nd_Law_machine_20 : decode nC_Law_machine 20 = .ok (.iconst 0, 1) := by decide +kernel
theorem nd_Law_machine_21 : decode nC_Law_machine 21 = .ok (.ireturn, 1) := by decide +kernel
theorem nd_Law_hour_0 : decode nC_Law_hour 0 = .ok (.aload 4, 2) := by decide +kernel
theorem nd_Law_hour_2 : decode nC_Law_hour 2 = .ok (.iconst 0, 1) := by decide +kernel
theorem nd_Law_hour_3 : decode nC_Law_hour 3 = .ok (.aload_n 0, 1) := by decide +kernel
theorem nd_Law_hour_4 : decode nC_Law_hour 4 = .ok (.iload_n 1, 1) := by decide +kernel
theorem nd_Law_hour_5 : decode nC_Law_hour 5 = .ok (.iload_n 2, 1) := by decide +kernel
theorem nd_Law_hour_6 : decode nC_Law_hour 6 = .ok (.iload_n 3, 1) := by decide +kernel
theorem nd_Law_hour_7 : decode nC_Law_hour 7 = .ok (.invokevirtual 34, 3) := by decide +kernel
theorem nd_Law_hour_10 : decode nC_Law_hour 10 = .ok (.i2l, 1) := by decide +kernel
theorem nd_Law_hour_11 : decode nC_Law_hour 11 = .ok (.lastore, 1) := by decide +kernel
theorem nd_Law_hour_12 : decode nC_Law_hour 12 = .ok (.goto 11, 3) := by decide +kernel
theorem nd_Law_hour_15 : decode nC_Law_hour 15 = .ok (.astore 5, 2) := by decide +kernel
theorem nd_Law_hour_17 : decode nC_Law_hour 17 = .ok (.iconst 1, 1) := by decide +kernel
theorem nd_Law_hour_18 : decode nC_Law_hour 18 = .ok (.ireturn, 1) := by decide +kernel
theorem nd_Law_hour_19 : decode nC_Law_hour 19 = .ok (.astore 5, 2) := by decide +kernel
theorem nd_Law_hour_21 : decode nC_Law_hour 21 = .ok (.iconst 2, 1) := by decide +kernel
theorem nd_Law_hour_22 : decode nC_Law_hour 22 = .ok (.ireturn, 1) := by decide +kernel
theorem nd_Law_hour_23 : decode nC_Law_hour 23 = .ok (.iconst 0, 1) := by decide +kernel
theorem nd_Law_hour_24 : decode nC_Law_hour 24 = .ok (.ireturn, 1) := by decide +kernel
theorem nd_Law_layer_0 : decode nC_Law_layer 0 = .ok (.aload_n 2, 1) := by decide +kernel
theorem nd_Law_layer_1 : decode nC_Law_layer 1 = .ok (.iconst 0, 1) := by decide +kernel
theorem nd_Law_layer_2 : decode nC_Law_layer 2 = .ok (.aload_n 0, 1) := by decide +kernel
theorem nd_Law_layer_3 : decode nC_Law_layer 3 = .ok (.iload_n 1, 1) := by decide +kernel
theorem nd_Law_layer_4 : decode nC_Law_layer 4 = .ok (.invokevirtual 38, 3) := by decide +kernel
theorem nd_Law_layer_7 : decode nC_Law_layer 7 = .ok (.i2l, 1) := by decide +kernel
theorem nd_Law_layer_8 : decode nC_Law_layer 8 = .ok (.lastore, 1) := by decide +kernel
theorem nd_Law_layer_9 : decode nC_Law_layer 9 = .ok (.goto 6, 3) := by decide +kernel
theorem nd_Law_layer_12 : decode nC_Law_layer 12 = .ok (.astore_n 3, 1) := by decide +kernel
theorem nd_Law_layer_13 : decode nC_Law_layer 13 = .ok (.iconst 1, 1) := by decide +kernel
theorem nd_Law_layer_14 : decode nC_Law_layer 14 = .ok (.ireturn, 1) := by decide +kernel
theorem nd_Law_layer_15 : decode nC_Law_layer 15 = .ok (.iconst 0, 1) := by decide +kernel
theorem nd_Law_layer_16 : decode nC_Law_layer 16 = .ok (.ireturn, 1) := by decide +kernel
theorem nd_Law_on_0 : decode nC_Law_on 0 = .ok (.aload_n 2, 1) := by decide +kernel
theorem nd_Law_on_1 : decode nC_Law_on 1 = .ok (.iconst 0, 1) := by decide +kernel
theorem nd_Law_on_2 : decode nC_Law_on 2 = .ok (.aload_n 0, 1) := by decide +kernel
theorem nd_Law_on_3 : decode nC_Law_on 3 = .ok (.iload_n 1, 1) := by decide +kernel
theorem nd_Law_on_4 : decode nC_Law_on 4 = .ok (.invokevirtual 41, 3) := by decide +kernel
theorem nd_Law_on_7 : decode nC_Law_on 7 = .ok (.ifCond .eq 7, 3) := by decide +kernel
theorem nd_Law_on_10 : decode nC_Law_on 10 = .ok (.lconst 1, 1) := by decide +kernel
theorem nd_Law_on_11 : decode nC_Law_on 11 = .ok (.goto 4, 3) := by decide +kernel
theorem nd_Law_on_14 : decode nC_Law_on 14 = .ok (.lconst 0, 1) := by decide +kernel
theorem nd_Law_on_15 : decode nC_Law_on 15 = .ok (.lastore, 1) := by decide +kernel
theorem nd_Law_on_16 : decode nC_Law_on 16 = .ok (.goto 6, 3) := by decide +kernel
theorem nd_Law_on_19 : decode nC_Law_on 19 = .ok (.astore_n 3, 1) := by decide +kernel
theorem nd_Law_on_20 : decode nC_Law_on 20 = .ok (.iconst 1, 1) := by decide +kernel
theorem nd_Law_on_21 : decode nC_Law_on 21 = .ok (.ireturn, 1) := by decide +kernel
theorem nd_Law_on_22 : decode nC_Law_on 22 = .ok (.iconst 0, 1) := by decide +kernel
theorem nd_Law_on_23 : decode nC_Law_on 23 = .ok (.ireturn, 1) := by decide +kernel
theorem nd_Law_book_0 : decode nC_Law_book 0 = .ok (.aload_n 3, 1) := by decide +kernel
theorem nd_Law_book_1 : decode nC_Law_book 1 = .ok (.iconst 0, 1) := by decide +kernel
theorem nd_Law_book_2 : decode nC_Law_book 2 = .ok (.aload_n 0, 1) := by decide +kernel
theorem nd_Law_book_3 : decode nC_Law_book 3 = .ok (.iload_n 1, 1) := by decide +kernel
theorem nd_Law_book_4 : decode nC_Law_book 4 = .ok (.iload_n 2, 1) := by decide +kernel
theorem nd_Law_book_5 : decode nC_Law_book 5 = .ok (.invokevirtual 45, 3) := by decide +kernel
theorem nd_Law_book_8 : decode nC_Law_book 8 = .ok (.lastore, 1) := by decide +kernel
theorem nd_Law_book_9 : decode nC_Law_book 9 = .ok (.goto 7, 3) := by decide +kernel
theorem nd_Law_book_12 : decode nC_Law_book 12 = .ok (.astore 4, 2) := by decide +kernel
theorem nd_Law_book_14 : decode nC_Law_book 14 = .ok (.iconst 1, 1) := by decide +kernel
theorem nd_Law_book_15 : decode nC_Law_book 15 = .ok (.ireturn, 1) := by decide +kernel
theorem nd_Law_book_16 : decode nC_Law_book 16 = .ok (.iconst 0, 1) := by decide +kernel
theorem nd_Law_book_17 : decode nC_Law_book 17 = .ok (.ireturn, 1) := by decide +kernel
theorem nd_Law_dew_0 : decode nC_Law_dew 0 = .ok (.aload_n 2, 1) := by decide +kernel
theorem nd_Law_dew_1 : decode nC_Law_dew 1 = .ok (.iconst 0, 1) := by decide +kernel
theorem nd_Law_dew_2 : decode nC_Law_dew 2 = .ok (.aload_n 0, 1) := by decide +kernel
theorem nd_Law_dew_3 : decode nC_Law_dew 3 = .ok (.iload_n 1, 1) := by decide +kernel
theorem nd_Law_dew_4 : decode nC_Law_dew 4 = .ok (.invokevirtual 49, 3) := by decide +kernel
theorem nd_Law_dew_7 : decode nC_Law_dew 7 = .ok (.ifCond .eq 7, 3) := by decide +kernel
theorem nd_Law_dew_10 : decode nC_Law_dew 10 = .ok (.lconst 1, 1) := by decide +kernel
theorem nd_Law_dew_11 : decode nC_Law_dew 11 = .ok (.goto 4, 3) := by decide +kernel
theorem nd_Law_dew_14 : decode nC_Law_dew 14 = .ok (.lconst 0, 1) := by decide +kernel
theorem nd_Law_dew_15 : decode nC_Law_dew 15 = .ok (.lastore, 1) := by decide +kernel
theorem nd_Law_dew_16 : decode nC_Law_dew 16 = .ok (.goto 6, 3) := by decide +kernel
theorem nd_Law_dew_19 : decode nC_Law_dew 19 = .ok (.astore_n 3, 1) := by decide +kernel
theorem nd_Law_dew_20 : decode nC_Law_dew 20 = .ok (.iconst 1, 1) := by decide +kernel
theorem nd_Law_dew_21 : decode nC_Law_dew 21 = .ok (.ireturn, 1) := by decide +kernel
theorem nd_Law_dew_22 : decode nC_Law_dew 22 = .ok (.iconst 0, 1) := by decide +kernel
theorem nd_Law_dew_23 : decode nC_Law_dew 23 = .ok (.ireturn, 1) := by decide +kernel
theorem nd_Law_risk_0 : decode nC_Law_risk 0 = .ok (.aload 4, 2) := by decide +kernel
theorem nd_Law_risk_2 : decode nC_Law_risk 2 = .ok (.iconst 0, 1) := by decide +kernel
theorem nd_Law_risk_3 : decode nC_Law_risk 3 = .ok (.aload_n 0, 1) := by decide +kernel
theorem nd_Law_risk_4 : decode nC_Law_risk 4 = .ok (.iload_n 1, 1) := by decide +kernel
theorem nd_Law_risk_5 : decode nC_Law_risk 5 = .ok (.iload_n 2, 1) := by decide +kernel
theorem nd_Law_risk_6 : decode nC_Law_risk 6 = .ok (.iload_n 3, 1) := by decide +kernel
theorem nd_Law_risk_7 : decode nC_Law_risk 7 = .ok (.invokevirtual 52, 3) := by decide +kernel
theorem nd_Law_risk_10 : decode nC_Law_risk 10 = .ok (.i2l, 1) := by decide +kernel
theorem nd_Law_risk_11 : decode nC_Law_risk 11 = .ok (.lastore, 1) := by decide +kernel
theorem nd_Law_risk_12 : decode nC_Law_risk 12 = .ok (.goto 15, 3) := by decide +kernel
theorem nd_Law_risk_15 : decode nC_Law_risk 15 = .ok (.astore 5, 2) := by decide +kernel
theorem nd_Law_risk_17 : decode nC_Law_risk 17 = .ok (.iconst 1, 1) := by decide +kernel
theorem nd_Law_risk_18 : decode nC_Law_risk 18 = .ok (.ireturn, 1) := by decide +kernel
theorem nd_Law_risk_19 : decode nC_Law_risk 19 = .ok (.astore 5, 2) := by decide +kernel
theorem nd_Law_risk_21 : decode nC_Law_risk 21 = .ok (.iconst 2, 1) := by decide +kernel
theorem nd_Law_risk_22 : decode nC_Law_risk 22 = .ok (.ireturn, 1) := by decide +kernel
theorem nd_Law_risk_23 : decode nC_Law_risk 23 = .ok (.astore 5, 2) := by decide +kernel
theorem nd_Law_risk_25 : decode nC_Law_risk 25 = .ok (.iconst 3, 1) := by decide +kernel
theorem nd_Law_risk_26 : decode nC_Law_risk 26 = .ok (.ireturn, 1) := by decide +kernel
theorem nd_Law_risk_27 : decode nC_Law_risk 27 = .ok (.iconst 0, 1) := by decide +kernel
theorem nd_Law_risk_28 : decode nC_Law_risk 28 = .ok (.ireturn, 1) := by decide +kernel
theorem nd_Law_points_0 : decode nC_Law_points 0 = .ok (.aload_n 2, 1) := by decide +kernel
theorem nd_Law_points_1 : decode nC_Law_points 1 = .ok (.iconst 0, 1) := by decide +kernel
theorem nd_Law_points_2 : decode nC_Law_points 2 = .ok (.aload_n 0, 1) := by decide +kernel
theorem nd_Law_points_3 : decode nC_Law_points 3 = .ok (.iload_n 1, 1) := by decide +kernel
theorem nd_Law_points_4 : decode nC_Law_points 4 = .ok (.invokevirtual 55, 3) := by decide +kernel
theorem nd_Law_points_7 : decode nC_Law_points 7 = .ok (.i2l, 1) := by decide +kernel
theorem nd_Law_points_8 : decode nC_Law_points 8 = .ok (.lastore, 1) := by decide +kernel
theorem nd_Law_points_9 : decode nC_Law_points 9 = .ok (.goto 6, 3) := by decide +kernel
theorem nd_Law_points_12 : decode nC_Law_points 12 = .ok (.astore_n 3, 1) := by decide +kernel
theorem nd_Law_points_13 : decode nC_Law_points 13 = .ok (.iconst 1, 1) := by decide +kernel
theorem nd_Law_points_14 : decode nC_Law_points 14 = .ok (.ireturn, 1) := by decide +kernel
theorem nd_Law_points_15 : decode nC_Law_points 15 = .ok (.iconst 0, 1) := by decide +kernel
theorem nd_Law_points_16 : decode nC_Law_points 16 = .ok (.ireturn, 1) := by decide +kernel
theorem nd_Law_rule_0 : decode nC_Law_rule 0 = .ok (.aload 4, 2) := by decide +kernel
theorem nd_Law_rule_2 : decode nC_Law_rule 2 = .ok (.iconst 0, 1) := by decide +kernel
theorem nd_Law_rule_3 : decode nC_Law_rule 3 = .ok (.aload_n 0, 1) := by decide +kernel
theorem nd_Law_rule_4 : decode nC_Law_rule 4 = .ok (.iload_n 1, 1) := by decide +kernel
theorem nd_Law_rule_5 : decode nC_Law_rule 5 = .ok (.iload_n 2, 1) := by decide +kernel
theorem nd_Law_rule_6 : decode nC_Law_rule 6 = .ok (.iload_n 3, 1) := by decide +kernel
theorem nd_Law_rule_7 : decode nC_Law_rule 7 = .ok (.invokevirtual 58, 3) := by decide +kernel
theorem nd_Law_rule_10 : decode nC_Law_rule 10 = .ok (.i2l, 1) := by decide +kernel
theorem nd_Law_rule_11 : decode nC_Law_rule 11 = .ok (.lastore, 1) := by decide +kernel
theorem nd_Law_rule_12 : decode nC_Law_rule 12 = .ok (.goto 11, 3) := by decide +kernel
theorem nd_Law_rule_15 : decode nC_Law_rule 15 = .ok (.astore 5, 2) := by decide +kernel
theorem nd_Law_rule_17 : decode nC_Law_rule 17 = .ok (.iconst 1, 1) := by decide +kernel
theorem nd_Law_rule_18 : decode nC_Law_rule 18 = .ok (.ireturn, 1) := by decide +kernel
theorem nd_Law_rule_19 : decode nC_Law_rule 19 = .ok (.astore 5, 2) := by decide +kernel
theorem nd_Law_rule_21 : decode nC_Law_rule 21 = .ok (.iconst 2, 1) := by decide +kernel
theorem nd_Law_rule_22 : decode nC_Law_rule 22 = .ok (.ireturn, 1) := by decide +kernel
theorem nd_Law_rule_23 : decode nC_Law_rule 23 = .ok (.iconst 0, 1) := by decide +kernel
theorem nd_Law_rule_24 : decode nC_Law_rule 24 = .ok (.ireturn, 1) := by decide +kernel
theorem nd_Law_alarm_0 : decode nC_Law_alarm 0 = .ok (.aload_n 3, 1) := by decide +kernel
theorem nd_Law_alarm_1 : decode nC_Law_alarm 1 = .ok (.iconst 0, 1) := by decide +kernel
theorem nd_Law_alarm_2 : decode nC_Law_alarm 2 = .ok (.aload_n 0, 1) := by decide +kernel
theorem nd_Law_alarm_3 : decode nC_Law_alarm 3 = .ok (.iload_n 1, 1) := by decide +kernel
theorem nd_Law_alarm_4 : decode nC_Law_alarm 4 = .ok (.iload_n 2, 1) := by decide +kernel
theorem nd_Law_alarm_5 : decode nC_Law_alarm 5 = .ok (.invokevirtual 61, 3) := by decide +kernel
theorem nd_Law_alarm_8 : decode nC_Law_alarm 8 = .ok (.i2l, 1) := by decide +kernel
theorem nd_Law_alarm_9 : decode nC_Law_alarm 9 = .ok (.lastore, 1) := by decide +kernel
theorem nd_Law_alarm_10 : decode nC_Law_alarm 10 = .ok (.goto 7, 3) := by decide +kernel
theorem nd_Law_alarm_13 : decode nC_Law_alarm 13 = .ok (.astore 4, 2) := by decide +kernel
theorem nd_Law_alarm_15 : decode nC_Law_alarm 15 = .ok (.iconst 1, 1) := by decide +kernel
theorem nd_Law_alarm_16 : decode nC_Law_alarm 16 = .ok (.ireturn, 1) := by decide +kernel
theorem nd_Law_alarm_17 : decode nC_Law_alarm 17 = .ok (.iconst 0, 1) := by decide +kernel
theorem nd_Law_alarm_18 : decode nC_Law_alarm 18 = .ok (.ireturn, 1) := by decide +kernel
theorem nd_Law_sensor_0 : decode nC_Law_sensor 0 = .ok (.aload_n 0, 1) := by decide +kernel
theorem nd_Law_sensor_1 : decode nC_Law_sensor 1 = .ok (.iload_n 1, 1) := by decide +kernel
theorem nd_Law_sensor_2 : decode nC_Law_sensor 2 = .ok (.iload_n 2, 1) := by decide +kernel
theorem nd_Law_sensor_3 : decode nC_Law_sensor 3 = .ok (.invokevirtual 64, 3) := by decide +kernel
theorem nd_Law_sensor_6 : decode nC_Law_sensor 6 = .ok (.goto 9, 3) := by decide +kernel
theorem nd_Law_sensor_9 : decode nC_Law_sensor 9 = .ok (.astore_n 3, 1) := by decide +kernel
theorem nd_Law_sensor_10 : decode nC_Law_sensor 10 = .ok (.iconst 1, 1) := by decide +kernel
theorem nd_Law_sensor_11 : decode nC_Law_sensor 11 = .ok (.ireturn, 1) := by decide +kernel
theorem nd_Law_sensor_12 : decode nC_Law_sensor 12 = .ok (.astore_n 3, 1) := by decide +kernel
theorem nd_Law_sensor_13 : decode nC_Law_sensor 13 = .ok (.iconst 2, 1) := by decide +kernel
theorem nd_Law_sensor_14 : decode nC_Law_sensor 14 = .ok (.ireturn, 1) := by decide +kernel
theorem nd_Law_sensor_15 : decode nC_Law_sensor 15 = .ok (.iconst 0, 1) := by decide +kernel
theorem nd_Law_sensor_16 : decode nC_Law_sensor 16 = .ok (.ireturn, 1) := by decide +kernel
theorem nd_Law_check_0 : decode nC_Law_check 0 = .ok (.aload_n 0, 1) := by decide +kernel
theorem nd_Law_check_1 : decode nC_Law_check 1 = .ok (.iload_n 1, 1) := by decide +kernel
theorem nd_Law_check_2 : decode nC_Law_check 2 = .ok (.iload_n 2, 1) := by decide +kernel
theorem nd_Law_check_3 : decode nC_Law_check 3 = .ok (.invokevirtual 67, 3) := by decide +kernel
theorem nd_Law_check_6 : decode nC_Law_check 6 = .ok (.goto 12, 3) := by decide +kernel
theorem nd_Law_check_9 : decode nC_Law_check 9 = .ok (.astore_n 3, 1) := by decide +kernel
theorem nd_Law_check_10 : decode nC_Law_check 10 = .ok (.iconst 1, 1) := by decide +kernel
theorem nd_Law_check_11 : decode nC_Law_check 11 = .ok (.ireturn, 1) := by decide +kernel
theorem nd_Law_check_12 : decode nC_Law_check 12 = .ok (.astore_n 3, 1) := by decide +kernel
theorem nd_Law_check_13 : decode nC_Law_check 13 = .ok (.iconst 2, 1) := by decide +kernel
theorem nd_Law_check_14 : decode nC_Law_check 14 = .ok (.ireturn, 1) := by decide +kernel
theorem nd_Law_check_15 : decode nC_Law_check 15 = .ok (.astore_n 3, 1) := by decide +kernel
theorem nd_Law_check_16 : decode nC_Law_check 16 = .ok (.iconst 3, 1) := by decide +kernel
theorem nd_Law_check_17 : decode nC_Law_check 17 = .ok (.ireturn, 1) := by decide +kernel
theorem nd_Law_check_18 : decode nC_Law_check 18 = .ok (.iconst 0, 1) := by decide +kernel
theorem nd_Law_check_19 : decode nC_Law_check 19 = .ok (.ireturn, 1) := by decide +kernel
theorem nd_Law_corrected_0 : decode nC_Law_corrected 0 = .ok (.aload_n 2, 1) := by decide +kernel
theorem nd_Law_corrected_1 : decode nC_Law_corrected 1 = .ok (.iconst 0, 1) := by decide +kernel
theorem nd_Law_corrected_2 : decode nC_Law_corrected 2 = .ok (.aload_n 0, 1) := by decide +kernel
theorem nd_Law_corrected_3 : decode nC_Law_corrected 3 = .ok (.iload_n 1, 1) := by decide +kernel
theorem nd_Law_corrected_4 : decode nC_Law_corrected 4 = .ok (.invokevirtual 70, 3) := by decide +kernel
theorem nd_Law_corrected_7 : decode nC_Law_corrected 7 = .ok (.i2l, 1) := by decide +kernel
theorem nd_Law_corrected_8 : decode nC_Law_corrected 8 = .ok (.lastore, 1) := by decide +kernel
theorem nd_Law_corrected_9 : decode nC_Law_corrected 9 = .ok (.goto 6, 3) := by decide +kernel
theorem nd_Law_corrected_12 : decode nC_Law_corrected 12 = .ok (.astore_n 3, 1) := by decide +kernel
theorem nd_Law_corrected_13 : decode nC_Law_corrected 13 = .ok (.iconst 1, 1) := by decide +kernel
theorem nd_Law_corrected_14 : decode nC_Law_corrected 14 = .ok (.ireturn, 1) := by decide +kernel
theorem nd_Law_corrected_15 : decode nC_Law_corrected 15 = .ok (.iconst 0, 1) := by decide +kernel
theorem nd_Law_corrected_16 : decode nC_Law_corrected 16 = .ok (.ireturn, 1) := by decide +kernel
theorem nd_Law_silent_0 : decode nC_Law_silent 0 = .ok (.aload_n 2, 1) := by decide +kernel
theorem nd_Law_silent_1 : decode nC_Law_silent 1 = .ok (.iconst 0, 1) := by decide +kernel
theorem nd_Law_silent_2 : decode nC_Law_silent 2 = .ok (.aload_n 0, 1) := by decide +kernel
theorem nd_Law_silent_3 : decode nC_Law_silent 3 = .ok (.iload_n 1, 1) := by decide +kernel
theorem nd_Law_silent_4 : decode nC_Law_silent 4 = .ok (.invokevirtual 73, 3) := by decide +kernel
theorem nd_Law_silent_7 : decode nC_Law_silent 7 = .ok (.i2l, 1) := by decide +kernel
theorem nd_Law_silent_8 : decode nC_Law_silent 8 = .ok (.lastore, 1) := by decide +kernel
theorem nd_Law_silent_9 : decode nC_Law_silent 9 = .ok (.goto 6, 3) := by decide +kernel
theorem nd_Law_silent_12 : decode nC_Law_silent 12 = .ok (.astore_n 3, 1) := by decide +kernel
theorem nd_Law_silent_13 : decode nC_Law_silent 13 = .ok (.iconst 1, 1) := by decide +kernel
theorem nd_Law_silent_14 : decode nC_Law_silent 14 = .ok (.ireturn, 1) := by decide +kernel
theorem nd_Law_silent_15 : decode nC_Law_silent 15 = .ok (.iconst 0, 1) := by decide +kernel
theorem nd_Law_silent_16 : decode nC_Law_silent 16 = .ok (.ireturn, 1) := by decide +kernel
theorem nd_Law_plan_0 : decode nC_Law_plan 0 = .ok (.aload 4, 2) := by decide +kernel
theorem nd_Law_plan_2 : decode nC_Law_plan 2 = .ok (.iconst 0, 1) := by decide +kernel
theorem nd_Law_plan_3 : decode nC_Law_plan 3 = .ok (.aload_n 0, 1) := by decide +kernel
theorem nd_Law_plan_4 : decode nC_Law_plan 4 = .ok (.iload_n 1, 1) := by decide +kernel
theorem nd_Law_plan_5 : decode nC_Law_plan 5 = .ok (.iload_n 2, 1) := by decide +kernel
theorem nd_Law_plan_6 : decode nC_Law_plan 6 = .ok (.iload_n 3, 1) := by decide +kernel
theorem nd_Law_plan_7 : decode nC_Law_plan 7 = .ok (.invokevirtual 76, 3) := by decide +kernel
theorem nd_Law_plan_10 : decode nC_Law_plan 10 = .ok (.i2l, 1) := by decide +kernel
theorem nd_Law_plan_11 : decode nC_Law_plan 11 = .ok (.lastore, 1) := by decide +kernel
theorem nd_Law_plan_12 : decode nC_Law_plan 12 = .ok (.goto 7, 3) := by decide +kernel
theorem nd_Law_plan_15 : decode nC_Law_plan 15 = .ok (.astore 5, 2) := by decide +kernel
theorem nd_Law_plan_17 : decode nC_Law_plan 17 = .ok (.iconst 1, 1) := by decide +kernel
theorem nd_Law_plan_18 : decode nC_Law_plan 18 = .ok (.ireturn, 1) := by decide +kernel
theorem nd_Law_plan_19 : decode nC_Law_plan 19 = .ok (.iconst 0, 1) := by decide +kernel
theorem nd_Law_plan_20 : decode nC_Law_plan 20 = .ok (.ireturn, 1) := by decide +kernel
theorem nd_Law_count_0 : decode nC_Law_count 0 = .ok (.aload_n 2, 1) := by decide +kernel
theorem nd_Law_count_1 : decode nC_Law_count 1 = .ok (.iconst 0, 1) := by decide +kernel
theorem nd_Law_count_2 : decode nC_Law_count 2 = .ok (.aload_n 0, 1) := by decide +kernel
theorem nd_Law_count_3 : decode nC_Law_count 3 = .ok (.iload_n 1, 1) := by decide +kernel
theorem nd_Law_count_4 : decode nC_Law_count 4 = .ok (.invokevirtual 79, 3) := by decide +kernel
theorem nd_Law_count_7 : decode nC_Law_count 7 = .ok (.i2l, 1) := by decide +kernel
theorem nd_Law_count_8 : decode nC_Law_count 8 = .ok (.lastore, 1) := by decide +kernel
theorem nd_Law_count_9 : decode nC_Law_count 9 = .ok (.goto 6, 3) := by decide +kernel
theorem nd_Law_count_12 : decode nC_Law_count 12 = .ok (.astore_n 3, 1) := by decide +kernel
theorem nd_Law_count_13 : decode nC_Law_count 13 = .ok (.iconst 1, 1) := by decide +kernel
theorem nd_Law_count_14 : decode nC_Law_count 14 = .ok (.ireturn, 1) := by decide +kernel
theorem nd_Law_count_15 : decode nC_Law_count 15 = .ok (.iconst 0, 1) := by decide +kernel
theorem nd_Law_count_16 : decode nC_Law_count 16 = .ok (.ireturn, 1) := by decide +kernel
