def k_mrg (w1 : va_W) : va_W → List (Option Nat) → va_W
  | c :: ws, some j :: ms => (w1[j]?.getD c) :: k_mrg w1 ws ms
  | c :: ws, none :: ms => c :: k_mrg w1 ws ms
  | _, _ => []
def k_mok (isC : List Nat) (ms : List (Option Nat)) : Bool := (List.range ms.length).all (fun k => match ms[k]? with
  | some (some j) => isC[j]? == some k
  | _ => !(isC.contains k))
theorem k_mrg_at (w1 : va_W) : ∀ (ws : va_W) (ms : List (Option Nat)) (k : Nat) (q : Nat × va_E), (k_mrg w1 ws ms)[k]? = some q → (∃ j : Nat, ms[k]? = some (some j) ∧ (w1[j]? = some q ∨ w1[j]? = none)) ∨ (ms[k]? = some none ∧ ws[k]? = some q)
  | [], _, k, q, hq => by
    rw [show k_mrg w1 [] _ = [] by cases ‹List (Option Nat)› <;> rfl] at hq
    cases hq
  | c :: ws, [], k, q, hq => by
    rw [show k_mrg w1 (c :: ws) [] = [] from rfl] at hq
    cases hq
  | c :: ws, some j :: ms, 0, q, hq => by
    have hq : some (w1[j]?.getD c) = some q := hq
    refine Or.inl ⟨j, rfl, ?_⟩
    cases hw : w1[j]? with
    | none => exact Or.inr rfl
    | some q9 =>
      rw [hw] at hq
      exact Or.inl hq
  | c :: ws, none :: ms, 0, q, hq => Or.inr ⟨rfl, hq⟩
  | c :: ws, some j :: ms, k + 1, q, hq => k_mrg_at w1 ws ms k q hq
  | c :: ws, none :: ms, k + 1, q, hq => k_mrg_at w1 ws ms k q hq
theorem k_mrgJ {A0 : Nat → Prop} {D : va_G} {cl : List vw_C} {ws wc w1 : va_W} {H H1 : Heap} (hP : va_P D cl ws H) (hD : va_D A0 ws) (isC : List Nat) (ms : List (Option Nat)) (hm : k_mok isC ms = true) (hC : isC.map (fun i => ws[i]?) = wc.map some) (ha : w1.map Prod.fst = wc.map Prod.fst) (hk : ∀ q : Nat, q < H.size → ¬ va_A wc H.size q → H1[q]? = H[q]?) (hF : ∀ q, va_A wc H.size q → A0 q) (hP1 : va_P D cl w1 H1) (hD1 : va_D (va_A wc H.size) w1) : va_P D cl (k_mrg w1 ws ms) H1 ∧ va_D A0 (k_mrg w1 ws ms) := by
  have hl1 : w1.length = wc.length := by
    have h9 := congrArg List.length ha
    rwa [List.length_map, List.length_map] at h9
  have hl2 : isC.length = wc.length := by
    have h9 := congrArg List.length hC
    rwa [List.length_map, List.length_map] at h9
  have hat : ∀ (k : Nat) (q : Nat × va_E), (k_mrg w1 ws ms)[k]? = some q → (∃ j : Nat, isC[j]? = some k ∧ w1[j]? = some q) ∨ (k ∉ isC ∧ ws[k]? = some q) := by
    intro k q hq
    have hlt : ∀ o9, ms[k]? = some o9 → k < ms.length := fun o9 h9 => (List.getElem?_eq_some_iff.1 h9).1
    have hall := List.all_eq_true.1 hm
    rcases k_mrg_at w1 ws ms k q hq with ⟨j, h1, h2⟩ | ⟨h1, h2⟩
    · have h3 := hall k (List.mem_range.2 (hlt _ h1))
      rw [h1] at h3
      have h4 : isC[j]? = some k := eq_of_beq h3
      have h5 : j < isC.length := (List.getElem?_eq_some_iff.1 h4).1
      rcases h2 with h2 | h2
      · exact Or.inl ⟨j, h4, h2⟩
      · rw [List.getElem?_eq_none_iff] at h2
        omega
    · have h3 := hall k (List.mem_range.2 (hlt _ h1))
      rw [h1] at h3
      refine Or.inr ⟨fun hm9 => ?_, h2⟩
      have h4 : isC.contains k = true := List.contains_iff_mem.2 hm9
      have h3 : (!(isC.contains k)) = true := h3
      rw [h4] at h3
      cases h3
  have had : ∀ (k : Nat) (q : Nat × va_E), (k_mrg w1 ws ms)[k]? = some q → ∃ q' : Nat × va_E, ws[k]? = some q' ∧ q'.1 = q.1 := by
    intro k q hq
    rcases hat k q hq with ⟨j, h1, h2⟩ | ⟨h1, h2⟩
    · have g1 : (isC.map (fun i => ws[i]?))[j]? = (wc.map some)[j]? := by rw [hC]
      have g2 : (w1.map Prod.fst)[j]? = (wc.map Prod.fst)[j]? := by rw [ha]
      rw [List.getElem?_map, List.getElem?_map, h1] at g1
      rw [List.getElem?_map, List.getElem?_map, h2] at g2
      cases hw : wc[j]? with
      | none =>
        rw [hw] at g2
        cases g2
      | some q' =>
        rw [hw] at g1 g2
        exact ⟨q', Option.some.inj g1, (Option.some.inj g2).symm⟩
    · exact ⟨q, h2, rfl⟩
  refine ⟨?_, ?_, ?_⟩
  · intro k q hq
    rcases hat k q hq with ⟨j, h1, h2⟩ | ⟨h1, h2⟩
    · exact hP1 j q h2
    · have hj := va_join (wr := [q]) (w1 := w1) hP hD isC [k] hC (by rw [List.map_cons, List.map_nil, h2]; rfl) rfl (by
        intro i hi
        rw [List.mem_singleton.1 hi]
        exact h1) hk hF hP1 hD1
      exact hj.1 0 q rfl
  · intro i j p q hi hj hpq
    obtain ⟨p', a1, a2⟩ := had i p hi
    obtain ⟨q', b1, b2⟩ := had j q hj
    exact hD.1 i j p' q' a1 b1 (by rw [a2, b2, hpq])
  · intro k q hq
    obtain ⟨q', a1, a2⟩ := had k q hq
    rw [← a2]
    exact hD.2 k q' a1
theorem k_mVI {p : Program} {l : Launch} {e : Env} {R : Room} {s : State} {m : MethodId} {ar : Array Value} {below : List Frame} {meth : Method} {c : Code} {H : Heap} {locs : List Loc} {cells slots : Nat} {Q : State → Prop} {y : MethodName} {bytes cc : ByteArray} {maxL nL n index : Nat} {ret : Option FieldType} {rm : Room} {own : String} {As rest st0 : List Value} {pc : Nat} {ls : Array Slot} {D : va_G} {ca : Nat → ClassId} {wc ws : va_W} {b ci : Nat} {fs : List Value} {q : vw_C} {r : Int32} {w1 w2 : va_W} {A : Nat → Prop} {H0 : Heap} (hx : p.tables.exec = Jvm.exec) (hb : c.code = cc) (hml : c.maxLocals = nL) (hown : s.vm.findClass own = some m.cls) (hts : ∀ w ∈ TT, w.before ar s = true)
    (hM : Met l y (Cond.code y bytes maxL ret :: TT) rm (wr_P (.ref b :: As) D ca wc H.size) (va_Qi (fun x (_ : Unit) => x = r) (wr_B D wc H.size w1) (va_A wc H.size)) 0 0 (va_A wc H.size)) (kc : k_cal y bytes maxL ret n) (kv : k_vir y) (hk : Cond.methodLink own index y ∈ TT) (hR : rm.frames + 1 ≤ R.frames ∧ 8 + (maxL + 11) + rm.locals ≤ R.locals) (hrc : rm.cells = 0) (hrs : rm.slots = 0)
    (hP : va_P D vwCl ws H) (hK : va_K D vwCl (tyG ca) s) (hD : va_D A ws) (hS : va_S A H0 H locs) (hA : ∀ q : Nat, H0.size ≤ q → A q)
    (isC : List Nat) (hC : isC.map (fun i => ws[i]?) = wc.map some) (hCn : va_nd isC = true) (ha : w1.map Prod.fst = wc.map Prod.fst) (mk9 : List (Option Nat)) (hm9 : k_mok isC mk9 = true) (hF : k_mrg w1 ws mk9 = w2)
    (q0 : Nat) (hq : wc[q0]? = some (b, .inr (ci, fs))) (hc : vwCl[ci]? = some q) (hqc : q.1 = y.cls) (hn : As.length = n) (hsz : ls.size = nL) (hw : (rest.map fun v => v.category).sum ≤ 8) (hst : st0 = As.reverse ++ .ref b :: rest) (hdg : decode cc pc = .ok (.invokevirtual index, 3)) (hf : cells ≤ R.cells ∧ slots ≤ R.slots)
    (kk : ∀ (H1 : Heap) (locs1 : List Loc), va_P D vwCl w2 H1 → va_D A w2 → va_S A H0 H1 locs1 → W p l e R s m ar below meth c H1 locs1 cells slots Q (F0 m (pc + 3) ls (.int r :: rest))) : W p l e R s m ar below meth c H locs cells slots Q (F0 m pc ls st0) := by
  have hPc : va_P D vwCl wc H := hP.sub isC (k_fm hC)
  have hDc : va_D A wc := hD.sub isC hCn hC
  have hFc := va_free (wc := wc) hD hS hA isC hC
  refine va_calli (va_runV (As := As) (rest := rest) ⟨hx, hb, hml, hown, hts⟩ hM ⟨k_cB hts kc hk hrc hrs hR, hts _ kv.1, hts _ kv.2⟩ ⟨wr_blind, (by obtain ⟨cellB, a1, a2, a3⟩ := va_recv hK hPc hc hq; exact ⟨cellB, a1, a2, by rw [← hqc]; exact a3⟩), fun U hU hW => ⟨rfl, by rw [hU], by rw [hU]; exact hPc, va_K.moved hW.alike hK, hDc.weaken (fun _ _ _ _ => trivial)⟩⟩ rfl hn hsz hst (lv_room hw) hdg hf) hS (fun q _ h => hFc q h) hFc (fun x u t H1 locs ht hvm hw9 hB hz1 hk1 hS => ?_)
  subst hw9
  obtain ⟨hP1, hD1⟩ := hB
  rw [ht] at hP1
  obtain ⟨hP, hD⟩ := k_mrgJ hP hD isC mk9 hm9 hC ha hk1 hFc hP1 hD1
  exact kk H1 locs (hF ▸ hP) (hF ▸ hD) hS
theorem k_mVJ {p : Program} {l : Launch} {e : Env} {R : Room} {s : State} {m : MethodId} {ar : Array Value} {below : List Frame} {meth : Method} {c : Code} {H : Heap} {locs : List Loc} {cells slots : Nat} {Q : State → Prop} {y : MethodName} {bytes cc : ByteArray} {maxL nL n index : Nat} {ret : Option FieldType} {rm : Room} {own : String} {As rest st0 : List Value} {pc : Nat} {ls : Array Slot} {D : va_G} {ca : Nat → ClassId} {wc ws : va_W} {b ci : Nat} {fs : List Value} {q : vw_C} {r : Int64} {w1 w2 : va_W} {A : Nat → Prop} {H0 : Heap} (hx : p.tables.exec = Jvm.exec) (hb : c.code = cc) (hml : c.maxLocals = nL) (hown : s.vm.findClass own = some m.cls) (hts : ∀ w ∈ TT, w.before ar s = true)
    (hM : Met l y (Cond.code y bytes maxL ret :: TT) rm (wr_P (.ref b :: As) D ca wc H.size) (va_Ql (fun x (_ : Unit) => x = r) (wr_B D wc H.size w1) (va_A wc H.size)) 0 0 (va_A wc H.size)) (kc : k_cal y bytes maxL ret n) (kv : k_vir y) (hk : Cond.methodLink own index y ∈ TT) (hR : rm.frames + 1 ≤ R.frames ∧ 8 + (maxL + 11) + rm.locals ≤ R.locals) (hrc : rm.cells = 0) (hrs : rm.slots = 0)
    (hP : va_P D vwCl ws H) (hK : va_K D vwCl (tyG ca) s) (hD : va_D A ws) (hS : va_S A H0 H locs) (hA : ∀ q : Nat, H0.size ≤ q → A q)
    (isC : List Nat) (hC : isC.map (fun i => ws[i]?) = wc.map some) (hCn : va_nd isC = true) (ha : w1.map Prod.fst = wc.map Prod.fst) (mk9 : List (Option Nat)) (hm9 : k_mok isC mk9 = true) (hF : k_mrg w1 ws mk9 = w2)
    (q0 : Nat) (hq : wc[q0]? = some (b, .inr (ci, fs))) (hc : vwCl[ci]? = some q) (hqc : q.1 = y.cls) (hn : As.length = n) (hsz : ls.size = nL) (hw : (rest.map fun v => v.category).sum ≤ 8) (hst : st0 = As.reverse ++ .ref b :: rest) (hdg : decode cc pc = .ok (.invokevirtual index, 3)) (hf : cells ≤ R.cells ∧ slots ≤ R.slots)
    (kk : ∀ (H1 : Heap) (locs1 : List Loc), va_P D vwCl w2 H1 → va_D A w2 → va_S A H0 H1 locs1 → W p l e R s m ar below meth c H1 locs1 cells slots Q (F0 m (pc + 3) ls (.long r :: rest))) : W p l e R s m ar below meth c H locs cells slots Q (F0 m pc ls st0) := by
  have hPc : va_P D vwCl wc H := hP.sub isC (k_fm hC)
  have hDc : va_D A wc := hD.sub isC hCn hC
  have hFc := va_free (wc := wc) hD hS hA isC hC
  refine va_calll (va_runV (As := As) (rest := rest) ⟨hx, hb, hml, hown, hts⟩ hM ⟨k_cB hts kc hk hrc hrs hR, hts _ kv.1, hts _ kv.2⟩ ⟨wr_blind, (by obtain ⟨cellB, a1, a2, a3⟩ := va_recv hK hPc hc hq; exact ⟨cellB, a1, a2, by rw [← hqc]; exact a3⟩), fun U hU hW => ⟨rfl, by rw [hU], by rw [hU]; exact hPc, va_K.moved hW.alike hK, hDc.weaken (fun _ _ _ _ => trivial)⟩⟩ rfl hn hsz hst (lv_room hw) hdg hf) hS (fun q _ h => hFc q h) hFc (fun x u t H1 locs ht hvm hw9 hB hz1 hk1 hS => ?_)
  subst hw9
  obtain ⟨hP1, hD1⟩ := hB
  rw [ht] at hP1
  obtain ⟨hP, hD⟩ := k_mrgJ hP hD isC mk9 hm9 hC ha hk1 hFc hP1 hD1
  exact kk H1 locs (hF ▸ hP) (hF ▸ hD) hS
theorem k_mVV {p : Program} {l : Launch} {e : Env} {R : Room} {s : State} {m : MethodId} {ar : Array Value} {below : List Frame} {meth : Method} {c : Code} {H : Heap} {locs : List Loc} {cells slots : Nat} {Q : State → Prop} {y : MethodName} {bytes cc : ByteArray} {maxL nL n index : Nat} {ret : Option FieldType} {rm : Room} {own : String} {As rest st0 : List Value} {pc : Nat} {ls : Array Slot} {D : va_G} {ca : Nat → ClassId} {wc ws : va_W} {b ci : Nat} {fs : List Value} {q : vw_C} {w1 w2 : va_W} {A : Nat → Prop} {H0 : Heap} (hx : p.tables.exec = Jvm.exec) (hb : c.code = cc) (hml : c.maxLocals = nL) (hown : s.vm.findClass own = some m.cls) (hts : ∀ w ∈ TT, w.before ar s = true)
    (hM : Met l y (Cond.code y bytes maxL ret :: TT) rm (wr_P (.ref b :: As) D ca wc H.size) (va_Qv (fun (_ : Unit) => True) (wr_B D wc H.size w1) (va_A wc H.size)) 0 0 (va_A wc H.size)) (kc : k_cal y bytes maxL ret n) (kv : k_vir y) (hk : Cond.methodLink own index y ∈ TT) (hR : rm.frames + 1 ≤ R.frames ∧ 8 + (maxL + 11) + rm.locals ≤ R.locals) (hrc : rm.cells = 0) (hrs : rm.slots = 0)
    (hP : va_P D vwCl ws H) (hK : va_K D vwCl (tyG ca) s) (hD : va_D A ws) (hS : va_S A H0 H locs) (hA : ∀ q : Nat, H0.size ≤ q → A q)
    (isC : List Nat) (hC : isC.map (fun i => ws[i]?) = wc.map some) (hCn : va_nd isC = true) (ha : w1.map Prod.fst = wc.map Prod.fst) (mk9 : List (Option Nat)) (hm9 : k_mok isC mk9 = true) (hF : k_mrg w1 ws mk9 = w2)
    (q0 : Nat) (hq : wc[q0]? = some (b, .inr (ci, fs))) (hc : vwCl[ci]? = some q) (hqc : q.1 = y.cls) (hn : As.length = n) (hsz : ls.size = nL) (hw : (rest.map fun v => v.category).sum ≤ 8) (hst : st0 = As.reverse ++ .ref b :: rest) (hdg : decode cc pc = .ok (.invokevirtual index, 3)) (hf : cells ≤ R.cells ∧ slots ≤ R.slots)
    (kk : ∀ (H1 : Heap) (locs1 : List Loc), va_P D vwCl w2 H1 → va_D A w2 → va_S A H0 H1 locs1 → W p l e R s m ar below meth c H1 locs1 cells slots Q (F0 m (pc + 3) ls rest)) : W p l e R s m ar below meth c H locs cells slots Q (F0 m pc ls st0) := by
  have hPc : va_P D vwCl wc H := hP.sub isC (k_fm hC)
  have hDc : va_D A wc := hD.sub isC hCn hC
  have hFc := va_free (wc := wc) hD hS hA isC hC
  refine va_callv (va_runV (As := As) (rest := rest) ⟨hx, hb, hml, hown, hts⟩ hM ⟨k_cB hts kc hk hrc hrs hR, hts _ kv.1, hts _ kv.2⟩ ⟨wr_blind, (by obtain ⟨cellB, a1, a2, a3⟩ := va_recv hK hPc hc hq; exact ⟨cellB, a1, a2, by rw [← hqc]; exact a3⟩), fun U hU hW => ⟨rfl, by rw [hU], by rw [hU]; exact hPc, va_K.moved hW.alike hK, hDc.weaken (fun _ _ _ _ => trivial)⟩⟩ rfl hn hsz hst (lv_room hw) hdg hf) hS (fun q _ h => hFc q h) hFc (fun u t H1 locs ht hvm hw9 hB hz1 hk1 hS => ?_)
  obtain ⟨hP1, hD1⟩ := hB
  rw [ht] at hP1
  obtain ⟨hP, hD⟩ := k_mrgJ hP hD isC mk9 hm9 hC ha hk1 hFc hP1 hD1
  exact kk H1 locs (hF ▸ hP) (hF ▸ hD) hS
theorem k_mSWI {p : Program} {l : Launch} {e : Env} {R : Room} {s : State} {m : MethodId} {ar : Array Value} {below : List Frame} {meth : Method} {c : Code} {H : Heap} {locs : List Loc} {cells slots : Nat} {Q : State → Prop} {y : MethodName} {bytes cc : ByteArray} {maxL nL n index : Nat} {ret : Option FieldType} {hh : List (Nat × Nat × Nat × Nat)} {rm : Room} {mc ms : Nat} {own : String} {As rest st0 : List Value} {pc : Nat} {ls : Array Slot} {D : va_G} {ca : Nat → ClassId} {wc ws : va_W} {r : Int32} {w1 w2 : va_W} {A : Nat → Prop} {H0 : Heap} (hx : p.tables.exec = Jvm.exec) (hb : c.code = cc) (hml : c.maxLocals = nL) (hown : s.vm.findClass own = some m.cls) (hts : ∀ w ∈ TT, w.before ar s = true)
    (hM : Met l y (Cond.codeWith y bytes maxL ret hh :: TT) rm (wr_P As D ca wc H.size) (va_Qi (fun x (_ : Unit) => x = r) (wr_B D wc H.size w1) (va_A wc H.size)) mc ms (va_A wc H.size)) (kc : k_calW y bytes maxL ret hh n) (kv : Cond.static y ∈ TT) (hk : Cond.methodLink own index y ∈ TT) (hR : rm.frames + 1 ≤ R.frames ∧ 8 + (maxL + 11) + rm.locals ≤ R.locals) (hrc : rm.cells = mc) (hrs : rm.slots = ms)
    (hP : va_P D vwCl ws H) (hK : va_K D vwCl (tyG ca) s) (hD : va_D A ws) (hS : va_S A H0 H locs) (hA : ∀ q : Nat, H0.size ≤ q → A q)
    (isC : List Nat) (hC : isC.map (fun i => ws[i]?) = wc.map some) (hCn : va_nd isC = true) (ha : w1.map Prod.fst = wc.map Prod.fst) (mk9 : List (Option Nat)) (hm9 : k_mok isC mk9 = true) (hF : k_mrg w1 ws mk9 = w2)
    (hn : As.length = n) (hsz : ls.size = nL) (hw : (rest.map fun v => v.category).sum ≤ 8) (hst : st0 = As.reverse ++ rest) (hdg : decode cc pc = .ok (.invokestatic index, 3)) (hf : cells + mc ≤ R.cells ∧ slots + ms ≤ R.slots)
    (kk : ∀ (H1 : Heap) (locs1 : List Loc), va_P D vwCl w2 H1 → va_D A w2 → va_S A H0 H1 locs1 → W p l e R s m ar below meth c H1 locs1 (cells + mc) (slots + ms) Q (F0 m (pc + 3) ls (.int r :: rest))) : W p l e R s m ar below meth c H locs cells slots Q (F0 m pc ls st0) := by
  have hPc : va_P D vwCl wc H := hP.sub isC (k_fm hC)
  have hDc : va_D A wc := hD.sub isC hCn hC
  have hFc := va_free (wc := wc) hD hS hA isC hC
  refine va_calli (k_runSW (As := As) (rest := rest) hx hb hml hown hts hM kc kv hk hR hrc hrs ⟨wr_blind, fun U hU hW => ⟨rfl, by rw [hU], by rw [hU]; exact hPc, va_K.moved hW.alike hK, hDc.weaken (fun _ _ _ _ => trivial)⟩⟩ hn hsz hw hst hdg hf) hS (fun q _ h => hFc q h) hFc (fun x u t H1 locs ht hvm hw9 hB hz1 hk1 hS => ?_)
  subst hw9
  obtain ⟨hP1, hD1⟩ := hB
  rw [ht] at hP1
  obtain ⟨hP, hD⟩ := k_mrgJ hP hD isC mk9 hm9 hC ha hk1 hFc hP1 hD1
  exact kk H1 locs (hF ▸ hP) (hF ▸ hD) hS
theorem k_mSWX {p : Program} {l : Launch} {e : Env} {R : Room} {s : State} {m : MethodId} {ar : Array Value} {below : List Frame} {meth : Method} {c : Code} {H : Heap} {locs : List Loc} {cells slots : Nat} {Q : State → Prop} {y : MethodName} {bytes cc : ByteArray} {maxL nL n index : Nat} {ret : Option FieldType} {hh : List (Nat × Nat × Nat × Nat)} {rm : Room} {mc ms : Nat} {own : String} {As rest st0 : List Value} {pc : Nat} {ls : Array Slot} {D : va_G} {ca : Nat → ClassId} {wc ws : va_W} {r : Int32} {w1 w2 : va_W} {A : Nat → Prop} {H0 : Heap} (hx : p.tables.exec = Jvm.exec) (hb : c.code = cc) (hml : c.maxLocals = nL) (hown : s.vm.findClass own = some m.cls) (hts : ∀ w ∈ TT, w.before ar s = true)
    (hM : Met l y (Cond.codeWith y bytes maxL ret hh :: TT) rm (hp_P As D ca wc H.size) (va_Qi (fun x (_ : Unit) => x = r) (wr_B D wc H.size w1) (va_A wc H.size)) mc ms (va_A wc H.size)) (kc : k_calW y bytes maxL ret hh n) (kv : Cond.static y ∈ TT) (hk : Cond.methodLink own index y ∈ TT) (hR : rm.frames + 1 ≤ R.frames ∧ 8 + (maxL + 11) + rm.locals ≤ R.locals) (hrc : rm.cells = mc) (hrs : rm.slots = ms)
    (hP : va_P D vwCl ws H) (hK : va_K D vwCl (tyG ca) s) (hD : va_D A ws) (hS : va_S A H0 H locs) (hA : ∀ q : Nat, H0.size ≤ q → A q) (hev : xt_ev s H)
    (isC : List Nat) (hC : isC.map (fun i => ws[i]?) = wc.map some) (hCn : va_nd isC = true) (ha : w1.map Prod.fst = wc.map Prod.fst) (mk9 : List (Option Nat)) (hm9 : k_mok isC mk9 = true) (hF : k_mrg w1 ws mk9 = w2)
    (hn : As.length = n) (hsz : ls.size = nL) (hw : (rest.map fun v => v.category).sum ≤ 8) (hst : st0 = As.reverse ++ rest) (hdg : decode cc pc = .ok (.invokestatic index, 3)) (hf : cells + mc ≤ R.cells ∧ slots + ms ≤ R.slots)
    (kk : ∀ (H1 : Heap) (locs1 : List Loc), va_P D vwCl w2 H1 → va_D A w2 → va_S A H0 H1 locs1 → W p l e R s m ar below meth c H1 locs1 (cells + mc) (slots + ms) Q (F0 m (pc + 3) ls (.int r :: rest))) : W p l e R s m ar below meth c H locs cells slots Q (F0 m pc ls st0) := by
  have hPc : va_P D vwCl wc H := hP.sub isC (k_fm hC)
  have hDc : va_D A wc := hD.sub isC hCn hC
  have hFc := va_free (wc := wc) hD hS hA isC hC
  refine va_calli (k_runSW (As := As) (rest := rest) hx hb hml hown hts hM kc kv hk hR hrc hrs ⟨hp_blind, fun U hU hW => ⟨rfl, by rw [hU], by rw [hU]; exact hPc, va_K.moved hW.alike hK, hDc.weaken (fun _ _ _ _ => trivial), by rw [hU]; exact xt_ev.moved hW.alike hev⟩⟩ hn hsz hw hst hdg hf) hS (fun q _ h => hFc q h) hFc (fun x u t H1 locs ht hvm hw9 hB hz1 hk1 hS => ?_)
  subst hw9
  obtain ⟨hP1, hD1⟩ := hB
  rw [ht] at hP1
  obtain ⟨hP, hD⟩ := k_mrgJ hP hD isC mk9 hm9 hC ha hk1 hFc hP1 hD1
  exact kk H1 locs (hF ▸ hP) (hF ▸ hD) hS
