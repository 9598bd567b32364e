/-- the word on arrays of arrays (the section below speaks of it) -/
def va_AOA (t : FieldType) (U : State) : Prop := (Cond.arrayOver (.array t)).before #[] U = true
theorem va_AOA.of {t : FieldType} {A : Array Value} {U : State} (h : (Cond.arrayOver (.array t)).before A U = true) : va_AOA t U := h
theorem va_AOA.use {t : FieldType} {A : Array Value} {U : State} (h : va_AOA t U) : (Cond.arrayOver (.array t)).before A U = true := h
/-! ===== BEGIN new T[n][m]: the outer array a place, the inner ones among the pooled ===== -/
/-- f, but v at every address of l -/
def vr_up {α : Type} (f : Nat → α) (l : List Nat) (v : α) : Nat → α := fun a => if a ∈ l then v else f a
theorem vr_up_in {α : Type} {f : Nat → α} {l : List Nat} {v : α} {a : Nat} (h : a ∈ l) : vr_up f l v a = v := if_pos h
theorem vr_up_ne {α : Type} {f : Nat → α} {l : List Nat} {v : α} {a : Nat} (h : a ∉ l) : vr_up f l v a = f a := if_neg h
theorem vr_rows {L l : List Nat} {f : Nat → va_E} {e : va_E} (h : ∀ a, a ∈ l → a ∉ L) : va_pl L f ++ l.map (fun a => (a, e)) = va_pl (L ++ l) (vr_up f l e) := by
  unfold va_pl
  rw [List.map_append]
  congr 1
  · apply List.map_congr_left
    intro a ha
    rw [vr_up_ne (fun q => h a q ha)]
  · apply List.map_congr_left
    intro a ha
    rw [vr_up_in ha]
theorem vr_lay {X rows : va_W} {x : Nat × va_E} {pl : va_W} {D : va_G} {cl : List vw_C} {H : Heap} (hP : va_P D cl (((X ++ pl) ++ [x]) ++ rows) H) : va_P D cl ((X ++ [x]) ++ (pl ++ rows)) H := by
  rw [List.append_assoc (X ++ pl)] at hP
  have h := va_P.swap hP
  rw [← List.append_assoc X] at h
  have h2 := va_P.swap h
  rw [List.append_assoc (X ++ [x])] at h2
  exact h2
theorem vr_layD {X rows : va_W} {x : Nat × va_E} {pl : va_W} {A : Nat → Prop} (hD : va_D A (((X ++ pl) ++ [x]) ++ rows)) : va_D A ((X ++ [x]) ++ (pl ++ rows)) := by
  rw [List.append_assoc (X ++ pl)] at hD
  have h := va_D.swap hD
  rw [← List.append_assoc X] at h
  have h2 := va_D.swap h
  rw [List.append_assoc (X ++ [x])] at h2
  exact h2
theorem vr_outer (c : ClassId) (N h0 : Nat) : ∀ i : Nat, Jvm.Free.Multi.outerC c N h0 i = arrV c N (fun j => va_rf (if j < i then some (h0 + 1 + j) else none))
  | 0 => by
    show ({ cls := c, slots := Array.replicate N .null, vm := .none } : Cell) = _
    rw [arrV_new]
    refine congrArg (arrV c N) (funext fun j => ?_)
    simp [va_rf]
  | i + 1 => by
    show (Jvm.Free.Multi.outerC c N h0 i).setSlot i (.ref (h0 + 1 + i)) = _
    rw [vr_outer c N h0 i, arrV_store]
    refine congrArg (arrV c N) (funext fun j => ?_)
    by_cases e : j = i
    · subst e
      simp [updV, va_rf]
    · by_cases h : j < i
      · simp [updV, e, h, Nat.lt_succ_of_lt h]
      · simp [updV, e, h, show ¬ j < i + 1 by omega]
section VGM
variable {p : Program} {l : Launch} {e : Env} {R : Room} {s : State} {m : MethodId} {args : Array Value} {below : List Frame} {meth : Method} {c : Code} {H : Heap} {locs : List Loc} {cells slots : Nat} {Q : State → Prop}
variable {cc : ByteArray} {pc : Nat} {ls : Array Slot} {rest : List Value} {D : va_G} {cl : List vw_C} {A : Nat → Prop} {a : Nat} {tys : List (ClassId × FieldType)} {ws : va_W} {H0 : Heap}
theorem va_mna {X : va_W} {L : List Nat} {f : Nat → va_E} {cc : ByteArray} (hexec : p.tables.exec = Jvm.exec) (hb : c.code = cc) {own : String} {index : Nat} {ty : FieldType} {cy : ClassId} (hown : s.vm.findClass own = some m.cls) (hclink : (Cond.classLink own index ("[" ++ (FieldType.array ty).toString)).before args s = true) (hover : va_AOA ty s) (harr : (Cond.arrayClass ty).before args s = true) (hcy : s.vm.findClass (FieldType.array ty).toString = some cy)
    (hK : va_K D cl tys s) (hP : va_P D cl (X ++ va_pl L f) H) (hD : va_D A (X ++ va_pl L f)) (hS : va_S A H0 H locs) (hA : ∀ q, H0.size ≤ q → A q) {n k : Int32} {N' K' : Nat} {z : vp_A} (hn : ¬ n < 0) (hk : ¬ k < 0) (hN : n.toNatClampNeg = N') (hM : k.toNatClampNeg = K')
    (hb1 : N' * 4 ≤ 536870912) (hb2 : K' * componentBytes ty ≤ 536870912) (hb3 : K' ≤ 536870912) (hdf : fits ty (defaultValue ty) = true) (hdd : (defaultValue ty).isDefault = true) (hcells : cells + (1 + N') ≤ R.cells) (hslots : slots + (N' + N' * K') ≤ R.slots) (hz : ∀ c : ClassId, Jvm.Free.Multi.innerC c K' (defaultValue ty) = vp_cell c z) (hdg : decode cc pc = .ok (.multianewarray index 2, 4))
    (kk : ∀ (q : Nat) (r : Nat → Nat) (cA : ClassId) (H1 : Heap), (∀ i j : Nat, i < N' → j < N' → r i = r j → i = j) → (∀ i : Nat, i < N' → r i ∉ L) → va_K D cl (tys ++ [(cA, .array ty)]) s →
      va_P D cl ((X ++ [(q, .inl (cA, N', .inr (.inr (.inr (.inr (fun i => if i < N' then some (r i) else none))))))]) ++ va_pl (L ++ (List.range N').map r) (vr_up f ((List.range N').map r) (.inl (cy, z)))) H1 → va_D A ((X ++ [(q, .inl (cA, N', .inr (.inr (.inr (.inr (fun i => if i < N' then some (r i) else none))))))]) ++ va_pl (L ++ (List.range N').map r) (vr_up f ((List.range N').map r) (.inl (cy, z)))) → va_S A H0 H1 locs →
      W p l e R s m args below meth c H1 locs (cells + 1 + N') (slots + N' + N' * K') Q (F0 m (pc + 4) ls (.ref q :: rest))) : W p l e R s m args below meth c H locs cells slots Q (F0 m pc ls (.int k :: .int n :: rest)) := by
  subst hN
  subst hM
  intro T hT Xs
  obtain ⟨vm₁, cA, comp, -, fA, fC, hO, -, X', step⟩ := Xs.multianewarray2F hexec hown hclink (va_AOA.use hover) harr (g := F0 m pc ls (.int k :: .int n :: rest)) rfl (by rw [hb]; exact hdg) rfl hn hk hb1 hb2 hb3 hdf hdd hcells hslots
  have ec : some cy = some comp := hcy.symm.trans fC
  cases ec
  generalize hF : Jvm.Free.Multi.fill (T.setVm vm₁) cA cy n.toNatClampNeg k.toNatClampNeg (defaultValue ty) n.toNatClampNeg = F at X' step
  have hTh : (T.setVm vm₁).heap = H := hT
  obtain ⟨f1, f2, -, -⟩ := Jvm.Free.Multi.fill_facts (T.setVm vm₁) cA cy n.toNatClampNeg k.toNatClampNeg (defaultValue ty) n.toNatClampNeg
  rw [hF, hTh] at f1 f2
  have hold : ∀ x : Nat, x < H.size → F.heap[x]? = H[x]? := fun x hx => by
    have := Jvm.Free.Multi.fill_old (T.setVm vm₁) cA cy n.toNatClampNeg k.toNatClampNeg (defaultValue ty) (a := x) (by rw [hTh]; exact hx) n.toNatClampNeg
    rw [hF, hTh] at this
    exact this
  have hrow : ∀ j : Nat, j < n.toNatClampNeg → F.heap[H.size + 1 + j]? = some (vp_cell cy z) := fun j hj => by
    have := Jvm.Free.Multi.fill_inner (T.setVm vm₁) cA cy n.toNatClampNeg k.toNatClampNeg (defaultValue ty) n.toNatClampNeg j hj
    rw [hF, hTh, hz] at this
    exact this
  have hout : Jvm.Free.Multi.outerC cA n.toNatClampNeg H.size n.toNatClampNeg = vp_cell cA (n.toNatClampNeg, .inr (.inr (.inr (.inr (fun i => if i < n.toNatClampNeg then some (H.size + 1 + i) else none))))) := by
    rw [vp_cell_q]
    exact vr_outer cA n.toNatClampNeg H.size n.toNatClampNeg
  rw [hout] at f2
  have hlt : ∀ a, a ∈ L → a < H.size := fun a ha => by
    obtain ⟨k9, hk9⟩ := va_pl_get (X := X) (f := f) ha
    exact (hP k9 _ hk9).lt
  have hnl : ∀ i : Nat, i < n.toNatClampNeg → H.size + 1 + i ∉ L := fun i _ h => by
    have := hlt _ h
    omega
  have hnm : ∀ a, a ∈ (List.range n.toNatClampNeg).map (fun i => H.size + 1 + i) → a ∉ L := fun a ha h => by
    obtain ⟨i, -, rfl⟩ := List.mem_map.mp ha
    have := hlt _ h
    omega
  have hP0 : va_P D cl (X ++ va_pl L f) F.heap := hP.kept (fun k9 x hx => hold x.1 ((hP k9 x hx).lt))
  have hP1 : va_P D cl ((X ++ va_pl L f) ++ [(H.size, .inl (cA, n.toNatClampNeg, .inr (.inr (.inr (.inr (fun i => if i < n.toNatClampNeg then some (H.size + 1 + i) else none))))))]) F.heap := hP0.app (fun k9 x hx => by
    have h0 : k9 < 1 := (List.getElem?_eq_some_iff.mp hx).1
    rw [show k9 = 0 by omega] at hx
    cases hx
    exact f2)
  have hP2 : va_P D cl (((X ++ va_pl L f) ++ [(H.size, .inl (cA, n.toNatClampNeg, .inr (.inr (.inr (.inr (fun i => if i < n.toNatClampNeg then some (H.size + 1 + i) else none))))))]) ++ ((List.range n.toNatClampNeg).map (fun i => H.size + 1 + i)).map (fun a => (a, .inl (cy, z)))) F.heap := hP1.app (fun k9 x hx => by
    obtain ⟨a, ha, rfl⟩ := List.mem_map.mp (List.mem_of_getElem? hx)
    obtain ⟨i, hi, rfl⟩ := List.mem_map.mp ha
    exact hrow i (List.mem_range.mp hi))
  have hD2 : va_D A (((X ++ va_pl L f) ++ [(H.size, .inl (cA, n.toNatClampNeg, .inr (.inr (.inr (.inr (fun i => if i < n.toNatClampNeg then some (H.size + 1 + i) else none))))))]) ++ ((List.range n.toNatClampNeg).map (fun i => H.size + 1 + i)).map (fun a => (a, .inl (cy, z)))) := by
    have hD1 := hD.push (e := .inl (cA, n.toNatClampNeg, .inr (.inr (.inr (.inr (fun i => if i < n.toNatClampNeg then some (H.size + 1 + i) else none)))))) hP rfl (hA _ hS.1)
    generalize hW1 : (X ++ va_pl L f) ++ [(H.size, .inl (cA, n.toNatClampNeg, .inr (.inr (.inr (.inr (fun i => if i < n.toNatClampNeg then some (H.size + 1 + i) else none))))))] = W1 at hD1 hP1 ⊢
    have hle : ∀ (k9 : Nat) (x : Nat × va_E), W1[k9]? = some x → x.1 ≤ H.size := fun k9 x hx => by
      rw [← hW1] at hx
      by_cases hl : k9 < (X ++ va_pl L f).length
      · rw [List.getElem?_append_left hl] at hx
        exact Nat.le_of_lt ((hP k9 x hx).lt)
      · rw [List.getElem?_append_right (by omega)] at hx
        have h0 : k9 - (X ++ va_pl L f).length < 1 := (List.getElem?_eq_some_iff.mp hx).1
        rw [show k9 - (X ++ va_pl L f).length = 0 by omega] at hx
        cases hx
        exact Nat.le_refl _
    have hr : ∀ (k9 : Nat) (x : Nat × va_E), (((List.range n.toNatClampNeg).map (fun i => H.size + 1 + i)).map (fun a => ((a, .inl (cy, z)) : Nat × va_E)))[k9]? = some x → x.1 = H.size + 1 + k9 := fun k9 x hx => by
      rw [List.getElem?_map, List.getElem?_map] at hx
      by_cases h9 : k9 < n.toNatClampNeg
      · rw [List.getElem?_range h9] at hx
        cases hx
        rfl
      · have hn0 : (List.range n.toNatClampNeg)[k9]? = none := List.getElem?_eq_none (by rw [List.length_range]; omega)
        rw [hn0] at hx
        cases hx
    refine ⟨fun i j x y hi hj hxy => ?_, fun k9 x hx => ?_⟩
    · by_cases h1 : i < W1.length <;> by_cases h2 : j < W1.length
      · rw [List.getElem?_append_left h1] at hi
        rw [List.getElem?_append_left h2] at hj
        exact hD1.1 i j x y hi hj hxy
      · rw [List.getElem?_append_left h1] at hi
        rw [List.getElem?_append_right (by omega)] at hj
        have := hle _ _ hi
        have := hr _ _ hj
        omega
      · rw [List.getElem?_append_right (by omega)] at hi
        rw [List.getElem?_append_left h2] at hj
        have := hle _ _ hj
        have := hr _ _ hi
        omega
      · rw [List.getElem?_append_right (by omega)] at hi hj
        have := hr _ _ hi
        have := hr _ _ hj
        omega
    · by_cases h1 : k9 < W1.length
      · rw [List.getElem?_append_left h1] at hx
        exact hD1.2 k9 x hx
      · rw [List.getElem?_append_right (by omega)] at hx
        have := hr _ _ hx
        exact hA _ (by have := hS.1; omega)
  have hAr : ArrOfT s cA (.array ty) := fun N9 z9 => by
    obtain ⟨-, k9, hk9, cm9, hkk9⟩ := (hO 0 0 0).1
    exact ⟨(fun q hq => by cases hq), k9, hk9, cm9, hkk9⟩
  have hK2 : va_K D cl (tys ++ [(cA, .array ty)]) s := ⟨hK.1, fun k9 x hx => by
    by_cases hl : k9 < tys.length
    · rw [List.getElem?_append_left hl] at hx
      exact hK.2 k9 x hx
    · rw [List.getElem?_append_right (by omega)] at hx
      have h0 : k9 - tys.length < 1 := (List.getElem?_eq_some_iff.mp hx).1
      rw [show k9 - tys.length = 0 by omega] at hx
      cases hx
      exact ⟨hAr, fA⟩⟩
  obtain ⟨t, a1, b1⟩ := kk H.size (fun i => H.size + 1 + i) cA F.heap (fun i j _ _ h => by have h9 : H.size + 1 + i = H.size + 1 + j := h; omega) hnl hK2 (by rw [← vr_rows hnm]; exact vr_lay hP2) (by rw [← vr_rows hnm]; exact vr_layD hD2) ⟨by rw [f1]; have := hS.1; omega, fun x h1 h2 => (hold x (Nat.lt_of_lt_of_le h1 hS.1)).trans (hS.2.1 x h1 h2), hS.2.2⟩ F rfl X'
  refine ⟨t, step t ?_, b1⟩
  have e : T.heap.size = H.size := by rw [hT]
  rw [e]
  exact a1
end VGM
/-! ===== END ===== -/
theorem k_caI {D : va_G} {ca : Nat → ClassId} {cA : ClassId} {s : State} (h : va_K D vwCl (tyG ca ++ [(cA, .int)]) s) : cA = ca 0 := Option.some.inj ((h.2 5 _ rfl).2.symm.trans (h.2 0 _ rfl).2)
theorem k_caJ {D : va_G} {ca : Nat → ClassId} {cA : ClassId} {s : State} (h : va_K D vwCl (tyG ca ++ [(cA, .long)]) s) : cA = ca 1 := Option.some.inj ((h.2 5 _ rfl).2.symm.trans (h.2 1 _ rfl).2)
theorem k_caZ {D : va_G} {ca : Nat → ClassId} {cA : ClassId} {s : State} (h : va_K D vwCl (tyG ca ++ [(cA, .boolean)]) s) : cA = ca 2 := Option.some.inj ((h.2 5 _ rfl).2.symm.trans (h.2 2 _ rfl).2)
theorem k_caS {D : va_G} {ca : Nat → ClassId} {cA : ClassId} {s : State} (h : va_K D vwCl (tyG ca ++ [(cA, .object "RoomClimate$Steps")]) s) : cA = ca 3 := by
  obtain ⟨k1, c1, -, -, -, e1⟩ := (h.2 5 _ rfl).2
  obtain ⟨k2, c2, -, -, -, e2⟩ := (h.2 3 _ rfl).2
  exact Option.some.inj (e1.symm.trans e2)
theorem k_caG {D : va_G} {ca : Nat → ClassId} {cA : ClassId} {s : State} (h : va_K D vwCl (tyG ca ++ [(cA, .array .int)]) s) : cA = ca 4 := Option.some.inj ((h.2 5 _ rfl).2.symm.trans (h.2 4 _ rfl).2)
theorem ct_of {l : Launch} {y : MethodName} {cc : ByteArray} {maxL : Nat} {rm : Room} {av : List Value} {D : va_G} {ca : Nat → ClassId} {ws : va_W} {sz mc ms : Nat} {S : Type} {w1 : S → va_W} (hy : plainFor y = true) (hyn : y.name = "<init>") (hlen : (lg_sl av).length ≤ maxL)
    (body : ∀ (p : Program) (e : Env) (s : State) (m : MethodId) (below : List Frame) (meth : Method) (c : Code) (Q : State → Prop) (ar : Array Value) (ls : Array Slot),
      p.tables.exec = Jvm.exec → c.code = cc → c.maxLocals = maxL → (∀ w ∈ TT, w.before ar s = true) → s.vm.findClass y.cls = some m.cls → meth.name = "<init>" → va_P D vwCl ws s.heap → va_K D vwCl (tyG ca) s → ∀ A : Nat → Prop, va_D A ws → (∀ q : Nat, s.heap.size ≤ q → A q) → lv_has ls maxL (lv_args 0 av) →
      (∀ (u : S) (H : Heap) (locs : List Loc) (pc : Nat) (ls : Array Slot), decode cc pc = .ok (.return_, 1) → va_P D vwCl (w1 u) H → va_D A (w1 u) → va_S A s.heap H locs → W p l e rm s m ar below meth c H locs mc ms Q (F0 m pc ls [])) →
      W p l e rm s m ar below meth c s.heap [] 0 0 Q (F0 m 0 ls [])) :
    Met l y (Cond.code y cc maxL none :: TT) rm (wr_P av D ca ws sz) (va_Qv (fun _ : S => True) (fun u t => va_P D vwCl (w1 u) t.heap ∧ va_D (va_A ws sz) (w1 u)) (va_A ws sz)) mc ms (va_A ws sz) := by
  refine va_MetF (cc := cc) (maxL := maxL) (ret := none) hy rfl ?_
  intro p e s m args below meth c s₁ B hml hv
  obtain ⟨rfl, hsz, hP, hK, hD0⟩ := hv
  subst hsz
  have hD := hD0.self (sz := s.heap.size)
  have hts := atoms_spec (ws := Cond.code y cc maxL none :: TT) B.pre
  have hl := lv_entry av (n := maxL) hlen
  rw [lg_entry_eq]
  generalize (lg_sl av ++ List.replicate (maxL - (lg_sl av).length) Slot.unset).toArray = ls at hl ⊢
  refine body p e s m below meth c _ _ ls B.exec B.bytes hml (fun w h => hts w (List.mem_cons_of_mem _ h)) (findClass_of_methodNamed B.named) ((name_of_methodNamed B.named B.method).1.trans hyn) hP hK _ hD (fun q h => Or.inr h) hl ?_
  intro u H locs pc ls hd hP hD hS
  exact W.vret B.exec B.bytes B.returns (fun t ht hW => ⟨⟨u, rfl, trivial, by rw [ht]; exact hP, hD⟩, hS.F ht⟩) hS.2.2 hd B.notSynchronized
theorem k_wI {p : Program} {l : Launch} {e : Env} {R : Room} {s : State} {m : MethodId} {ar : Array Value} {below : List Frame} {meth : Method} {c : Code} {H : Heap} {locs : List Loc} {cells slots : Nat} {Q : State → Prop} {y : MethodName} {bytes cc : ByteArray} {maxL nL n index mc ms b : Nat} {rm : Room} {own : String} {As rest st0 : List Value} {pc : Nat} {ls : Array Slot} {D : va_G} {ca : Nat → ClassId} {wc ws wr : va_W} {S : Type} {w1 : S → va_W} {A : Nat → Prop} {H0 : Heap} (hx : p.tables.exec = Jvm.exec) (hb : c.code = cc) (hml : c.maxLocals = nL) (hown : s.vm.findClass own = some m.cls) (hts : ∀ w ∈ TT, w.before ar s = true)
    (hM : Met l y (Cond.code y bytes maxL none :: TT) rm (wr_P (.ref b :: As) D ca wc H.size) (va_Qv (fun _ : S => True) (fun u t => va_P D vwCl (w1 u) t.heap ∧ va_D (va_A wc H.size) (w1 u)) (va_A wc H.size)) mc ms (va_A wc H.size)) (kc : k_cal y bytes maxL none n) (hi : Cond.instanceMethod y ∈ TT) (hk : Cond.methodLink own index y ∈ TT)
    (hR : rm.frames + 1 ≤ R.frames ∧ 8 + (maxL + 11) + rm.locals ≤ R.locals) (hrc : rm.cells = mc) (hrs : rm.slots = ms) (hP : va_P D vwCl ws H) (hK : va_K D vwCl (tyG ca) s) (hD : va_D A ws) (hS : va_S A H0 H locs) (hA : ∀ q : Nat, H0.size ≤ q → A q)
    (isC isR : List Nat) (hC : isC.map (fun i => ws[i]?) = wc.map some) (hCn : va_nd isC = true) (hRr : isR.map (fun i => ws[i]?) = wr.map some) (hRn : va_nd isR = true) (hdis : ∀ i ∈ isR, i ∉ isC)
    (hn : As.length = n) (hsz : ls.size = nL) (hw : (rest.map fun v => v.category).sum ≤ 8) (hst : st0 = As.reverse ++ .ref b :: rest) (hy1 : y.name = "<init>") (hdg : decode cc pc = .ok (.invokespecial index, 3)) (hf : cells + mc ≤ R.cells ∧ slots + ms ≤ R.slots)
    (kk : ∀ (u : S) (H1 : Heap) (locs1 : List Loc), va_P D vwCl (wr ++ w1 u) H1 → va_D A (wr ++ w1 u) → va_S A H0 H1 locs1 → W p l e R s m ar below meth c H1 locs1 (cells + mc) (slots + ms) Q (F0 m (pc + 3) ls rest)) : W p l e R s m ar below meth c H locs cells slots Q (F0 m pc ls st0) := by
  have hPc : va_P D vwCl wc H := hP.sub isC (k_fm hC)
  have hDc : va_D A wc := hD.sub isC hCn hC
  have hFc := va_free (wc := wc) hD hS hA isC hC
  refine va_callv (va_runI (As := As) (rest := rest) ⟨hx, hb, hml, hown, hts⟩ hM ⟨k_cB hts kc hk hrc hrs hR, hy1, hts _ hi⟩ ⟨wr_blind, fun U hU hW => ⟨rfl, by rw [hU], by rw [hU]; exact hPc, va_K.moved hW.alike hK, hDc.weaken (fun _ _ _ _ => trivial)⟩⟩ rfl hn hsz hst (lv_room hw) hdg hf) hS (fun q _ h => hFc q h) hFc (fun u t H1 locs ht hvm hw9 hB hz1 hk1 hS => ?_)
  obtain ⟨hP1, hD1⟩ := hB
  rw [ht] at hP1
  obtain ⟨hP, hD⟩ := va_join (wr := wr) (w1 := w1 u) hP hD isC isR hC hRr hRn hdis hk1 hFc hP1 hD1
  exact kk u H1 locs hP hD hS
theorem k_wIN {p : Program} {l : Launch} {e : Env} {R : Room} {s : State} {m : MethodId} {ar : Array Value} {below : List Frame} {meth : Method} {c : Code} {H : Heap} {locs : List Loc} {cells slots : Nat} {Q : State → Prop} {y : MethodName} {bytes cc : ByteArray} {maxL nL n index mc ms b : Nat} {rm : Room} {own : String} {host : String} {As rest st0 : List Value} {pc : Nat} {ls : Array Slot} {D : va_G} {ca : Nat → ClassId} {wc ws wr : va_W} {S : Type} {w1 : S → va_W} {A : Nat → Prop} {H0 : Heap} (hx : p.tables.exec = Jvm.exec) (hb : c.code = cc) (hml : c.maxLocals = nL) (hown : s.vm.findClass own = some m.cls) (hts : ∀ w ∈ TT, w.before ar s = true)
    (hM : Met l y (Cond.code y bytes maxL none :: TT) rm (wr_P (.ref b :: As) D ca wc H.size) (va_Qv (fun _ : S => True) (fun u t => va_P D vwCl (w1 u) t.heap ∧ va_D (va_A wc H.size) (w1 u)) (va_A wc H.size)) mc ms (va_A wc H.size)) (kc : k_cal y bytes maxL none n) (hi : Cond.instanceMethod y ∈ TT) (hk : Cond.methodLinkNest own index y host ∈ TT)
    (hR : rm.frames + 1 ≤ R.frames ∧ 8 + (maxL + 11) + rm.locals ≤ R.locals) (hrc : rm.cells = mc) (hrs : rm.slots = ms) (hP : va_P D vwCl ws H) (hK : va_K D vwCl (tyG ca) s) (hD : va_D A ws) (hS : va_S A H0 H locs) (hA : ∀ q : Nat, H0.size ≤ q → A q)
    (isC isR : List Nat) (hC : isC.map (fun i => ws[i]?) = wc.map some) (hCn : va_nd isC = true) (hRr : isR.map (fun i => ws[i]?) = wr.map some) (hRn : va_nd isR = true) (hdis : ∀ i ∈ isR, i ∉ isC)
    (hn : As.length = n) (hsz : ls.size = nL) (hw : (rest.map fun v => v.category).sum ≤ 8) (hst : st0 = As.reverse ++ .ref b :: rest) (hy1 : y.name = "<init>") (hdg : decode cc pc = .ok (.invokespecial index, 3)) (hf : cells + mc ≤ R.cells ∧ slots + ms ≤ R.slots)
    (kk : ∀ (u : S) (H1 : Heap) (locs1 : List Loc), va_P D vwCl (wr ++ w1 u) H1 → va_D A (wr ++ w1 u) → va_S A H0 H1 locs1 → W p l e R s m ar below meth c H1 locs1 (cells + mc) (slots + ms) Q (F0 m (pc + 3) ls rest)) : W p l e R s m ar below meth c H locs cells slots Q (F0 m pc ls st0) := by
  have hPc : va_P D vwCl wc H := hP.sub isC (k_fm hC)
  have hDc : va_D A wc := hD.sub isC hCn hC
  have hFc := va_free (wc := wc) hD hS hA isC hC
  refine va_callv (va_runIN (As := As) (rest := rest) ⟨hx, hb, hml, hown, hts⟩ hM ⟨k_cN hts kc hk hrc hrs hR, hy1, hts _ hi⟩ ⟨wr_blind, fun U hU hW => ⟨rfl, by rw [hU], by rw [hU]; exact hPc, va_K.moved hW.alike hK, hDc.weaken (fun _ _ _ _ => trivial)⟩⟩ rfl hn hsz hst (lv_room hw) hdg hf) hS (fun q _ h => hFc q h) hFc (fun u t H1 locs ht hvm hw9 hB hz1 hk1 hS => ?_)
  obtain ⟨hP1, hD1⟩ := hB
  rw [ht] at hP1
  obtain ⟨hP, hD⟩ := va_join (wr := wr) (w1 := w1 u) hP hD isC isR hC hRr hRn hdis hk1 hFc hP1 hD1
  exact kk u H1 locs hP hD hS
/-- new int[4][300] -/
theorem k_mna {p : Program} {l : Launch} {e : Env} {R : Room} {s : State} {m : MethodId} {ar : Array Value} {below : List Frame} {meth : Method} {c : Code} {H : Heap} {locs : List Loc} {cells slots : Nat} {Q : State → Prop} {cc : ByteArray} {own : String} {index pc : Nat} {ls : Array Slot} {rest : List Value} {D : va_G} {ca : Nat → ClassId} {ws : va_W} {A : Nat → Prop} {H0 : Heap} (hx : p.tables.exec = Jvm.exec) (hb : c.code = cc) (hown : s.vm.findClass own = some m.cls) (hcl : (Cond.classLink own index "[[I").before ar s = true) (hov : (Cond.arrayOver (.array .int)).before ar s = true) (hac : (Cond.arrayClass .int).before ar s = true)
    (hK : va_K D vwCl (tyG ca) s) (hP : va_P D vwCl ws H) (hD : va_D A ws) (hS : va_S A H0 H locs) (hA : ∀ q : Nat, H0.size ≤ q → A q) (hc : cells + (1 + 4) ≤ R.cells) (hs : slots + (4 + 4 * 300) ≤ R.slots) (hdg : decode cc pc = .ok (.multianewarray index 2, 4))
    (kk : ∀ (q r0 r1 r2 r3 : Nat) (H1 : Heap), va_P D vwCl (ws ++ [aG q ca (rq4 r0 r1 r2 r3), aI r0 ca 300 (fun _ => 0), aI r1 ca 300 (fun _ => 0), aI r2 ca 300 (fun _ => 0), aI r3 ca 300 (fun _ => 0)]) H1 → va_D A (ws ++ [aG q ca (rq4 r0 r1 r2 r3), aI r0 ca 300 (fun _ => 0), aI r1 ca 300 (fun _ => 0), aI r2 ca 300 (fun _ => 0), aI r3 ca 300 (fun _ => 0)]) → va_S A H0 H1 locs →
      W p l e R s m ar below meth c H1 locs (cells + 1 + 4) (slots + 4 + 4 * 300) Q (F0 m (pc + 4) ls (.ref q :: rest))) : W p l e R s m ar below meth c H locs cells slots Q (F0 m pc ls (.int 300 :: .int 4 :: rest)) := by
  have e0 : va_pl [] (fun _ => (.inr (0, []) : va_E)) = [] := rfl
  have hcI : s.vm.findClass (FieldType.array .int).toString = some (ca 0) := (hK.2 0 _ rfl).2
  refine va_mna (X := ws) (L := []) (f := fun _ => .inr (0, [])) (ty := .int) (cy := ca 0) (N' := 4) (K' := 300) (z := (300, .inl (fun _ => 0))) hx hb hown hcl (va_AOA.of hov) hac hcI hK (by rw [e0, List.append_nil]; exact hP) (by rw [e0, List.append_nil]; exact hD) hS hA (by decide) (by decide) (by decide) (by decide) (by decide) (by decide) (by decide) rfl rfl hc hs (fun c => ?_) hdg (fun q r cA H1 hinj hnew hK5 hP5 hD5 hS5 => ?_)
  · show Jvm.Free.Multi.innerC c 300 (.int 0) = arrV c 300 (fun _ => .int 0)
    exact arrV_new c 300 (.int 0)
  obtain rfl : cA = ca 4 := k_caG hK5
  have eo : (fun i : Nat => if i < 4 then some (r i) else none) = rq4 (r 0) (r 1) (r 2) (r 3) := by
    funext i
    match i with
    | 0 => rfl
    | 1 => rfl
    | 2 => rfl
    | 3 => rfl
    | k + 4 => simp [rq4]
  have er : va_pl ([] ++ (List.range 4).map r) (vr_up (fun _ => (.inr (0, []) : va_E)) ((List.range 4).map r) (.inl (ca 0, (300, .inl (fun _ => 0))))) = [aI (r 0) ca 300 (fun _ => 0), aI (r 1) ca 300 (fun _ => 0), aI (r 2) ca 300 (fun _ => 0), aI (r 3) ca 300 (fun _ => 0)] := by
    have hm : ∀ i, i < 4 → r i ∈ (List.range 4).map r := fun i hi => List.mem_map.mpr ⟨i, List.mem_range.mpr hi, rfl⟩
    show [(r 0, vr_up _ _ _ (r 0)), (r 1, vr_up _ _ _ (r 1)), (r 2, vr_up _ _ _ (r 2)), (r 3, vr_up _ _ _ (r 3))] = _
    rw [vr_up_in (hm 0 (by decide)), vr_up_in (hm 1 (by decide)), vr_up_in (hm 2 (by decide)), vr_up_in (hm 3 (by decide))]
  rw [er, eo, List.append_assoc] at hP5 hD5
  exact kk q (r 0) (r 1) (r 2) (r 3) H1 hP5 hD5 hS5
set_option maxRecDepth 100000 in
theorem tt_22 : Cond.code nY_Room_init nC_Room_init 3 none ∈ TT := tt_t (i := 22) (rfl) (by decide +kernel)
theorem tt_23 : Cond.methodLink nR_Room 1 objectInit ∈ TT := tt_t (i := 23) (by decide +kernel) (by decide +kernel)
theorem tt_26 : Cond.classLink nR_Room 7 nR_Steps ∈ TT := tt_t (i := 26) (by decide +kernel) (by decide +kernel)
theorem tt_27 : Cond.instantiable nR_Steps 3 ∈ TT := tt_t (i := 27) (by decide +kernel) (by decide +kernel)
theorem tt_28 : Cond.methodLink nR_Room 11 nY_Steps_init ∈ TT := tt_t (i := 28) (by decide +kernel) (by decide +kernel)
theorem tt_29 : Cond.instanceMethod nY_Steps_init ∈ TT := tt_t (i := 29) (by decide +kernel) (by decide +kernel)
set_option maxRecDepth 100000 in
theorem tt_30 : Cond.code nY_Steps_init nC_Steps_init 2 none ∈ TT := tt_t (i := 30) (rfl) (by decide +kernel)
theorem tt_31 : Cond.methodLink nR_Steps 1 objectInit ∈ TT := tt_t (i := 31) (by decide +kernel) (by decide +kernel)
theorem tt_43 : Cond.arrayClass .int ∈ TT := tt_t (i := 43) (by decide +kernel) (by decide +kernel)
theorem tt_44 : Cond.classLink nR_Room 14 nR_House ∈ TT := tt_t (i := 44) (by decide +kernel) (by decide +kernel)
theorem tt_45 : Cond.instantiable nR_House 4 ∈ TT := tt_t (i := 45) (by decide +kernel) (by decide +kernel)
theorem tt_46 : Cond.methodLink nR_Room 16 nY_House_init ∈ TT := tt_t (i := 46) (by decide +kernel) (by decide +kernel)
theorem tt_47 : Cond.instanceMethod nY_House_init ∈ TT := tt_t (i := 47) (by decide +kernel) (by decide +kernel)
set_option maxRecDepth 100000 in
theorem tt_48 : Cond.code nY_House_init nC_House_init 2 none ∈ TT := tt_t (i := 48) (rfl) (by decide +kernel)
theorem tt_49 : Cond.methodLink nR_House 1 objectInit ∈ TT := tt_t (i := 49) (by decide +kernel) (by decide +kernel)
theorem tt_50 : Cond.classLink nR_House 7 nR_Interior ∈ TT := tt_t (i := 50) (by decide +kernel) (by decide +kernel)
theorem tt_51 : Cond.instantiable nR_Interior 6 ∈ TT := tt_t (i := 51) (by decide +kernel) (by decide +kernel)
theorem tt_52 : Cond.methodLinkNest nR_House 9 nY_Interior_init "RoomClimate" ∈ TT := tt_t (i := 52) (by decide +kernel) (by decide +kernel)
theorem tt_53 : Cond.instanceMethod nY_Interior_init ∈ TT := tt_t (i := 53) (by decide +kernel) (by decide +kernel)
set_option maxRecDepth 100000 in
theorem tt_54 : Cond.code nY_Interior_init nC_Interior_init 1 none ∈ TT := tt_t (i := 54) (rfl) (by decide +kernel)
theorem tt_55 : Cond.methodLink nR_Interior 3 objectInit ∈ TT := tt_t (i := 55) (by decide +kernel) (by decide +kernel)
theorem tt_56 : Cond.constantLong nR_Interior 25 (20000 : Int64) ∈ TT := tt_t (i := 56) (by decide +kernel) (by decide +kernel)
theorem tt_57 : Cond.constantLong nR_Interior 31 (10000 : Int64) ∈ TT := tt_t (i := 57) (by decide +kernel) (by decide +kernel)
theorem tt_85 : Cond.arrayClass .long ∈ TT := tt_t (i := 85) (by decide +kernel) (by decide +kernel)
theorem tt_86 : Cond.classLink nR_House 16 nR_Walls ∈ TT := tt_t (i := 86) (by decide +kernel) (by decide +kernel)
theorem tt_87 : Cond.instantiable nR_Walls 4 ∈ TT := tt_t (i := 87) (by decide +kernel) (by decide +kernel)
theorem tt_88 : Cond.methodLinkNest nR_House 18 nY_Walls_init "RoomClimate" ∈ TT := tt_t (i := 88) (by decide +kernel) (by decide +kernel)
theorem tt_89 : Cond.instanceMethod nY_Walls_init ∈ TT := tt_t (i := 89) (by decide +kernel) (by decide +kernel)
set_option maxRecDepth 100000 in
theorem tt_90 : Cond.code nY_Walls_init nC_Walls_init 1 none ∈ TT := tt_t (i := 90) (rfl) (by decide +kernel)
theorem tt_91 : Cond.methodLink nR_Walls 3 objectInit ∈ TT := tt_t (i := 91) (by decide +kernel) (by decide +kernel)
theorem tt_106 : Cond.classLink nR_House 23 nR_Machines ∈ TT := tt_t (i := 106) (by decide +kernel) (by decide +kernel)
theorem tt_107 : Cond.instantiable nR_Machines 5 ∈ TT := tt_t (i := 107) (by decide +kernel) (by decide +kernel)
theorem tt_108 : Cond.methodLinkNest nR_House 25 nY_Machines_init "RoomClimate" ∈ TT := tt_t (i := 108) (by decide +kernel) (by decide +kernel)
theorem tt_109 : Cond.instanceMethod nY_Machines_init ∈ TT := tt_t (i := 109) (by decide +kernel) (by decide +kernel)
set_option maxRecDepth 100000 in
theorem tt_110 : Cond.code nY_Machines_init nC_Machines_init 1 none ∈ TT := tt_t (i := 110) (rfl) (by decide +kernel)
theorem tt_111 : Cond.methodLink nR_Machines 3 objectInit ∈ TT := tt_t (i := 111) (by decide +kernel) (by decide +kernel)
theorem tt_129 : Cond.arrayClass .boolean ∈ TT := tt_t (i := 129) (by decide +kernel) (by decide +kernel)
theorem tt_130 : Cond.classLink nR_House 30 nR_Goods ∈ TT := tt_t (i := 130) (by decide +kernel) (by decide +kernel)
theorem tt_131 : Cond.instantiable nR_Goods 3 ∈ TT := tt_t (i := 131) (by decide +kernel) (by decide +kernel)
theorem tt_132 : Cond.methodLink nR_House 32 nY_Goods_init ∈ TT := tt_t (i := 132) (by decide +kernel) (by decide +kernel)
theorem tt_133 : Cond.instanceMethod nY_Goods_init ∈ TT := tt_t (i := 133) (by decide +kernel) (by decide +kernel)
set_option maxRecDepth 100000 in
theorem tt_134 : Cond.code nY_Goods_init nC_Goods_init 2 none ∈ TT := tt_t (i := 134) (rfl) (by decide +kernel)
theorem tt_135 : Cond.methodLink nR_Goods 3 objectInit ∈ TT := tt_t (i := 135) (by decide +kernel) (by decide +kernel)
theorem tt_166 : Cond.arrayOver (.object nR_Steps) ∈ TT := tt_t (i := 166) (by decide +kernel) (by decide +kernel)
theorem tt_167 : Cond.classLink nR_Room 34 nR_Rules ∈ TT := tt_t (i := 167) (by decide +kernel) (by decide +kernel)
theorem tt_168 : Cond.instantiable nR_Rules 6 ∈ TT := tt_t (i := 168) (by decide +kernel) (by decide +kernel)
theorem tt_169 : Cond.methodLinkNest nR_Room 36 nY_Rules_init "RoomClimate" ∈ TT := tt_t (i := 169) (by decide +kernel) (by decide +kernel)
theorem tt_170 : Cond.instanceMethod nY_Rules_init ∈ TT := tt_t (i := 170) (by decide +kernel) (by decide +kernel)
set_option maxRecDepth 100000 in
theorem tt_171 : Cond.code nY_Rules_init nC_Rules_init 1 none ∈ TT := tt_t (i := 171) (rfl) (by decide +kernel)
theorem tt_172 : Cond.methodLink nR_Rules 3 objectInit ∈ TT := tt_t (i := 172) (by decide +kernel) (by decide +kernel)
theorem tt_173 : Cond.classLink nR_Rules 24 "[[I" ∈ TT := tt_t (i := 173) (by decide +kernel) (by decide +kernel)
theorem tt_174 : Cond.arrayOver (.array .int) ∈ TT := tt_t (i := 174) (by decide +kernel) (by decide +kernel)
theorem tt_197 : Cond.classLink nR_Room 41 nR_Gauge ∈ TT := tt_t (i := 197) (by decide +kernel) (by decide +kernel)
theorem tt_198 : Cond.instantiable nR_Gauge 5 ∈ TT := tt_t (i := 198) (by decide +kernel) (by decide +kernel)
theorem tt_199 : Cond.methodLinkNest nR_Room 43 nY_Gauge_init "RoomClimate" ∈ TT := tt_t (i := 199) (by decide +kernel) (by decide +kernel)
theorem tt_200 : Cond.instanceMethod nY_Gauge_init ∈ TT := tt_t (i := 200) (by decide +kernel) (by decide +kernel)
set_option maxRecDepth 100000 in
theorem tt_201 : Cond.code nY_Gauge_init nC_Gauge_init 1 none ∈ TT := tt_t (i := 201) (rfl) (by decide +kernel)
theorem tt_202 : Cond.methodLink nR_Gauge 3 objectInit ∈ TT := tt_t (i := 202) (by decide +kernel) (by decide +kernel)
theorem nd_Steps_init_0 : decode nC_Steps_init 0 = .ok (.aload_n 0, 1) := by decide +kernel
theorem nd_Steps_init_1 : decode nC_Steps_init 1 = .ok (.invokespecial 1, 3) := by decide +kernel
theorem nd_Steps_init_4 : decode nC_Steps_init 4 = .ok (.aload_n 0, 1) := by decide +kernel
theorem nd_Steps_init_5 : decode nC_Steps_init 5 = .ok (.iload_n 1, 1) := by decide +kernel
theorem nd_Steps_init_6 : decode nC_Steps_init 6 = .ok (.newarray .int, 2) := by decide +kernel
theorem nd_Steps_init_8 : decode nC_Steps_init 8 = .ok (.putfield 7, 3) := by decide +kernel
theorem nd_Steps_init_11 : decode nC_Steps_init 11 = .ok (.aload_n 0, 1) := by decide +kernel
theorem nd_Steps_init_12 : decode nC_Steps_init 12 = .ok (.iload_n 1, 1) := by decide +kernel
theorem nd_Steps_init_13 : decode nC_Steps_init 13 = .ok (.newarray .int, 2) := by decide +kernel
theorem nd_Steps_init_15 : decode nC_Steps_init 15 = .ok (.putfield 13, 3) := by decide +kernel
theorem nd_Steps_init_18 : decode nC_Steps_init 18 = .ok (.aload_n 0, 1) := by decide +kernel
theorem nd_Steps_init_19 : decode nC_Steps_init 19 = .ok (.iconst 0, 1) := by decide +kernel
theorem nd_Steps_init_20 : decode nC_Steps_init 20 = .ok (.putfield 16, 3) := by decide +kernel
theorem nd_Steps_init_23 : decode nC_Steps_init 23 = .ok (.return_, 1) := by decide +kernel
theorem nd_Interior_init_0 : decode nC_Interior_init 0 = .ok (.aload_n 0, 1) := by decide +kernel
theorem nd_Interior_init_1 : decode nC_Interior_init 1 = .ok (.invokespecial 3, 3) := by decide +kernel
theorem nd_Interior_init_4 : decode nC_Interior_init 4 = .ok (.aload_n 0, 1) := by decide +kernel
theorem nd_Interior_init_5 : decode nC_Interior_init 5 = .ok (.iconst 5, 1) := by decide +kernel
theorem nd_Interior_init_6 : decode nC_Interior_init 6 = .ok (.newarray .long, 2) := by decide +kernel
theorem nd_Interior_init_8 : decode nC_Interior_init 8 = .ok (.putfield 9, 3) := by decide +kernel
theorem nd_Interior_init_11 : decode nC_Interior_init 11 = .ok (.aload_n 0, 1) := by decide +kernel
theorem nd_Interior_init_12 : decode nC_Interior_init 12 = .ok (.iconst 5, 1) := by decide +kernel
theorem nd_Interior_init_13 : decode nC_Interior_init 13 = .ok (.newarray .long, 2) := by decide +kernel
theorem nd_Interior_init_15 : decode nC_Interior_init 15 = .ok (.putfield 15, 3) := by decide +kernel
theorem nd_Interior_init_18 : decode nC_Interior_init 18 = .ok (.aload_n 0, 1) := by decide +kernel
theorem nd_Interior_init_19 : decode nC_Interior_init 19 = .ok (.bipush 100, 2) := by decide +kernel
theorem nd_Interior_init_21 : decode nC_Interior_init 21 = .ok (.putfield 18, 3) := by decide +kernel
theorem nd_Interior_init_24 : decode nC_Interior_init 24 = .ok (.aload_n 0, 1) := by decide +kernel
theorem nd_Interior_init_25 : decode nC_Interior_init 25 = .ok (.bipush 100, 2) := by decide +kernel
theorem nd_Interior_init_27 : decode nC_Interior_init 27 = .ok (.putfield 22, 3) := by decide +kernel
theorem nd_Interior_init_30 : decode nC_Interior_init 30 = .ok (.aload_n 0, 1) := by decide +kernel
theorem nd_Interior_init_31 : decode nC_Interior_init 31 = .ok (.aload_n 0, 1) := by decide +kernel
theorem nd_Interior_init_32 : decode nC_Interior_init 32 = .ok (.getfield 18, 3) := by decide +kernel
theorem nd_Interior_init_35 : decode nC_Interior_init 35 = .ok (.i2l, 1) := by decide +kernel
theorem nd_Interior_init_36 : decode nC_Interior_init 36 = .ok (.ldc2_w 25, 3) := by decide +kernel
theorem nd_Interior_init_39 : decode nC_Interior_init 39 = .ok (.lmul, 1) := by decide +kernel
theorem nd_Interior_init_40 : decode nC_Interior_init 40 = .ok (.putfield 27, 3) := by decide +kernel
theorem nd_Interior_init_43 : decode nC_Interior_init 43 = .ok (.aload_n 0, 1) := by decide +kernel
theorem nd_Interior_init_44 : decode nC_Interior_init 44 = .ok (.aload_n 0, 1) := by decide +kernel
theorem nd_Interior_init_45 : decode nC_Interior_init 45 = .ok (.getfield 18, 3) := by decide +kernel
theorem nd_Interior_init_48 : decode nC_Interior_init 48 = .ok (.i2l, 1) := by decide +kernel
theorem nd_Interior_init_49 : decode nC_Interior_init 49 = .ok (.ldc2_w 31, 3) := by decide +kernel
theorem nd_Interior_init_52 : decode nC_Interior_init 52 = .ok (.lmul, 1) := by decide +kernel
theorem nd_Interior_init_53 : decode nC_Interior_init 53 = .ok (.putfield 33, 3) := by decide +kernel
theorem nd_Interior_init_56 : decode nC_Interior_init 56 = .ok (.return_, 1) := by decide +kernel
theorem nd_Walls_init_0 : decode nC_Walls_init 0 = .ok (.aload_n 0, 1) := by decide +kernel
theorem nd_Walls_init_1 : decode nC_Walls_init 1 = .ok (.invokespecial 3, 3) := by decide +kernel
theorem nd_Walls_init_4 : decode nC_Walls_init 4 = .ok (.aload_n 0, 1) := by decide +kernel
theorem nd_Walls_init_5 : decode nC_Walls_init 5 = .ok (.iconst 5, 1) := by decide +kernel
theorem nd_Walls_init_6 : decode nC_Walls_init 6 = .ok (.newarray .int, 2) := by decide +kernel
theorem nd_Walls_init_8 : decode nC_Walls_init 8 = .ok (.putfield 9, 3) := by decide +kernel
theorem nd_Walls_init_11 : decode nC_Walls_init 11 = .ok (.aload_n 0, 1) := by decide +kernel
theorem nd_Walls_init_12 : decode nC_Walls_init 12 = .ok (.iconst 5, 1) := by decide +kernel
theorem nd_Walls_init_13 : decode nC_Walls_init 13 = .ok (.newarray .int, 2) := by decide +kernel
theorem nd_Walls_init_15 : decode nC_Walls_init 15 = .ok (.putfield 15, 3) := by decide +kernel
theorem nd_Walls_init_18 : decode nC_Walls_init 18 = .ok (.aload_n 0, 1) := by decide +kernel
theorem nd_Walls_init_19 : decode nC_Walls_init 19 = .ok (.iconst 5, 1) := by decide +kernel
theorem nd_Walls_init_20 : decode nC_Walls_init 20 = .ok (.newarray .long, 2) := by decide +kernel
theorem nd_Walls_init_22 : decode nC_Walls_init 22 = .ok (.putfield 18, 3) := by decide +kernel
theorem nd_Walls_init_25 : decode nC_Walls_init 25 = .ok (.aload_n 0, 1) := by decide +kernel
theorem nd_Walls_init_26 : decode nC_Walls_init 26 = .ok (.iconst 0, 1) := by decide +kernel
theorem nd_Walls_init_27 : decode nC_Walls_init 27 = .ok (.putfield 22, 3) := by decide +kernel
theorem nd_Walls_init_30 : decode nC_Walls_init 30 = .ok (.return_, 1) := by decide +kernel
theorem nd_Machines_init_0 : decode nC_Machines_init 0 = .ok (.aload_n 0, 1) := by decide +kernel
theorem nd_Machines_init_1 : decode nC_Machines_init 1 = .ok (.invokespecial 3, 3) := by decide +kernel
theorem nd_Machines_init_4 : decode nC_Machines_init 4 = .ok (.aload_n 0, 1) := by decide +kernel
theorem nd_Machines_init_5 : decode nC_Machines_init 5 = .ok (.iconst 4, 1) := by decide +kernel
theorem nd_Machines_init_6 : decode nC_Machines_init 6 = .ok (.newarray .int, 2) := by decide +kernel
theorem nd_Machines_init_8 : decode nC_Machines_init 8 = .ok (.putfield 9, 3) := by decide +kernel
theorem nd_Machines_init_11 : decode nC_Machines_init 11 = .ok (.aload_n 0, 1) := by decide +kernel
theorem nd_Machines_init_12 : decode nC_Machines_init 12 = .ok (.iconst 4, 1) := by decide +kernel
theorem nd_Machines_init_13 : decode nC_Machines_init 13 = .ok (.newarray .int, 2) := by decide +kernel
theorem nd_Machines_init_15 : decode nC_Machines_init 15 = .ok (.putfield 15, 3) := by decide +kernel
theorem nd_Machines_init_18 : decode nC_Machines_init 18 = .ok (.aload_n 0, 1) := by decide +kernel
theorem nd_Machines_init_19 : decode nC_Machines_init 19 = .ok (.iconst 4, 1) := by decide +kernel
theorem nd_Machines_init_20 : decode nC_Machines_init 20 = .ok (.newarray .int, 2) := by decide +kernel
theorem nd_Machines_init_22 : decode nC_Machines_init 22 = .ok (.putfield 18, 3) := by decide +kernel
theorem nd_Machines_init_25 : decode nC_Machines_init 25 = .ok (.aload_n 0, 1) := by decide +kernel
theorem nd_Machines_init_26 : decode nC_Machines_init 26 = .ok (.iconst 4, 1) := by decide +kernel
theorem nd_Machines_init_27 : decode nC_Machines_init 27 = .ok (.newarray .boolean, 2) := by decide +kernel
theorem nd_Machines_init_29 : decode nC_Machines_init 29 = .ok (.putfield 21, 3) := by decide +kernel
theorem nd_Machines_init_32 : decode nC_Machines_init 32 = .ok (.aload_n 0, 1) := by decide +kernel
theorem nd_Machines_init_33 : decode nC_Machines_init 33 = .ok (.iconst 4, 1) := by decide +kernel
theorem nd_Machines_init_34 : decode nC_Machines_init 34 = .ok (.newarray .boolean, 2) := by decide +kernel
theorem nd_Machines_init_36 : decode nC_Machines_init 36 = .ok (.putfield 25, 3) := by decide +kernel
theorem nd_Machines_init_39 : decode nC_Machines_init 39 = .ok (.return_, 1) := by decide +kernel
theorem nd_Goods_init_0 : decode nC_Goods_init 0 = .ok (.aload_n 0, 1) := by decide +kernel
theorem nd_Goods_init_1 : decode nC_Goods_init 1 = .ok (.invokespecial 3, 3) := by decide +kernel
theorem nd_Goods_init_4 : decode nC_Goods_init 4 = .ok (.aload_n 0, 1) := by decide +kernel
theorem nd_Goods_init_5 : decode nC_Goods_init 5 = .ok (.iconst 0, 1) := by decide +kernel
theorem nd_Goods_init_6 : decode nC_Goods_init 6 = .ok (.putfield 9, 3) := by decide +kernel
theorem nd_Goods_init_9 : decode nC_Goods_init 9 = .ok (.aload_n 0, 1) := by decide +kernel
theorem nd_Goods_init_10 : decode nC_Goods_init 10 = .ok (.lconst 0, 1) := by decide +kernel
theorem nd_Goods_init_11 : decode nC_Goods_init 11 = .ok (.putfield 15, 3) := by decide +kernel
theorem nd_Goods_init_14 : decode nC_Goods_init 14 = .ok (.aload_n 0, 1) := by decide +kernel
theorem nd_Goods_init_15 : decode nC_Goods_init 15 = .ok (.aload_n 1, 1) := by decide +kernel
theorem nd_Goods_init_16 : decode nC_Goods_init 16 = .ok (.putfield 19, 3) := by decide +kernel
theorem nd_Goods_init_19 : decode nC_Goods_init 19 = .ok (.return_, 1) := by decide +kernel
theorem nd_House_init_0 : decode nC_House_init 0 = .ok (.aload_n 0, 1) := by decide +kernel
theorem nd_House_init_1 : decode nC_House_init 1 = .ok (.invokespecial 1, 3) := by decide +kernel
theorem nd_House_init_4 : decode nC_House_init 4 = .ok (.aload_n 0, 1) := by decide +kernel
theorem nd_House_init_5 : decode nC_House_init 5 = .ok (.new 7, 3) := by decide +kernel
theorem nd_House_init_8 : decode nC_House_init 8 = .ok (.dup, 1) := by decide +kernel
theorem nd_House_init_9 : decode nC_House_init 9 = .ok (.invokespecial 9, 3) := by decide +kernel
theorem nd_House_init_12 : decode nC_House_init 12 = .ok (.putfield 10, 3) := by decide +kernel
theorem nd_House_init_15 : decode nC_House_init 15 = .ok (.aload_n 0, 1) := by decide +kernel
theorem nd_House_init_16 : decode nC_House_init 16 = .ok (.new 16, 3) := by decide +kernel
theorem nd_House_init_19 : decode nC_House_init 19 = .ok (.dup, 1) := by decide +kernel
theorem nd_House_init_20 : decode nC_House_init 20 = .ok (.invokespecial 18, 3) := by decide +kernel
theorem nd_House_init_23 : decode nC_House_init 23 = .ok (.putfield 19, 3) := by decide +kernel
theorem nd_House_init_26 : decode nC_House_init 26 = .ok (.aload_n 0, 1) := by decide +kernel
theorem nd_House_init_27 : decode nC_House_init 27 = .ok (.new 23, 3) := by decide +kernel
theorem nd_House_init_30 : decode nC_House_init 30 = .ok (.dup, 1) := by decide +kernel
theorem nd_House_init_31 : decode nC_House_init 31 = .ok (.invokespecial 25, 3) := by decide +kernel
theorem nd_House_init_34 : decode nC_House_init 34 = .ok (.putfield 26, 3) := by decide +kernel
theorem nd_House_init_37 : decode nC_House_init 37 = .ok (.aload_n 0, 1) := by decide +kernel
theorem nd_House_init_38 : decode nC_House_init 38 = .ok (.new 30, 3) := by decide +kernel
theorem nd_House_init_41 : decode nC_House_init 41 = .ok (.dup, 1) := by decide +kernel
theorem nd_House_init_42 : decode nC_House_init 42 = .ok (.aload_n 1, 1) := by decide +kernel
theorem nd_House_init_43 : decode nC_House_init 43 = .ok (.invokespecial 32, 3) := by decide +kernel
theorem nd_House_init_46 : decode nC_House_init 46 = .ok (.putfield 35, 3) := by decide +kernel
theorem nd_House_init_49 : decode nC_House_init 49 = .ok (.return_, 1) := by decide +kernel
theorem nd_Rules_init_0 : decode nC_Rules_init 0 = .ok (.aload_n 0, 1) := by decide +kernel
theorem nd_Rules_init_1 : decode nC_Rules_init 1 = .ok (.invokespecial 3, 3) := by decide +kernel
theorem nd_Rules_init_4 : decode nC_Rules_init 4 = .ok (.aload_n 0, 1) := by decide +kernel
theorem nd_Rules_init_5 : decode nC_Rules_init 5 = .ok (.iconst 4, 1) := by decide +kernel
theorem nd_Rules_init_6 : decode nC_Rules_init 6 = .ok (.newarray .int, 2) := by decide +kernel
theorem nd_Rules_init_8 : decode nC_Rules_init 8 = .ok (.putfield 9, 3) := by decide +kernel
theorem nd_Rules_init_11 : decode nC_Rules_init 11 = .ok (.aload_n 0, 1) := by decide +kernel
theorem nd_Rules_init_12 : decode nC_Rules_init 12 = .ok (.iconst 4, 1) := by decide +kernel
theorem nd_Rules_init_13 : decode nC_Rules_init 13 = .ok (.newarray .int, 2) := by decide +kernel
theorem nd_Rules_init_15 : decode nC_Rules_init 15 = .ok (.putfield 15, 3) := by decide +kernel
theorem nd_Rules_init_18 : decode nC_Rules_init 18 = .ok (.aload_n 0, 1) := by decide +kernel
theorem nd_Rules_init_19 : decode nC_Rules_init 19 = .ok (.iconst 4, 1) := by decide +kernel
theorem nd_Rules_init_20 : decode nC_Rules_init 20 = .ok (.newarray .int, 2) := by decide +kernel
theorem nd_Rules_init_22 : decode nC_Rules_init 22 = .ok (.putfield 18, 3) := by decide +kernel
theorem nd_Rules_init_25 : decode nC_Rules_init 25 = .ok (.aload_n 0, 1) := by decide +kernel
theorem nd_Rules_init_26 : decode nC_Rules_init 26 = .ok (.iconst 4, 1) := by decide +kernel
theorem nd_Rules_init_27 : decode nC_Rules_init 27 = .ok (.newarray .int, 2) := by decide +kernel
theorem nd_Rules_init_29 : decode nC_Rules_init 29 = .ok (.putfield 21, 3) := by decide +kernel
theorem nd_Rules_init_32 : decode nC_Rules_init 32 = .ok (.aload_n 0, 1) := by decide +kernel
theorem nd_Rules_init_33 : decode nC_Rules_init 33 = .ok (.iconst 4, 1) := by decide +kernel
theorem nd_Rules_init_34 : decode nC_Rules_init 34 = .ok (.sipush 300, 3) := by decide +kernel
theorem nd_Rules_init_37 : decode nC_Rules_init 37 = .ok (.multianewarray 24 2, 4) := by decide +kernel
theorem nd_Rules_init_41 : decode nC_Rules_init 41 = .ok (.putfield 26, 3) := by decide +kernel
theorem nd_Rules_init_44 : decode nC_Rules_init 44 = .ok (.aload_n 0, 1) := by decide +kernel
theorem nd_Rules_init_45 : decode nC_Rules_init 45 = .ok (.iconst 0, 1) := by decide +kernel
theorem nd_Rules_init_46 : decode nC_Rules_init 46 = .ok (.putfield 29, 3) := by decide +kernel
theorem nd_Rules_init_49 : decode nC_Rules_init 49 = .ok (.return_, 1) := by decide +kernel
theorem nd_Gauge_init_0 : decode nC_Gauge_init 0 = .ok (.aload_n 0, 1) := by decide +kernel
theorem nd_Gauge_init_1 : decode nC_Gauge_init 1 = .ok (.invokespecial 3, 3) := by decide +kernel
theorem nd_Gauge_init_4 : decode nC_Gauge_init 4 = .ok (.aload_n 0, 1) := by decide +kernel
theorem nd_Gauge_init_5 : decode nC_Gauge_init 5 = .ok (.sipush 300, 3) := by decide +kernel
theorem nd_Gauge_init_8 : decode nC_Gauge_init 8 = .ok (.newarray .int, 2) := by decide +kernel
theorem nd_Gauge_init_10 : decode nC_Gauge_init 10 = .ok (.putfield 9, 3) := by decide +kernel
theorem nd_Gauge_init_13 : decode nC_Gauge_init 13 = .ok (.aload_n 0, 1) := by decide +kernel
theorem nd_Gauge_init_14 : decode nC_Gauge_init 14 = .ok (.sipush 300, 3) := by decide +kernel
theorem nd_Gauge_init_17 : decode nC_Gauge_init 17 = .ok (.newarray .boolean, 2) := by decide +kernel
theorem nd_Gauge_init_19 : decode nC_Gauge_init 19 = .ok (.putfield 15, 3) := by decide +kernel
theorem nd_Gauge_init_22 : decode nC_Gauge_init 22 = .ok (.aload_n 0, 1) := by decide +kernel
theorem nd_Gauge_init_23 : decode nC_Gauge_init 23 = .ok (.sipush 300, 3) := by decide +kernel
theorem nd_Gauge_init_26 : decode nC_Gauge_init 26 = .ok (.newarray .int, 2) := by decide +kernel
theorem nd_Gauge_init_28 : decode nC_Gauge_init 28 = .ok (.putfield 19, 3) := by decide +kernel
theorem nd_Gauge_init_31 : decode nC_Gauge_init 31 = .ok (.aload_n 0, 1) := by decide +kernel
theorem nd_Gauge_init_32 : decode nC_Gauge_init 32 = .ok (.sipush 300, 3) := by decide +kernel
theorem nd_Gauge_init_35 : decode nC_Gauge_init 35 = .ok (.newarray .boolean, 2) := by decide +kernel
theorem nd_Gauge_init_37 : decode nC_Gauge_init 37 = .ok (.putfield 22, 3) := by decide +kernel
theorem nd_Gauge_init_40 : decode nC_Gauge_init 40 = .ok (.aload_n 0, 1) := by decide +kernel
theorem nd_Gauge_init_41 : decode nC_Gauge_init 41 = .ok (.iconst 0, 1) := by decide +kernel
theorem nd_Gauge_init_42 : decode nC_Gauge_init 42 = .ok (.putfield 25, 3) := by decide +kernel
theorem nd_Gauge_init_45 : decode nC_Gauge_init 45 = .ok (.return_, 1) := by decide +kernel
theorem nd_Room_init_0 : decode nC_Room_init 0 = .ok (.aload_n 0, 1) := by decide +kernel
theorem nd_Room_init_1 : decode nC_Room_init 1 = .ok (.invokespecial 1, 3) := by decide +kernel
theorem nd_Room_init_4 : decode nC_Room_init 4 = .ok (.new 7, 3) := by decide +kernel
theorem nd_Room_init_7 : decode nC_Room_init 7 = .ok (.dup, 1) := by decide +kernel
theorem nd_Room_init_8 : decode nC_Room_init 8 = .ok (.bipush 6, 2) := by decide +kernel
theorem nd_Room_init_10 : decode nC_Room_init 10 = .ok (.invokespecial 11, 3) := by decide +kernel
theorem nd_Room_init_13 : decode nC_Room_init 13 = .ok (.astore_n 1, 1) := by decide +kernel
theorem nd_Room_init_14 : decode nC_Room_init 14 = .ok (.aload_n 0, 1) := by decide +kernel
theorem nd_Room_init_15 : decode nC_Room_init 15 = .ok (.new 14, 3) := by decide +kernel
theorem nd_Room_init_18 : decode nC_Room_init 18 = .ok (.dup, 1) := by decide +kernel
theorem nd_Room_init_19 : decode nC_Room_init 19 = .ok (.aload_n 1, 1) := by decide +kernel
theorem nd_Room_init_20 : decode nC_Room_init 20 = .ok (.invokespecial 16, 3) := by decide +kernel
theorem nd_Room_init_23 : decode nC_Room_init 23 = .ok (.putfield 19, 3) := by decide +kernel
theorem nd_Room_init_26 : decode nC_Room_init 26 = .ok (.aload_n 0, 1) := by decide +kernel
theorem nd_Room_init_27 : decode nC_Room_init 27 = .ok (.new 14, 3) := by decide +kernel
theorem nd_Room_init_30 : decode nC_Room_init 30 = .ok (.dup, 1) := by decide +kernel
theorem nd_Room_init_31 : decode nC_Room_init 31 = .ok (.aload_n 1, 1) := by decide +kernel
theorem nd_Room_init_32 : decode nC_Room_init 32 = .ok (.invokespecial 16, 3) := by decide +kernel
theorem nd_Room_init_35 : decode nC_Room_init 35 = .ok (.putfield 23, 3) := by decide +kernel
theorem nd_Room_init_38 : decode nC_Room_init 38 = .ok (.aload_n 0, 1) := by decide +kernel
theorem nd_Room_init_39 : decode nC_Room_init 39 = .ok (.iconst 4, 1) := by decide +kernel
theorem nd_Room_init_40 : decode nC_Room_init 40 = .ok (.anewarray 7, 3) := by decide +kernel
theorem nd_Room_init_43 : decode nC_Room_init 43 = .ok (.putfield 26, 3) := by decide +kernel
theorem nd_Room_init_46 : decode nC_Room_init 46 = .ok (.iconst 0, 1) := by decide +kernel
theorem nd_Room_init_47 : decode nC_Room_init 47 = .ok (.istore_n 2, 1) := by decide +kernel
theorem nd_Room_init_48 : decode nC_Room_init 48 = .ok (.iload_n 2, 1) := by decide +kernel
theorem nd_Room_init_49 : decode nC_Room_init 49 = .ok (.iconst 4, 1) := by decide +kernel
theorem nd_Room_init_50 : decode nC_Room_init 50 = .ok (.if_icmp .ge 23, 3) := by decide +kernel
theorem nd_Room_init_53 : decode nC_Room_init 53 = .ok (.aload_n 0, 1) := by decide +kernel
theorem nd_Room_init_54 : decode nC_Room_init 54 = .ok (.getfield 26, 3) := by decide +kernel
theorem nd_Room_init_57 : decode nC_Room_init 57 = .ok (.iload_n 2, 1) := by decide +kernel
theorem nd_Room_init_58 : decode nC_Room_init 58 = .ok (.new 7, 3) := by decide +kernel
theorem nd_Room_init_61 : decode nC_Room_init 61 = .ok (.dup, 1) := by decide +kernel
theorem nd_Room_init_62 : decode nC_Room_init 62 = .ok (.iconst 5, 1) := by decide +kernel
theorem nd_Room_init_63 : decode nC_Room_init 63 = .ok (.invokespecial 11, 3) := by decide +kernel
theorem nd_Room_init_66 : decode nC_Room_init 66 = .ok (.aastore, 1) := by decide +kernel
theorem nd_Room_init_67 : decode nC_Room_init 67 = .ok (.iinc 2 1, 3) := by decide +kernel
theorem nd_Room_init_70 : decode nC_Room_init 70 = .ok (.goto (-22), 3) := by decide +kernel
theorem nd_Room_init_73 : decode nC_Room_init 73 = .ok (.aload_n 0, 1) := by decide +kernel
theorem nd_Room_init_74 : decode nC_Room_init 74 = .ok (.iconst 4, 1) := by decide +kernel
theorem nd_Room_init_75 : decode nC_Room_init 75 = .ok (.newarray .int, 2) := by decide +kernel
theorem nd_Room_init_77 : decode nC_Room_init 77 = .ok (.putfield 30, 3) := by decide +kernel
theorem nd_Room_init_80 : decode nC_Room_init 80 = .ok (.aload_n 0, 1) := by decide +kernel
theorem nd_Room_init_81 : decode nC_Room_init 81 = .ok (.new 34, 3) := by decide +kernel
theorem nd_Room_init_84 : decode nC_Room_init 84 = .ok (.dup, 1) := by decide +kernel
theorem nd_Room_init_85 : decode nC_Room_init 85 = .ok (.invokespecial 36, 3) := by decide +kernel
theorem nd_Room_init_88 : decode nC_Room_init 88 = .ok (.putfield 37, 3) := by decide +kernel
theorem nd_Room_init_91 : decode nC_Room_init 91 = .ok (.aload_n 0, 1) := by decide +kernel
theorem nd_Room_init_92 : decode nC_Room_init 92 = .ok (.new 41, 3) := by decide +kernel
theorem nd_Room_init_95 : decode nC_Room_init 95 = .ok (.dup, 1) := by decide +kernel
theorem nd_Room_init_96 : decode nC_Room_init 96 = .ok (.invokespecial 43, 3) := by decide +kernel
theorem nd_Room_init_99 : decode nC_Room_init 99 = .ok (.putfield 44, 3) := by decide +kernel
theorem nd_Room_init_102 : decode nC_Room_init 102 = .ok (.aload_n 0, 1) := by decide +kernel
theorem nd_Room_init_103 : decode nC_Room_init 103 = .ok (.iconst 0, 1) := by decide +kernel
theorem nd_Room_init_104 : decode nC_Room_init 104 = .ok (.putfield 48, 3) := by decide +kernel
theorem nd_Room_init_107 : decode nC_Room_init 107 = .ok (.return_, 1) := by decide +kernel
