/-! THE CLAIM OUT OF ONE WALK OF THE LAW'S BODY. Your part is whole_start (and what it stands on); all else here is the same for every law, but numbers. -/
def R_law : String := "RoomClimateLaw"
def lw_P (b : Addr) (xs : List Int32) (args : Array Value) (s : State) : Prop := args = #[.ref b] ∧ s.IntsAt b xs ∧ xs.length ≤ 2560 ∧ (Jvm.Cond.and given_1 narrow_1).before args s = true
def lw_Q (_ : Array Value) (s : State) (o : Outcome) (t : State) : Prop := o = .returned (some (.int 1)) ∧ Framed s o t [] 601024 7293034
def lw_Z (below : List Frame) (a : Array Value) (s : State) : State → Prop := fun t => ∃ o, t.status = .running ∧ Ended t below o ∧ lw_Q a s o t
/-- the law's own end, with 1 on the stack, nothing written that was there before, its room as the claim has it -/
theorem lw_ret {p : Program} {l : Launch} {e : Env} {s : State} {m : MethodId} {below : List Frame} {meth : Method} {c : Code} {b : Nat} (hx : p.tables.exec = Jvm.exec) (hb : c.code = code) (hr : meth.sig.returnType = ret) (hlocks : meth.locks = false) {pc : Nat} {H : Heap} {ls : Array Slot} (hdg : decode code pc = .ok (.ireturn, 1)) : W p l e room_1 s m #[Value.ref b] below meth c H [] 601024 7293034 (lw_Z below #[Value.ref b] s) (F0 m pc ls [.int 1]) := by
  intro T hT X
  obtain ⟨fs, hret, hrun, hended, hW, hframe⟩ := X.leave (v := some (.int 1)) (hlocks := hlocks) (fun h => by rw [hr] at h; cases h)
  have hmeth' : T.vm.method? m = some meth := X.method'
  refine ⟨T.setFrames fs, ?_, .returned (some (.int 1)), hrun, hended, rfl, ⟨_, rfl⟩, hW, hframe⟩
  jvm_step X.here [X.here.top, hx, hb, hdg, hmeth', hr, ret, narrow_b1]
  (try refine ⟨rfl, ?_⟩); (try refine ⟨rfl, ?_⟩)
  first | (intro acts; rw [hret _ acts rfl rfl rfl]) | rw [hret _ _ rfl rfl rfl]
  exact Steps.refl _
/-- what holds at the law's entry: the machine, the code, the tables' words (any of lw_tbl by 'hts w (by decide +kernel)'), the script of L ints xs at the cell b, what the Statement gives of the start (any of its parts by flat_of_before) -/
def lw_At (p : Program) (s : State) (m : MethodId) (meth : Method) (c : Code) (b L : Nat) (xs : Nat → Int32) : Prop :=
  p.tables.exec = Jvm.exec ∧ c.code = code ∧ meth.sig.returnType = ret ∧ c.maxLocals = 8 ∧ s.vm.findClass R_law = some m.cls ∧ (∀ w ∈ lw_tbl, w.before #[Value.ref b] s = true) ∧ va_X b L xs s s.heap ∧ b < s.heap.size ∧ meth.locks = false ∧ (Jvm.Cond.and given_1 narrow_1).before #[Value.ref b] s = true
theorem k_evH {s : State} {H : Heap} {locs : List Loc} (h : xt_ev s s.heap) (hS : va_S (fun q : Nat => s.heap.size ≤ q) s.heap H locs) : xt_ev s H := by
  obtain ⟨s0, h1, h2, h3⟩ := h
  refine ⟨s0, h1, fun q hq => ?_, h3⟩
  have hlt : q < s.heap.size := by
    have e := h2 q hq
    rw [Array.getElem?_eq_getElem hq] at e
    exact (Array.getElem?_eq_some_iff.mp e).1
  rw [hS.2.1 q hlt (Nat.not_le.mpr hlt)]
  exact h2 q hq
theorem k_sidx {n j : Nat} {jj : Int32} (hj : jj = nI j) : nI n + jj = nI (n + j) := by rw [hj]; exact nI_add n j
section KSL
variable {p : Program} {l : Launch} {e : Env} {R : Room} {s : State} {m : MethodId} {args : Array Value} {below : List Frame} {meth : Method} {c : Code} {H : Heap} {locs : List Loc} {cells slots : Nat} {Q : State → Prop}
variable {cc : ByteArray} {pc : Nat} {ls : Array Slot} {rest : List Value} {A : Nat → Prop} {H0 : Heap}
theorem k_sld (hexec : p.tables.exec = Jvm.exec) (hb : c.code = cc) {b L : Nat} {xs : Nat → Int32} (hX : va_X b L xs s H0) (hbl : b < H0.size) (hbA : ¬ A b) (hS : va_S A H0 H locs) {n j : Nat} {ix : Int32} (hi : ix = nI (n + j)) (hlt : n + j < L) (hL : L ≤ 2560) (hdg : decode cc pc = .ok (.iaload, 1))
    (kk : W p l e R s m args below meth c H locs cells slots Q (F0 m (pc + 1) ls (.int (xs (n + j)) :: rest))) : W p l e R s m args below meth c H locs cells slots Q (F0 m pc ls (.int ix :: .ref b :: rest)) := by
  subst hi
  refine va_sld hexec hb hX hbl hbA hS (vp_in_nI hlt (by omega)) hdg ?_
  rw [nI_clamp (by omega)]
  exact kk
end KSL
theorem tt_244 : Cond.methodLink nR_Law 115 nY_Room_degrees ∈ TT := tt_t (i := 244) (by decide +kernel) (by decide +kernel)
theorem tt_258 : Cond.methodLink nR_Law 119 nY_Room_damp ∈ TT := tt_t (i := 258) (by decide +kernel) (by decide +kernel)
theorem tt_266 : Cond.methodLink nR_Law 126 nY_Room_held ∈ TT := tt_t (i := 266) (by decide +kernel) (by decide +kernel)
theorem tt_270 : Cond.methodLink nR_Law 86 nY_Law_room ∈ TT := tt_t (i := 270) (by decide +kernel) (by decide +kernel)
theorem tt_349 : Cond.methodLink nR_Law 96 nY_Law_wall ∈ TT := tt_t (i := 349) (by decide +kernel) (by decide +kernel)
theorem tt_381 : Cond.methodLink nR_Law 100 nY_Law_goods ∈ TT := tt_t (i := 381) (by decide +kernel) (by decide +kernel)
theorem tt_388 : Cond.methodLink nR_Law 104 nY_Law_row ∈ TT := tt_t (i := 388) (by decide +kernel) (by decide +kernel)
theorem tt_408 : Cond.methodLink nR_Law 107 nY_Law_machine ∈ TT := tt_t (i := 408) (by decide +kernel) (by decide +kernel)
theorem tt_441 : Cond.methodLink nR_Law 111 nY_Law_hour ∈ TT := tt_t (i := 441) (by decide +kernel) (by decide +kernel)
theorem tt_539 : Cond.methodLink nR_Law 123 nY_Law_layer ∈ TT := tt_t (i := 539) (by decide +kernel) (by decide +kernel)
theorem tt_547 : Cond.methodLink nR_Law 130 nY_Law_on ∈ TT := tt_t (i := 547) (by decide +kernel) (by decide +kernel)
theorem tt_554 : Cond.methodLink nR_Law 133 nY_Law_book ∈ TT := tt_t (i := 554) (by decide +kernel) (by decide +kernel)
theorem tt_561 : Cond.methodLink nR_Law 136 nY_Law_dew ∈ TT := tt_t (i := 561) (by decide +kernel) (by decide +kernel)
theorem tt_571 : Cond.methodLink nR_Law 139 nY_Law_risk ∈ TT := tt_t (i := 571) (by decide +kernel) (by decide +kernel)
theorem tt_578 : Cond.methodLink nR_Law 142 nY_Law_points ∈ TT := tt_t (i := 578) (by decide +kernel) (by decide +kernel)
theorem tt_585 : Cond.methodLink nR_Law 145 nY_Law_rule ∈ TT := tt_t (i := 585) (by decide +kernel) (by decide +kernel)
theorem tt_596 : Cond.methodLink nR_Law 148 nY_Law_alarm ∈ TT := tt_t (i := 596) (by decide +kernel) (by decide +kernel)
theorem tt_604 : Cond.methodLink nR_Law 151 nY_Law_sensor ∈ TT := tt_t (i := 604) (by decide +kernel) (by decide +kernel)
theorem tt_616 : Cond.methodLink nR_Law 154 nY_Law_check ∈ TT := tt_t (i := 616) (by decide +kernel) (by decide +kernel)
theorem tt_628 : Cond.methodLink nR_Law 157 nY_Law_corrected ∈ TT := tt_t (i := 628) (by decide +kernel) (by decide +kernel)
theorem tt_653 : Cond.methodLink nR_Law 160 nY_Law_silent ∈ TT := tt_t (i := 653) (by decide +kernel) (by decide +kernel)
theorem tt_664 : Cond.methodLink nR_Law 163 nY_Law_plan ∈ TT := tt_t (i := 664) (by decide +kernel) (by decide +kernel)
theorem tt_706 : Cond.methodLink nR_Law 166 nY_Law_count ∈ TT := tt_t (i := 706) (by decide +kernel) (by decide +kernel)
theorem tt_820 : Cond.methodLink nR_Law 92 nY_Model_thrown ∈ TT := tt_t (i := 820) (by decide +kernel) (by decide +kernel)
theorem tt_824 : Cond.methodLink nR_Law 91 nY_Model_room ∈ TT := tt_t (i := 824) (by decide +kernel) (by decide +kernel)
theorem tt_835 : Cond.methodLink nR_Law 99 nY_Model_wall ∈ TT := tt_t (i := 835) (by decide +kernel) (by decide +kernel)
theorem tt_840 : Cond.methodLink nR_Law 103 nY_Model_goods ∈ TT := tt_t (i := 840) (by decide +kernel) (by decide +kernel)
theorem tt_844 : Cond.methodLink nR_Law 106 nY_Model_row ∈ TT := tt_t (i := 844) (by decide +kernel) (by decide +kernel)
theorem tt_849 : Cond.methodLink nR_Law 110 nY_Model_machine ∈ TT := tt_t (i := 849) (by decide +kernel) (by decide +kernel)
theorem tt_858 : Cond.methodLink nR_Law 114 nY_Model_hour ∈ TT := tt_t (i := 858) (by decide +kernel) (by decide +kernel)
theorem tt_920 : Cond.methodLink nR_Law 118 nY_Model_degrees ∈ TT := tt_t (i := 920) (by decide +kernel) (by decide +kernel)
theorem tt_924 : Cond.methodLink nR_Law 122 nY_Model_damp ∈ TT := tt_t (i := 924) (by decide +kernel) (by decide +kernel)
theorem tt_928 : Cond.methodLink nR_Law 125 nY_Model_layer ∈ TT := tt_t (i := 928) (by decide +kernel) (by decide +kernel)
theorem tt_936 : Cond.methodLink nR_Law 129 nY_Model_held ∈ TT := tt_t (i := 936) (by decide +kernel) (by decide +kernel)
theorem tt_940 : Cond.methodLink nR_Law 132 nY_Model_on ∈ TT := tt_t (i := 940) (by decide +kernel) (by decide +kernel)
theorem tt_944 : Cond.methodLink nR_Law 135 nY_Model_book ∈ TT := tt_t (i := 944) (by decide +kernel) (by decide +kernel)
theorem tt_948 : Cond.methodLink nR_Law 138 nY_Model_dew ∈ TT := tt_t (i := 948) (by decide +kernel) (by decide +kernel)
theorem tt_952 : Cond.methodLink nR_Law 141 nY_Model_risk ∈ TT := tt_t (i := 952) (by decide +kernel) (by decide +kernel)
theorem tt_956 : Cond.methodLink nR_Law 144 nY_Model_points ∈ TT := tt_t (i := 956) (by decide +kernel) (by decide +kernel)
theorem tt_960 : Cond.methodLink nR_Law 147 nY_Model_rule ∈ TT := tt_t (i := 960) (by decide +kernel) (by decide +kernel)
theorem tt_964 : Cond.methodLink nR_Law 150 nY_Model_alarm ∈ TT := tt_t (i := 964) (by decide +kernel) (by decide +kernel)
theorem tt_968 : Cond.methodLink nR_Law 153 nY_Model_sensor ∈ TT := tt_t (i := 968) (by decide +kernel) (by decide +kernel)
theorem tt_977 : Cond.methodLink nR_Law 156 nY_Model_check ∈ TT := tt_t (i := 977) (by decide +kernel) (by decide +kernel)
theorem tt_981 : Cond.methodLink nR_Law 159 nY_Model_corrected ∈ TT := tt_t (i := 981) (by decide +kernel) (by decide +kernel)
theorem tt_985 : Cond.methodLink nR_Law 162 nY_Model_silent ∈ TT := tt_t (i := 985) (by decide +kernel) (by decide +kernel)
theorem tt_989 : Cond.methodLink nR_Law 165 nY_Model_plan ∈ TT := tt_t (i := 989) (by decide +kernel) (by decide +kernel)
theorem tt_999 : Cond.methodLink nR_Law 168 nY_Model_count ∈ TT := tt_t (i := 999) (by decide +kernel) (by decide +kernel)
