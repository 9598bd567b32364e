def rm_Gauge_sense : Room := { frames := 0, cells := 0, slots := 0, locals := 0 }
theorem kc_Gauge_sense : k_cal nY_Gauge_sense nC_Gauge_sense 3 none 2 := ⟨tt_615, tt_9, by decide +kernel⟩
theorem kv_Gauge_sense : k_vir nY_Gauge_sense := ⟨tt_613, tt_614⟩
set_option maxHeartbeats 4000000 in
set_option maxRecDepth 100000 in
theorem cn_Gauge_sense (l : Launch) (D : va_G) (ca : Nat → ClassId) (qa0 qvalues qsensed qrights qchecked : Nat) (checks_ : Int32) (values_ : Nat → Int32) (sensed_ : Nat → Int32) (x1 : Int32) (x2 : Int32) (R0 : Nat → Int32) (R1 : Nat → Int32) (hR : fn_Gauge_sense values_ sensed_ x1 x2 = some (R0, R1)) (sz : Nat) : Met l nY_Gauge_sense (Cond.code nY_Gauge_sense nC_Gauge_sense 3 none :: TT) rm_Gauge_sense (wr_P [.ref qa0, .int x1, .int x2] D ca [oc_Gauge qa0 qvalues qsensed qrights qchecked checks_, aI qvalues ca 300 values_, aZ qsensed ca 300 sensed_] sz) (va_Qv (fun (_ : Unit) => True) (wr_B D [oc_Gauge qa0 qvalues qsensed qrights qchecked checks_, aI qvalues ca 300 values_, aZ qsensed ca 300 sensed_] sz [oc_Gauge qa0 qvalues qsensed qrights qchecked checks_, aI qvalues ca 300 R0, aZ qsensed ca 300 R1]) (va_A [oc_Gauge qa0 qvalues qsensed qrights qchecked checks_, aI qvalues ca 300 values_, aZ qsensed ca 300 sensed_] sz)) 0 0 (va_A [oc_Gauge qa0 qvalues qsensed qrights qchecked checks_, aI qvalues ca 300 values_, aZ qsensed ca 300 sensed_] sz) := by
  refine wr_ofV (R := (R0, R1)) (w1 := fun r : (Nat → Int32) × (Nat → Int32) => [oc_Gauge qa0 qvalues qsensed qrights qchecked checks_, aI qvalues ca 300 r.1, aZ qsensed ca 300 r.2]) (by decide +kernel) (Nat.le_of_ble_eq_true rfl) ?_
  intro p e s m below meth c Q ar ls hx hb hml hts hown hP hK A hD hA hl hret
  have hS : va_S A s.heap s.heap [] := va_S.rf
  have hown : s.vm.findClass nR_Gauge = some m.cls := hown
  have hl : lv_has ls 3 [(0, .ref qa0), (1, .int x1), (2, .int x2)] := hl
  unfold fn_Gauge_sense at hR
  refine lv_aload_n hx hb nd_Gauge_sense_0 rfl (lv_at hl 0 rfl) ?_
  refine va_get (D := D) (ci := 0) (v := .ref qvalues) (C := nR_Gauge) (T := nT_Gauge) (N := 5) hx hb hts ni_Gauge hown hK hP 0 rfl rfl 0 (by decide) (hts (.fieldLink nR_Gauge 9 "RoomClimate$Gauge" "values" "[I") tt_203) (fun _ h9 => h9) rfl nd_Gauge_sense_1 ?_
  refine lv_iload_n hx hb nd_Gauge_sense_4 rfl (lv_at hl 1 rfl) ?_
  refine lv_iload_n hx hb nd_Gauge_sense_5 rfl (lv_at hl 2 rfl) ?_
  obtain ⟨h1, hR⟩ := q_ix hR
  refine va_iast hx hb hK hP hD hS 1 0 rfl rfl h1 nd_Gauge_sense_6 (fun H locs hP hD hS => ?_)
  have hP : va_P D vwCl [oc_Gauge qa0 qvalues qsensed qrights qchecked checks_, aI qvalues ca 300 (upd values_ x1.toNatClampNeg x2), aZ qsensed ca 300 sensed_] H := hP
  have hD : va_D A [oc_Gauge qa0 qvalues qsensed qrights qchecked checks_, aI qvalues ca 300 (upd values_ x1.toNatClampNeg x2), aZ qsensed ca 300 sensed_] := hD
  refine lv_aload_n hx hb nd_Gauge_sense_7 rfl (lv_at hl 0 rfl) ?_
  refine va_get (D := D) (ci := 0) (v := .ref qsensed) (C := nR_Gauge) (T := nT_Gauge) (N := 5) hx hb hts ni_Gauge hown hK hP 0 rfl rfl 1 (by decide) (hts (.fieldLink nR_Gauge 15 "RoomClimate$Gauge" "sensed" "[Z") tt_205) (fun _ h9 => h9) rfl nd_Gauge_sense_8 ?_
  refine lv_iload_n hx hb nd_Gauge_sense_11 rfl (lv_at hl 1 rfl) ?_
  refine lv_iconst (v := 1) hx hb nd_Gauge_sense_12 (by decide) ?_
  refine va_zast hx hb hK hP hD hS 2 2 rfl rfl h1 nd_Gauge_sense_13 (fun H locs hP hD hS => ?_)
  have hP : va_P D vwCl [oc_Gauge qa0 qvalues qsensed qrights qchecked checks_, aI qvalues ca 300 (upd values_ x1.toNatClampNeg x2), aZ qsensed ca 300 (upd sensed_ x1.toNatClampNeg (vp_nar .boolean (1 : Int32)))] H := hP
  have hD : va_D A [oc_Gauge qa0 qvalues qsensed qrights qchecked checks_, aI qvalues ca 300 (upd values_ x1.toNatClampNeg x2), aZ qsensed ca 300 (upd sensed_ x1.toNatClampNeg (vp_nar .boolean (1 : Int32)))] := hD
  exact hret (upd values_ x1.toNatClampNeg x2, upd sensed_ x1.toNatClampNeg (vp_nar .boolean (1 : Int32))) _ _ _ _ nd_Gauge_sense_14 hR hP hD hS
def rm_Gauge_compare : Room := { frames := 0, cells := 0, slots := 0, locals := 0 }
theorem kc_Gauge_compare : k_cal nY_Gauge_compare nC_Gauge_compare 3 none 2 := ⟨tt_627, tt_9, by decide +kernel⟩
theorem kv_Gauge_compare : k_vir nY_Gauge_compare := ⟨tt_625, tt_626⟩
set_option maxHeartbeats 4000000 in
set_option maxRecDepth 100000 in
theorem cn_Gauge_compare (l : Launch) (D : va_G) (ca : Nat → ClassId) (qa0 qvalues qsensed qrights qchecked : Nat) (checks_ : Int32) (checked_ : Nat → Int32) (rights_ : Nat → Int32) (x1 : Int32) (x2 : Int32) (R0 : Int32) (R1 : Nat → Int32) (R2 : Nat → Int32) (hR : fn_Gauge_compare checks_ checked_ rights_ x1 x2 = some (R0, R1, R2)) (sz : Nat) : Met l nY_Gauge_compare (Cond.code nY_Gauge_compare nC_Gauge_compare 3 none :: TT) rm_Gauge_compare (wr_P [.ref qa0, .int x1, .int x2] D ca [oc_Gauge qa0 qvalues qsensed qrights qchecked checks_, aZ qchecked ca 300 checked_, aI qrights ca 300 rights_] sz) (va_Qv (fun (_ : Unit) => True) (wr_B D [oc_Gauge qa0 qvalues qsensed qrights qchecked checks_, aZ qchecked ca 300 checked_, aI qrights ca 300 rights_] sz [oc_Gauge qa0 qvalues qsensed qrights qchecked R0, aZ qchecked ca 300 R2, aI qrights ca 300 R1]) (va_A [oc_Gauge qa0 qvalues qsensed qrights qchecked checks_, aZ qchecked ca 300 checked_, aI qrights ca 300 rights_] sz)) 0 0 (va_A [oc_Gauge qa0 qvalues qsensed qrights qchecked checks_, aZ qchecked ca 300 checked_, aI qrights ca 300 rights_] sz) := by
  refine wr_ofV (R := (R0, R1, R2)) (w1 := fun r : Int32 × (Nat → Int32) × (Nat → Int32) => [oc_Gauge qa0 qvalues qsensed qrights qchecked r.1, aZ qchecked ca 300 r.2.2, aI qrights ca 300 r.2.1]) (by decide +kernel) (Nat.le_of_ble_eq_true rfl) ?_
  intro p e s m below meth c Q ar ls hx hb hml hts hown hP hK A hD hA hl hret
  have hS : va_S A s.heap s.heap [] := va_S.rf
  have hown : s.vm.findClass nR_Gauge = some m.cls := hown
  have hl : lv_has ls 3 [(0, .ref qa0), (1, .int x1), (2, .int x2)] := hl
  unfold fn_Gauge_compare at hR
  refine lv_aload_n hx hb nd_Gauge_compare_0 rfl (lv_at hl 0 rfl) ?_
  refine va_get (D := D) (ci := 0) (v := .ref qchecked) (C := nR_Gauge) (T := nT_Gauge) (N := 5) hx hb hts ni_Gauge hown hK hP 0 rfl rfl 3 (by decide) (hts (.fieldLink nR_Gauge 22 "RoomClimate$Gauge" "checked" "[Z") tt_208) (fun _ h9 => h9) rfl nd_Gauge_compare_1 ?_
  refine lv_iload_n hx hb nd_Gauge_compare_4 rfl (lv_at hl 1 rfl) ?_
  obtain ⟨h1, hR⟩ := q_ix hR
  refine va_zald hx hb hK hP 1 2 rfl rfl h1 nd_Gauge_compare_5 ?_
  obtain ⟨j3_0, hJ3, hR⟩ := q_b1 hR
  have hN3 : ∀ (H : Heap) (locs : List Loc) (ls : Array Slot), va_P D vwCl [oc_Gauge qa0 qvalues qsensed qrights qchecked j3_0, aZ qchecked ca 300 checked_, aI qrights ca 300 rights_] H → va_D A [oc_Gauge qa0 qvalues qsensed qrights qchecked j3_0, aZ qchecked ca 300 checked_, aI qrights ca 300 rights_] → va_S A s.heap H locs → lv_has ls 3 [(0, .ref qa0), (1, .int x1), (2, .int x2)] → W p l e rm_Gauge_compare s m ar below meth c H locs 0 0 Q (F0 m 19 ls []) := by
    intro H locs ls hP hD hS hl
    refine lv_aload_n hx hb nd_Gauge_compare_19 rfl (lv_at hl 0 rfl) ?_
    refine va_get (D := D) (ci := 0) (v := .ref qrights) (C := nR_Gauge) (T := nT_Gauge) (N := 5) hx hb hts ni_Gauge hown hK hP 0 rfl rfl 2 (by decide) (hts (.fieldLink nR_Gauge 19 "RoomClimate$Gauge" "rights" "[I") tt_207) (fun _ h9 => h9) rfl nd_Gauge_compare_20 ?_
    refine lv_iload_n hx hb nd_Gauge_compare_23 rfl (lv_at hl 1 rfl) ?_
    refine lv_iload_n hx hb nd_Gauge_compare_24 rfl (lv_at hl 2 rfl) ?_
    refine va_iast hx hb hK hP hD hS 2 0 rfl rfl h1 nd_Gauge_compare_25 (fun H locs hP hD hS => ?_)
    have hP : va_P D vwCl [oc_Gauge qa0 qvalues qsensed qrights qchecked j3_0, aZ qchecked ca 300 checked_, aI qrights ca 300 (upd rights_ x1.toNatClampNeg x2)] H := hP
    have hD : va_D A [oc_Gauge qa0 qvalues qsensed qrights qchecked j3_0, aZ qchecked ca 300 checked_, aI qrights ca 300 (upd rights_ x1.toNatClampNeg x2)] := hD
    refine lv_aload_n hx hb nd_Gauge_compare_26 rfl (lv_at hl 0 rfl) ?_
    refine va_get (D := D) (ci := 0) (v := .ref qchecked) (C := nR_Gauge) (T := nT_Gauge) (N := 5) hx hb hts ni_Gauge hown hK hP 0 rfl rfl 3 (by decide) (hts (.fieldLink nR_Gauge 22 "RoomClimate$Gauge" "checked" "[Z") tt_208) (fun _ h9 => h9) rfl nd_Gauge_compare_27 ?_
    refine lv_iload_n hx hb nd_Gauge_compare_30 rfl (lv_at hl 1 rfl) ?_
    refine lv_iconst (v := 1) hx hb nd_Gauge_compare_31 (by decide) ?_
    refine va_zast hx hb hK hP hD hS 1 2 rfl rfl h1 nd_Gauge_compare_32 (fun H locs hP hD hS => ?_)
    have hP : va_P D vwCl [oc_Gauge qa0 qvalues qsensed qrights qchecked j3_0, aZ qchecked ca 300 (upd checked_ x1.toNatClampNeg (vp_nar .boolean (1 : Int32))), aI qrights ca 300 (upd rights_ x1.toNatClampNeg x2)] H := hP
    have hD : va_D A [oc_Gauge qa0 qvalues qsensed qrights qchecked j3_0, aZ qchecked ca 300 (upd checked_ x1.toNatClampNeg (vp_nar .boolean (1 : Int32))), aI qrights ca 300 (upd rights_ x1.toNatClampNeg x2)] := hD
    exact hret (j3_0, upd rights_ x1.toNatClampNeg x2, upd checked_ x1.toNatClampNeg (vp_nar .boolean (1 : Int32))) _ _ _ _ nd_Gauge_compare_33 hR hP hD hS
  refine lv_if_ne (tgt := 19) hx hb nd_Gauge_compare_6 (by decide) (fun c2 => ?_) (fun c2 => ?_)
  · have hR := q_n c2 hJ3
    cases hR
    exact hN3 _ _ _ hP hD hS (lv_sub hl [0, 1, 2] rfl)
  · have hR := q_p c2 hJ3
    refine lv_aload_n hx hb nd_Gauge_compare_9 rfl (lv_at hl 0 rfl) ?_
    refine lv_dup hx hb nd_Gauge_compare_10 rfl ?_
    refine va_get (D := D) (ci := 0) (v := .int checks_) (C := nR_Gauge) (T := nT_Gauge) (N := 5) hx hb hts ni_Gauge hown hK hP 0 rfl rfl 4 (by decide) (hts (.fieldLink nR_Gauge 25 "RoomClimate$Gauge" "checks" "I") tt_209) (fun _ h9 => h9) rfl nd_Gauge_compare_11 ?_
    refine lv_iconst (v := 1) hx hb nd_Gauge_compare_14 (by decide) ?_
    refine lv_iadd hx hb nd_Gauge_compare_15 ?_
    refine va_put (D := D) (ci := 0) (v := .int (checks_ + (1 : Int32))) (ty := .int) (C := nR_Gauge) (T := nT_Gauge) (N := 5) hx hb hts ni_Gauge nt_Gauge nt_Gauge_ok nn_Gauge hown hK hP hD hS 0 rfl rfl 4 (by decide) (hts (.fieldLink nR_Gauge 25 "RoomClimate$Gauge" "checks" "I") tt_209) (fun _ h9 => h9) rfl (by decide +kernel) rfl rfl (Nat.le_of_ble_eq_true rfl) nd_Gauge_compare_16 (fun H locs hP hD hS => ?_)
    have hP : va_P D vwCl [oc_Gauge qa0 qvalues qsensed qrights qchecked (checks_ + (1 : Int32)), aZ qchecked ca 300 checked_, aI qrights ca 300 rights_] H := hP
    have hD : va_D A [oc_Gauge qa0 qvalues qsensed qrights qchecked (checks_ + (1 : Int32)), aZ qchecked ca 300 checked_, aI qrights ca 300 rights_] := hD
    cases hR
    exact hN3 _ _ _ hP hD hS (lv_sub hl [0, 1, 2] rfl)
def rm_Gauge_lastCheckUpTo : Room := { frames := 0, cells := 0, slots := 0, locals := 0 }
theorem kc_Gauge_lastCheckUpTo : k_cal nY_Gauge_lastCheckUpTo nC_Gauge_lastCheckUpTo 3 (some .int) 1 := ⟨tt_642, tt_9, by decide +kernel⟩
theorem kv_Gauge_lastCheckUpTo : k_vir nY_Gauge_lastCheckUpTo := ⟨tt_641, tp_5⟩
set_option maxHeartbeats 4000000 in
set_option maxRecDepth 100000 in
theorem cn_Gauge_lastCheckUpTo (l : Launch) (D : va_G) (ca : Nat → ClassId) (qa0 qvalues qsensed qrights qchecked : Nat) (checks_ : Int32) (checked_ : Nat → Int32) (x1 : Int32) (R0 : Int32) (hR : fn_Gauge_lastCheckUpTo checked_ x1 = some R0) : Met l nY_Gauge_lastCheckUpTo (Cond.code nY_Gauge_lastCheckUpTo nC_Gauge_lastCheckUpTo 3 (some .int) :: TT) rm_Gauge_lastCheckUpTo (rd_P [.ref qa0, .int x1] D ca [oc_Gauge qa0 qvalues qsensed qrights qchecked checks_, aZ qchecked ca 300 checked_]) (vp_Si (fun x => x = R0)) 0 0 (fun _ => False) := by
  refine rd_ofI (by decide +kernel) (Nat.le_of_ble_eq_true rfl) ?_
  intro p e s m below meth c Q ar ls hx hb hml hts hown hP hK hl hret
  have hown : s.vm.findClass nR_Gauge = some m.cls := hown
  have hl : lv_has ls 3 [(0, .ref qa0), (1, .int x1)] := hl
  unfold fn_Gauge_lastCheckUpTo at hR
  refine lv_iload_n hx hb nd_Gauge_lastCheckUpTo_0 rfl (lv_at hl 1 rfl) ?_
  refine lv_istore_n (lv' := [(2, .int x1), (0, .ref qa0), (1, .int x1)]) hx hb nd_Gauge_lastCheckUpTo_1 rfl hl (by decide) rfl (fun ls hl => ?_)
  have hL2 : ∀ (n2 : Nat) (i2_2 : Int32) (ls : Array Slot), fn_Gauge_lastCheckUpTo_L2 checked_ n2 i2_2 = some R0 → lv_has ls 3 [(0, .ref qa0), (1, .int x1), (2, .int i2_2)] → W p l e rm_Gauge_lastCheckUpTo s m ar below meth c s.heap [] 0 0 Q (F0 m 2 ls []) := by
    intro n2
    induction n2 with
    | zero => intro i2_2 ls hR; exact nomatch hR
    | succ n2 ih2 =>
      intro i2_2 ls hR  hl
      rw [fn_Gauge_lastCheckUpTo_L2] at hR
      refine lv_iload_n hx hb nd_Gauge_lastCheckUpTo_2 rfl (lv_at hl 2 rfl) ?_
      refine lv_if_lt (tgt := 23) hx hb nd_Gauge_lastCheckUpTo_3 (by decide) (fun c1 => ?_) (fun c1 => ?_)
      · replace hR := q_p c1 hR
        refine lv_iconst (v := -1) hx hb nd_Gauge_lastCheckUpTo_23 (by decide) ?_
        exact hret _ _ _ nd_Gauge_lastCheckUpTo_24 (Option.some.inj hR)
      · replace hR := q_n c1 hR
        refine lv_aload_n hx hb nd_Gauge_lastCheckUpTo_6 rfl (lv_at hl 0 rfl) ?_
        refine va_get (D := D) (ci := 0) (v := .ref qchecked) (C := nR_Gauge) (T := nT_Gauge) (N := 5) hx hb hts ni_Gauge hown hK hP 0 rfl rfl 3 (by decide) (hts (.fieldLink nR_Gauge 22 "RoomClimate$Gauge" "checked" "[Z") tt_208) (fun _ h9 => h9) rfl nd_Gauge_lastCheckUpTo_7 ?_
        refine lv_iload_n hx hb nd_Gauge_lastCheckUpTo_10 rfl (lv_at hl 2 rfl) ?_
        obtain ⟨h2, hR⟩ := q_ix hR
        refine va_zald hx hb hK hP 1 2 rfl rfl h2 nd_Gauge_lastCheckUpTo_11 ?_
        refine lv_if_eq (tgt := 17) hx hb nd_Gauge_lastCheckUpTo_12 (by decide) (fun c3 => ?_) (fun c3 => ?_)
        · replace hR := q_p c3 hR
          refine lv_iinc (v := i2_2 + (-1)) (lv' := [(2, .int (i2_2 + (-1))), (0, .ref qa0), (1, .int x1)]) hx hb nd_Gauge_lastCheckUpTo_17 hl (k := 2) rfl (by first | rfl | decide) (by decide) rfl (fun ls hl => ?_)
          refine lv_goto (tgt := 2) hx hb nd_Gauge_lastCheckUpTo_20 (by decide) ?_
          exact ih2 (i2_2 + (-1)) _ hR  (lv_sub hl [1, 2, 0] rfl)
        · replace hR := q_n c3 hR
          refine lv_iload_n hx hb nd_Gauge_lastCheckUpTo_15 rfl (lv_at hl 2 rfl) ?_
          exact hret _ _ _ nd_Gauge_lastCheckUpTo_16 (Option.some.inj hR)
  exact hL2 400 x1 _ hR  (lv_sub hl [1, 2, 0] rfl)
def rm_Gauge_firstCheckFrom : Room := { frames := 0, cells := 0, slots := 0, locals := 0 }
theorem kc_Gauge_firstCheckFrom : k_cal nY_Gauge_firstCheckFrom nC_Gauge_firstCheckFrom 4 (some .int) 2 := ⟨tt_646, tt_9, by decide +kernel⟩
theorem kv_Gauge_firstCheckFrom : k_vir nY_Gauge_firstCheckFrom := ⟨tt_645, tp_6⟩
set_option maxHeartbeats 4000000 in
set_option maxRecDepth 100000 in
theorem cn_Gauge_firstCheckFrom (l : Launch) (D : va_G) (ca : Nat → ClassId) (qa0 qvalues qsensed qrights qchecked : Nat) (checks_ : Int32) (checked_ : Nat → Int32) (x1 : Int32) (x2 : Int32) (R0 : Int32) (hR : fn_Gauge_firstCheckFrom checked_ x1 x2 = some R0) : Met l nY_Gauge_firstCheckFrom (Cond.code nY_Gauge_firstCheckFrom nC_Gauge_firstCheckFrom 4 (some .int) :: TT) rm_Gauge_firstCheckFrom (rd_P [.ref qa0, .int x1, .int x2] D ca [oc_Gauge qa0 qvalues qsensed qrights qchecked checks_, aZ qchecked ca 300 checked_]) (vp_Si (fun x => x = R0)) 0 0 (fun _ => False) := by
  refine rd_ofI (by decide +kernel) (Nat.le_of_ble_eq_true rfl) ?_
  intro p e s m below meth c Q ar ls hx hb hml hts hown hP hK hl hret
  have hown : s.vm.findClass nR_Gauge = some m.cls := hown
  have hl : lv_has ls 4 [(0, .ref qa0), (1, .int x1), (2, .int x2)] := hl
  unfold fn_Gauge_firstCheckFrom at hR
  refine lv_iload_n hx hb nd_Gauge_firstCheckFrom_0 rfl (lv_at hl 1 rfl) ?_
  refine lv_istore_n (lv' := [(3, .int x1), (0, .ref qa0), (1, .int x1), (2, .int x2)]) hx hb nd_Gauge_firstCheckFrom_1 rfl hl (by decide) rfl (fun ls hl => ?_)
  have hL2 : ∀ (n2 : Nat) (i3_2 : Int32) (ls : Array Slot), fn_Gauge_firstCheckFrom_L2 x2 checked_ n2 i3_2 = some R0 → lv_has ls 4 [(0, .ref qa0), (1, .int x1), (2, .int x2), (3, .int i3_2)] → W p l e rm_Gauge_firstCheckFrom s m ar below meth c s.heap [] 0 0 Q (F0 m 2 ls []) := by
    intro n2
    induction n2 with
    | zero => intro i3_2 ls hR; exact nomatch hR
    | succ n2 ih2 =>
      intro i3_2 ls hR  hl
      rw [fn_Gauge_firstCheckFrom_L2] at hR
      refine lv_iload_n hx hb nd_Gauge_firstCheckFrom_2 rfl (lv_at hl 3 rfl) ?_
      refine lv_iload_n hx hb nd_Gauge_firstCheckFrom_3 rfl (lv_at hl 2 rfl) ?_
      refine lv_icmp_ge (tgt := 24) hx hb nd_Gauge_firstCheckFrom_4 (by decide) (fun c1 => ?_) (fun c1 => ?_)
      · replace hR := q_p c1 hR
        refine lv_iconst (v := -1) hx hb nd_Gauge_firstCheckFrom_24 (by decide) ?_
        exact hret _ _ _ nd_Gauge_firstCheckFrom_25 (Option.some.inj hR)
      · replace hR := q_n c1 hR
        refine lv_aload_n hx hb nd_Gauge_firstCheckFrom_7 rfl (lv_at hl 0 rfl) ?_
        refine va_get (D := D) (ci := 0) (v := .ref qchecked) (C := nR_Gauge) (T := nT_Gauge) (N := 5) hx hb hts ni_Gauge hown hK hP 0 rfl rfl 3 (by decide) (hts (.fieldLink nR_Gauge 22 "RoomClimate$Gauge" "checked" "[Z") tt_208) (fun _ h9 => h9) rfl nd_Gauge_firstCheckFrom_8 ?_
        refine lv_iload_n hx hb nd_Gauge_firstCheckFrom_11 rfl (lv_at hl 3 rfl) ?_
        obtain ⟨h2, hR⟩ := q_ix hR
        refine va_zald hx hb hK hP 1 2 rfl rfl h2 nd_Gauge_firstCheckFrom_12 ?_
        refine lv_if_eq (tgt := 18) hx hb nd_Gauge_firstCheckFrom_13 (by decide) (fun c3 => ?_) (fun c3 => ?_)
        · replace hR := q_p c3 hR
          refine lv_iinc (v := i3_2 + 1) (lv' := [(3, .int (i3_2 + 1)), (0, .ref qa0), (1, .int x1), (2, .int x2)]) hx hb nd_Gauge_firstCheckFrom_18 hl (k := 3) rfl (by first | rfl | decide) (by decide) rfl (fun ls hl => ?_)
          refine lv_goto (tgt := 2) hx hb nd_Gauge_firstCheckFrom_21 (by decide) ?_
          exact ih2 (i3_2 + 1) _ hR  (lv_sub hl [1, 2, 3, 0] rfl)
        · replace hR := q_n c3 hR
          refine lv_iload_n hx hb nd_Gauge_firstCheckFrom_16 rfl (lv_at hl 3 rfl) ?_
          exact hret _ _ _ nd_Gauge_firstCheckFrom_17 (Option.some.inj hR)
  exact hL2 400 x1 _ hR  (lv_sub hl [1, 2, 3, 0] rfl)
def rm_Gauge_driftOfCheck : Room := { frames := 0, cells := 0, slots := 0, locals := 0 }
theorem kc_Gauge_driftOfCheck : k_cal nY_Gauge_driftOfCheck nC_Gauge_driftOfCheck 2 (some .int) 1 := ⟨tt_650, tt_9, by decide +kernel⟩
theorem kv_Gauge_driftOfCheck : k_vir nY_Gauge_driftOfCheck := ⟨tt_649, tp_7⟩
set_option maxHeartbeats 4000000 in
set_option maxRecDepth 100000 in
theorem cn_Gauge_driftOfCheck (l : Launch) (D : va_G) (ca : Nat → ClassId) (qa0 qvalues qsensed qrights qchecked : Nat) (checks_ : Int32) (rights_ : Nat → Int32) (values_ : Nat → Int32) (x1 : Int32) (R0 : Int32) (hR : fn_Gauge_driftOfCheck rights_ values_ x1 = some R0) : Met l nY_Gauge_driftOfCheck (Cond.code nY_Gauge_driftOfCheck nC_Gauge_driftOfCheck 2 (some .int) :: TT) rm_Gauge_driftOfCheck (rd_P [.ref qa0, .int x1] D ca [oc_Gauge qa0 qvalues qsensed qrights qchecked checks_, aI qrights ca 300 rights_, aI qvalues ca 300 values_]) (vp_Si (fun x => x = R0)) 0 0 (fun _ => False) := by
  refine rd_ofI (by decide +kernel) (Nat.le_of_ble_eq_true rfl) ?_
  intro p e s m below meth c Q ar ls hx hb hml hts hown hP hK hl hret
  have hown : s.vm.findClass nR_Gauge = some m.cls := hown
  have hl : lv_has ls 2 [(0, .ref qa0), (1, .int x1)] := hl
  unfold fn_Gauge_driftOfCheck at hR
  refine lv_aload_n hx hb nd_Gauge_driftOfCheck_0 rfl (lv_at hl 0 rfl) ?_
  refine va_get (D := D) (ci := 0) (v := .ref qrights) (C := nR_Gauge) (T := nT_Gauge) (N := 5) hx hb hts ni_Gauge hown hK hP 0 rfl rfl 2 (by decide) (hts (.fieldLink nR_Gauge 19 "RoomClimate$Gauge" "rights" "[I") tt_207) (fun _ h9 => h9) rfl nd_Gauge_driftOfCheck_1 ?_
  refine lv_iload_n hx hb nd_Gauge_driftOfCheck_4 rfl (lv_at hl 1 rfl) ?_
  obtain ⟨h1, hR⟩ := q_ix hR
  refine va_iald hx hb hK hP 1 0 rfl rfl h1 nd_Gauge_driftOfCheck_5 ?_
  refine lv_aload_n hx hb nd_Gauge_driftOfCheck_6 rfl (lv_at hl 0 rfl) ?_
  refine va_get (D := D) (ci := 0) (v := .ref qvalues) (C := nR_Gauge) (T := nT_Gauge) (N := 5) hx hb hts ni_Gauge hown hK hP 0 rfl rfl 0 (by decide) (hts (.fieldLink nR_Gauge 9 "RoomClimate$Gauge" "values" "[I") tt_203) (fun _ h9 => h9) rfl nd_Gauge_driftOfCheck_7 ?_
  refine lv_iload_n hx hb nd_Gauge_driftOfCheck_10 rfl (lv_at hl 1 rfl) ?_
  refine va_iald hx hb hK hP 2 0 rfl rfl h1 nd_Gauge_driftOfCheck_11 ?_
  refine lv_isub hx hb nd_Gauge_driftOfCheck_12 ?_
  exact hret _ _ _ nd_Gauge_driftOfCheck_13 (Option.some.inj hR)
def rm_Math_floorDiv : Room := { frames := 0, cells := 0, slots := 0, locals := 0 }
theorem kc_Math_floorDiv : k_cal nY_Math_floorDiv nC_Math_floorDiv 6 (some .long) 2 := ⟨tt_257, tt_17, by decide +kernel⟩
theorem ks_Math_floorDiv : Cond.static nY_Math_floorDiv ∈ TT := tt_256
set_option maxHeartbeats 4000000 in
set_option maxRecDepth 100000 in
theorem cn_Math_floorDiv (l : Launch) (D : va_G) (ca : Nat → ClassId) (x0 : Int64) (x2 : Int64) (R0 : Int64) (hR : fn_Math_floorDiv x0 x2 = some R0) : Met l nY_Math_floorDiv (Cond.code nY_Math_floorDiv nC_Math_floorDiv 6 (some .long) :: TT) rm_Math_floorDiv (rd_P [.long x0, .long x2] D ca []) (vp_Sl (fun x => x = R0)) 0 0 (fun _ => False) := by
  refine rd_ofJ (by decide +kernel) (Nat.le_of_ble_eq_true rfl) ?_
  intro p e s m below meth c Q ar ls hx hb hml hts hown hP hK hl hret
  have hown : s.vm.findClass nR_Math = some m.cls := hown
  have hl : lv_has ls 6 [(0, .long x0), (2, .long x2)] := hl
  unfold fn_Math_floorDiv at hR
  refine lv_lload_n hx hb nd_Math_floorDiv_0 rfl (lv_at hl 0 rfl) ?_
  refine lv_lload_n hx hb nd_Math_floorDiv_1 rfl (lv_at hl 1 rfl) ?_
  obtain ⟨h1, hR⟩ := q_nz hR
  refine lv_ldiv hx hb nd_Math_floorDiv_2 h1 ?_
  refine lv_lstore (lv' := [(4, .long (x0 / x2)), (0, .long x0), (2, .long x2)]) hx hb nd_Math_floorDiv_3 hl (by decide) rfl (fun ls hl => ?_)
  refine lv_lload_n hx hb nd_Math_floorDiv_5 rfl (lv_at hl 1 rfl) ?_
  refine lv_lload_n hx hb nd_Math_floorDiv_6 rfl (lv_at hl 2 rfl) ?_
  refine lv_lxor hx hb nd_Math_floorDiv_7 ?_
  refine lv_lconst (v := 0) hx hb nd_Math_floorDiv_8 (by decide) ?_
  refine W.lcmp hx hb nd_Math_floorDiv_9 ?_
  refine lv_if_ge (tgt := 27) hx hb nd_Math_floorDiv_10 (by decide) (fun c2 => ?_) (fun c2 => ?_)
  · replace hR := q_p c2 hR
    refine lv_lload hx hb nd_Math_floorDiv_27 (lv_at hl 0 rfl) ?_
    exact hret _ _ _ nd_Math_floorDiv_29 (Option.some.inj hR)
  · replace hR := q_n c2 hR
    refine lv_lload hx hb nd_Math_floorDiv_13 (lv_at hl 0 rfl) ?_
    refine lv_lload_n hx hb nd_Math_floorDiv_15 rfl (lv_at hl 2 rfl) ?_
    refine lv_lmul hx hb nd_Math_floorDiv_16 ?_
    refine lv_lload_n hx hb nd_Math_floorDiv_17 rfl (lv_at hl 1 rfl) ?_
    refine W.lcmp hx hb nd_Math_floorDiv_18 ?_
    refine lv_if_eq (tgt := 27) hx hb nd_Math_floorDiv_19 (by decide) (fun c3 => ?_) (fun c3 => ?_)
    · replace hR := q_p c3 hR
      refine lv_lload hx hb nd_Math_floorDiv_27 (lv_at hl 0 rfl) ?_
      exact hret _ _ _ nd_Math_floorDiv_29 (Option.some.inj hR)
    · replace hR := q_n c3 hR
      refine lv_lload hx hb nd_Math_floorDiv_22 (lv_at hl 0 rfl) ?_
      refine lv_lconst (v := 1) hx hb nd_Math_floorDiv_24 (by decide) ?_
      refine lv_lsub hx hb nd_Math_floorDiv_25 ?_
      exact hret _ _ _ nd_Math_floorDiv_26 (Option.some.inj hR)
def rm_Room_by : Room := { frames := 1, cells := 0, slots := 0, locals := 25 }
theorem kc_Room_by : k_cal nY_Room_by nC_Room_by 4 (some .long) 2 := ⟨tt_254, tt_1, by decide +kernel⟩
theorem ks_Room_by : Cond.static nY_Room_by ∈ TT := tt_253
set_option maxHeartbeats 4000000 in
set_option maxRecDepth 100000 in
theorem cn_Room_by (l : Launch) (D : va_G) (ca : Nat → ClassId) (x0 : Int64) (x2 : Int64) (R0 : Int64) (hR : fn_Room_by x0 x2 = some R0) : Met l nY_Room_by (Cond.code nY_Room_by nC_Room_by 4 (some .long) :: TT) rm_Room_by (rd_P [.long x0, .long x2] D ca []) (vp_Sl (fun x => x = R0)) 0 0 (fun _ => False) := by
  refine rd_ofJ (by decide +kernel) (Nat.le_of_ble_eq_true rfl) ?_
  intro p e s m below meth c Q ar ls hx hb hml hts hown hP hK hl hret
  have hown : s.vm.findClass nR_Room = some m.cls := hown
  have hl : lv_has ls 4 [(0, .long x0), (2, .long x2)] := hl
  unfold fn_Room_by at hR
  refine lv_lload_n hx hb nd_Room_by_0 rfl (lv_at hl 1 rfl) ?_
  refine lv_lconst (v := 0) hx hb nd_Room_by_1 (by decide) ?_
  refine W.lcmp hx hb nd_Room_by_2 ?_
  obtain ⟨j2_0, hJ2, hR⟩ := q_b1 hR
  have hN2 : ∀ (ls : Array Slot), lv_has ls 4 [(0, .long x0), (2, .long x2)] → W p l e rm_Room_by s m ar below meth c s.heap [] 0 0 Q (F0 m 15 ls [.long j2_0]) := by
    intro ls  hl
    exact hret _ _ _ nd_Room_by_15 (Option.some.inj hR)
  refine lv_if_le (tgt := 14) hx hb nd_Room_by_3 (by decide) (fun c1 => ?_) (fun c1 => ?_)
  · have hR := q_p c1 hJ2
    refine lv_lconst (v := 0) hx hb nd_Room_by_14 (by decide) ?_
    cases hR
    exact hN2 _  (lv_sub hl [0, 1] rfl)
  · have hR := q_n c1 hJ2
    refine lv_lload_n hx hb nd_Room_by_6 rfl (lv_at hl 0 rfl) ?_
    refine lv_lload_n hx hb nd_Room_by_7 rfl (lv_at hl 1 rfl) ?_
    obtain ⟨r3, e3, hR⟩ := q_b1 hR
    refine k_rSJ (As := [.long x0, .long x2]) (rest := []) (r := r3) hx hb hml hown hts (cn_Math_floorDiv l D ca x0 x2 r3 e3) kc_Math_floorDiv ks_Math_floorDiv tt_255 ⟨by decide, by decide⟩ rfl rfl hP hK [] rfl rfl hl.1 (Nat.le_of_ble_eq_true rfl) rfl nd_Room_by_8 ⟨Nat.zero_le _, Nat.zero_le _⟩ ?_
    refine lv_goto (tgt := 15) hx hb nd_Room_by_11 (by decide) ?_
    cases hR
    exact hN2 _  (lv_sub hl [0, 1] rfl)
def rm_Gauge_drift : Room := { frames := 2, cells := 0, slots := 0, locals := 48 }
theorem kc_Gauge_drift : k_cal nY_Gauge_drift nC_Gauge_drift 6 (some .int) 2 := ⟨tt_638, tt_9, by decide +kernel⟩
theorem kv_Gauge_drift : k_vir nY_Gauge_drift := ⟨tt_636, tt_637⟩
set_option maxHeartbeats 4000000 in
set_option maxRecDepth 100000 in
theorem cn_Gauge_drift (l : Launch) (D : va_G) (ca : Nat → ClassId) (qa0 qvalues qsensed qrights qchecked : Nat) (checks_ : Int32) (checked_ : Nat → Int32) (rights_ : Nat → Int32) (values_ : Nat → Int32) (x1 : Int32) (x2 : Int32) (R0 : Int32) (hR : fn_Gauge_drift checked_ rights_ values_ x1 x2 = some R0) : Met l nY_Gauge_drift (Cond.code nY_Gauge_drift nC_Gauge_drift 6 (some .int) :: TT) rm_Gauge_drift (rd_P [.ref qa0, .int x1, .int x2] D ca [oc_Gauge qa0 qvalues qsensed qrights qchecked checks_, aZ qchecked ca 300 checked_, aI qrights ca 300 rights_, aI qvalues ca 300 values_]) (vp_Si (fun x => x = R0)) 0 0 (fun _ => False) := by
  refine rd_ofI (by decide +kernel) (Nat.le_of_ble_eq_true rfl) ?_
  intro p e s m below meth c Q ar ls hx hb hml hts hown hP hK hl hret
  have hown : s.vm.findClass nR_Gauge = some m.cls := hown
  have hl : lv_has ls 6 [(0, .ref qa0), (1, .int x1), (2, .int x2)] := hl
  unfold fn_Gauge_drift at hR
  refine lv_aload_n hx hb nd_Gauge_drift_0 rfl (lv_at hl 0 rfl) ?_
  refine lv_iload_n hx hb nd_Gauge_drift_1 rfl (lv_at hl 1 rfl) ?_
  obtain ⟨r1, e1, hR⟩ := q_b1 hR
  refine k_rVI (As := [.int x1]) (rest := []) (r := r1) hx hb hml hown hts (cn_Gauge_lastCheckUpTo l D ca qa0 qvalues qsensed qrights qchecked checks_ checked_ x1 r1 e1) kc_Gauge_lastCheckUpTo kv_Gauge_lastCheckUpTo tt_639 ⟨by decide, by decide⟩ rfl rfl hP hK [0, 1] rfl 0 rfl rfl rfl rfl hl.1 (Nat.le_of_ble_eq_true rfl) rfl nd_Gauge_drift_2 ⟨Nat.zero_le _, Nat.zero_le _⟩ ?_
  refine lv_istore_n (lv' := [(3, .int r1), (0, .ref qa0), (1, .int x1), (2, .int x2)]) hx hb nd_Gauge_drift_5 rfl hl (by decide) rfl (fun ls hl => ?_)
  refine lv_aload_n hx hb nd_Gauge_drift_6 rfl (lv_at hl 1 rfl) ?_
  refine lv_iload_n hx hb nd_Gauge_drift_7 rfl (lv_at hl 2 rfl) ?_
  refine lv_iload_n hx hb nd_Gauge_drift_8 rfl (lv_at hl 3 rfl) ?_
  obtain ⟨r2, e2, hR⟩ := q_b1 hR
  refine k_rVI (As := [.int x1, .int x2]) (rest := []) (r := r2) hx hb hml hown hts (cn_Gauge_firstCheckFrom l D ca qa0 qvalues qsensed qrights qchecked checks_ checked_ x1 x2 r2 e2) kc_Gauge_firstCheckFrom kv_Gauge_firstCheckFrom tt_643 ⟨by decide, by decide⟩ rfl rfl hP hK [0, 1] rfl 0 rfl rfl rfl rfl hl.1 (Nat.le_of_ble_eq_true rfl) rfl nd_Gauge_drift_9 ⟨Nat.zero_le _, Nat.zero_le _⟩ ?_
  refine lv_istore (lv' := [(4, .int r2), (3, .int r1), (0, .ref qa0), (1, .int x1), (2, .int x2)]) hx hb nd_Gauge_drift_12 hl (by decide) rfl (fun ls hl => ?_)
  refine lv_iload_n hx hb nd_Gauge_drift_14 rfl (lv_at hl 1 rfl) ?_
  refine lv_iconst (v := -1) hx hb nd_Gauge_drift_15 (by decide) ?_
  refine lv_icmp_ne (tgt := 36) hx hb nd_Gauge_drift_16 (by decide) (fun c3 => ?_) (fun c3 => ?_)
  · replace hR := q_n c3 hR
    refine lv_iload hx hb nd_Gauge_drift_36 (lv_at hl 0 rfl) ?_
    refine lv_iconst (v := -1) hx hb nd_Gauge_drift_38 (by decide) ?_
    refine lv_icmp_eq (tgt := 48) hx hb nd_Gauge_drift_39 (by decide) (fun c4 => ?_) (fun c4 => ?_)
    · replace hR := q_p c4 hR
      refine lv_aload_n hx hb nd_Gauge_drift_48 rfl (lv_at hl 2 rfl) ?_
      refine lv_iload_n hx hb nd_Gauge_drift_49 rfl (lv_at hl 1 rfl) ?_
      obtain ⟨r5, e5, hR⟩ := q_b1 hR
      refine k_rVI (As := [.int r1]) (rest := []) (r := r5) hx hb hml hown hts (cn_Gauge_driftOfCheck l D ca qa0 qvalues qsensed qrights qchecked checks_ rights_ values_ r1 r5 e5) kc_Gauge_driftOfCheck kv_Gauge_driftOfCheck tt_647 ⟨by decide, by decide⟩ rfl rfl hP hK [0, 2, 3] rfl 0 rfl rfl rfl rfl hl.1 (Nat.le_of_ble_eq_true rfl) rfl nd_Gauge_drift_50 ⟨Nat.zero_le _, Nat.zero_le _⟩ ?_
      exact hret _ _ _ nd_Gauge_drift_53 (Option.some.inj hR)
    · replace hR := q_n c4 hR
      refine lv_iload hx hb nd_Gauge_drift_42 (lv_at hl 0 rfl) ?_
      refine lv_iload_n hx hb nd_Gauge_drift_44 rfl (lv_at hl 1 rfl) ?_
      refine lv_icmp_ne (tgt := 54) hx hb nd_Gauge_drift_45 (by decide) (fun c6 => ?_) (fun c6 => ?_)
      · replace hR := q_n c6 hR
        refine lv_aload_n hx hb nd_Gauge_drift_54 rfl (lv_at hl 2 rfl) ?_
        refine lv_iload hx hb nd_Gauge_drift_55 (lv_at hl 0 rfl) ?_
        obtain ⟨r7, e7, hR⟩ := q_b1 hR
        refine k_rVI (As := [.int r2]) (rest := []) (r := r7) hx hb hml hown hts (cn_Gauge_driftOfCheck l D ca qa0 qvalues qsensed qrights qchecked checks_ rights_ values_ r2 r7 e7) kc_Gauge_driftOfCheck kv_Gauge_driftOfCheck tt_647 ⟨by decide, by decide⟩ rfl rfl hP hK [0, 2, 3] rfl 0 rfl rfl rfl rfl hl.1 (Nat.le_of_ble_eq_true rfl) rfl nd_Gauge_drift_57 ⟨Nat.zero_le _, Nat.zero_le _⟩ ?_
        refine lv_aload_n hx hb nd_Gauge_drift_60 rfl (lv_at hl 2 rfl) ?_
        refine lv_iload_n hx hb nd_Gauge_drift_61 rfl (lv_at hl 1 rfl) ?_
        obtain ⟨r8, e8, hR⟩ := q_b1 hR
        refine k_rVI (As := [.int r1]) (rest := [.int r7]) (r := r8) hx hb hml hown hts (cn_Gauge_driftOfCheck l D ca qa0 qvalues qsensed qrights qchecked checks_ rights_ values_ r1 r8 e8) kc_Gauge_driftOfCheck kv_Gauge_driftOfCheck tt_647 ⟨by decide, by decide⟩ rfl rfl hP hK [0, 2, 3] rfl 0 rfl rfl rfl rfl hl.1 (Nat.le_of_ble_eq_true rfl) rfl nd_Gauge_drift_62 ⟨Nat.zero_le _, Nat.zero_le _⟩ ?_
        refine lv_isub hx hb nd_Gauge_drift_65 ?_
        refine lv_istore (lv' := [(5, .int (r7 - r8)), (4, .int r2), (3, .int r1), (0, .ref qa0), (1, .int x1), (2, .int x2)]) hx hb nd_Gauge_drift_66 hl (by decide) rfl (fun ls hl => ?_)
        refine lv_aload_n hx hb nd_Gauge_drift_68 rfl (lv_at hl 3 rfl) ?_
        refine lv_iload_n hx hb nd_Gauge_drift_69 rfl (lv_at hl 2 rfl) ?_
        obtain ⟨r9, e9, hR⟩ := q_b1 hR
        refine k_rVI (As := [.int r1]) (rest := []) (r := r9) hx hb hml hown hts (cn_Gauge_driftOfCheck l D ca qa0 qvalues qsensed qrights qchecked checks_ rights_ values_ r1 r9 e9) kc_Gauge_driftOfCheck kv_Gauge_driftOfCheck tt_647 ⟨by decide, by decide⟩ rfl rfl hP hK [0, 2, 3] rfl 0 rfl rfl rfl rfl hl.1 (Nat.le_of_ble_eq_true rfl) rfl nd_Gauge_drift_70 ⟨Nat.zero_le _, Nat.zero_le _⟩ ?_
        refine lv_iload hx hb nd_Gauge_drift_73 (lv_at hl 0 rfl) ?_
        refine lv_i2l hx hb nd_Gauge_drift_75 rfl ?_
        refine lv_iload_n hx hb nd_Gauge_drift_76 rfl (lv_at hl 4 rfl) ?_
        refine lv_iload_n hx hb nd_Gauge_drift_77 rfl (lv_at hl 2 rfl) ?_
        refine lv_isub hx hb nd_Gauge_drift_78 ?_
        refine lv_i2l hx hb nd_Gauge_drift_79 rfl ?_
        refine lv_lmul hx hb nd_Gauge_drift_80 ?_
        refine lv_iload hx hb nd_Gauge_drift_81 (lv_at hl 1 rfl) ?_
        refine lv_iload_n hx hb nd_Gauge_drift_83 rfl (lv_at hl 2 rfl) ?_
        refine lv_isub hx hb nd_Gauge_drift_84 ?_
        refine lv_i2l hx hb nd_Gauge_drift_85 rfl ?_
        obtain ⟨r10, e10, hR⟩ := q_b1 hR
        refine k_rSNJ (As := [.long (((r7 - r8).toInt64) * ((x1 - r1).toInt64)), .long ((r2 - r1).toInt64)]) (rest := [.int r9]) (r := r10) hx hb hml hown hts (cn_Room_by l D ca (((r7 - r8).toInt64) * ((x1 - r1).toInt64)) ((r2 - r1).toInt64) r10 e10) kc_Room_by ks_Room_by tt_651 ⟨by decide, by decide⟩ rfl rfl hP hK [] rfl rfl hl.1 (Nat.le_of_ble_eq_true rfl) rfl nd_Gauge_drift_86 ⟨Nat.zero_le _, Nat.zero_le _⟩ ?_
        refine lv_l2i hx hb nd_Gauge_drift_89 rfl ?_
        refine lv_iadd hx hb nd_Gauge_drift_90 ?_
        exact hret _ _ _ nd_Gauge_drift_91 (Option.some.inj hR)
      · replace hR := q_p c6 hR
        refine lv_aload_n hx hb nd_Gauge_drift_48 rfl (lv_at hl 2 rfl) ?_
        refine lv_iload_n hx hb nd_Gauge_drift_49 rfl (lv_at hl 1 rfl) ?_
        obtain ⟨r11, e11, hR⟩ := q_b1 hR
        refine k_rVI (As := [.int r1]) (rest := []) (r := r11) hx hb hml hown hts (cn_Gauge_driftOfCheck l D ca qa0 qvalues qsensed qrights qchecked checks_ rights_ values_ r1 r11 e11) kc_Gauge_driftOfCheck kv_Gauge_driftOfCheck tt_647 ⟨by decide, by decide⟩ rfl rfl hP hK [0, 2, 3] rfl 0 rfl rfl rfl rfl hl.1 (Nat.le_of_ble_eq_true rfl) rfl nd_Gauge_drift_50 ⟨Nat.zero_le _, Nat.zero_le _⟩ ?_
        exact hret _ _ _ nd_Gauge_drift_53 (Option.some.inj hR)
  · replace hR := q_p c3 hR
    refine lv_iload hx hb nd_Gauge_drift_19 (lv_at hl 0 rfl) ?_
    refine lv_iconst (v := -1) hx hb nd_Gauge_drift_21 (by decide) ?_
    obtain ⟨j13_0, hJ13, hR⟩ := q_b1 hR
    have hN13 : ∀ (ls : Array Slot), lv_has ls 6 [(0, .ref qa0), (1, .int x1), (2, .int x2), (3, .int r1), (4, .int r2)] → W p l e rm_Gauge_drift s m ar below meth c s.heap [] 0 0 Q (F0 m 35 ls [.int j13_0]) := by
      intro ls  hl
      exact hret _ _ _ nd_Gauge_drift_35 (Option.some.inj hR)
    refine lv_icmp_ne (tgt := 29) hx hb nd_Gauge_drift_22 (by decide) (fun c12 => ?_) (fun c12 => ?_)
    · have hR := q_n c12 hJ13
      refine lv_aload_n hx hb nd_Gauge_drift_29 rfl (lv_at hl 2 rfl) ?_
      refine lv_iload hx hb nd_Gauge_drift_30 (lv_at hl 0 rfl) ?_
      obtain ⟨r14, e14, hR⟩ := q_b1 hR
      refine k_rVI (As := [.int r2]) (rest := []) (r := r14) hx hb hml hown hts (cn_Gauge_driftOfCheck l D ca qa0 qvalues qsensed qrights qchecked checks_ rights_ values_ r2 r14 e14) kc_Gauge_driftOfCheck kv_Gauge_driftOfCheck tt_647 ⟨by decide, by decide⟩ rfl rfl hP hK [0, 2, 3] rfl 0 rfl rfl rfl rfl hl.1 (Nat.le_of_ble_eq_true rfl) rfl nd_Gauge_drift_32 ⟨Nat.zero_le _, Nat.zero_le _⟩ ?_
      cases hR
      exact hN13 _  (lv_sub hl [2, 3, 4, 1, 0] rfl)
    · have hR := q_p c12 hJ13
      refine lv_iconst (v := 0) hx hb nd_Gauge_drift_25 (by decide) ?_
      refine lv_goto (tgt := 35) hx hb nd_Gauge_drift_26 (by decide) ?_
      cases hR
      exact hN13 _  (lv_sub hl [2, 3, 4, 1, 0] rfl)
def rm_Gauge_longestGap : Room := { frames := 0, cells := 0, slots := 0, locals := 0 }
theorem kc_Gauge_longestGap : k_cal nY_Gauge_longestGap nC_Gauge_longestGap 7 (some .int) 2 := ⟨tt_663, tt_9, by decide +kernel⟩
theorem kv_Gauge_longestGap : k_vir nY_Gauge_longestGap := ⟨tt_661, tt_662⟩
set_option maxHeartbeats 4000000 in
set_option maxRecDepth 100000 in
theorem cn_Gauge_longestGap (l : Launch) (D : va_G) (ca : Nat → ClassId) (qa0 qvalues qsensed qrights qchecked : Nat) (checks_ : Int32) (sensed_ : Nat → Int32) (x1 : Int32) (x2 : Int32) (R0 : Int32) (hR : fn_Gauge_longestGap sensed_ x1 x2 = some R0) : Met l nY_Gauge_longestGap (Cond.code nY_Gauge_longestGap nC_Gauge_longestGap 7 (some .int) :: TT) rm_Gauge_longestGap (rd_P [.ref qa0, .int x1, .int x2] D ca [oc_Gauge qa0 qvalues qsensed qrights qchecked checks_, aZ qsensed ca 300 sensed_]) (vp_Si (fun x => x = R0)) 0 0 (fun _ => False) := by
  refine rd_ofI (by decide +kernel) (Nat.le_of_ble_eq_true rfl) ?_
  intro p e s m below meth c Q ar ls hx hb hml hts hown hP hK hl hret
  have hown : s.vm.findClass nR_Gauge = some m.cls := hown
  have hl : lv_has ls 7 [(0, .ref qa0), (1, .int x1), (2, .int x2)] := hl
  unfold fn_Gauge_longestGap at hR
  refine lv_iconst (v := -1) hx hb nd_Gauge_longestGap_0 (by decide) ?_
  refine lv_istore_n (lv' := [(3, .int (-1 : Int32)), (0, .ref qa0), (1, .int x1), (2, .int x2)]) hx hb nd_Gauge_longestGap_1 rfl hl (by decide) rfl (fun ls hl => ?_)
  refine lv_iconst (v := 0) hx hb nd_Gauge_longestGap_2 (by decide) ?_
  refine lv_istore (lv' := [(4, .int (0 : Int32)), (3, .int (-1 : Int32)), (0, .ref qa0), (1, .int x1), (2, .int x2)]) hx hb nd_Gauge_longestGap_3 hl (by decide) rfl (fun ls hl => ?_)
  refine lv_iconst (v := 0) hx hb nd_Gauge_longestGap_5 (by decide) ?_
  refine lv_istore (lv' := [(5, .int (0 : Int32)), (4, .int (0 : Int32)), (3, .int (-1 : Int32)), (0, .ref qa0), (1, .int x1), (2, .int x2)]) hx hb nd_Gauge_longestGap_6 hl (by decide) rfl (fun ls hl => ?_)
  refine lv_iload_n hx hb nd_Gauge_longestGap_8 rfl (lv_at hl 4 rfl) ?_
  refine lv_istore (lv' := [(6, .int x1), (5, .int (0 : Int32)), (4, .int (0 : Int32)), (3, .int (-1 : Int32)), (0, .ref qa0), (1, .int x1), (2, .int x2)]) hx hb nd_Gauge_longestGap_9 hl (by decide) rfl (fun ls hl => ?_)
  have hL11 : ∀ (n11 : Nat) (i3_11 : Int32) (i4_11 : Int32) (i5_11 : Int32) (i6_11 : Int32) (ls : Array Slot), fn_Gauge_longestGap_L11 x2 sensed_ n11 i3_11 i4_11 i5_11 i6_11 = some R0 → lv_has ls 7 [(0, .ref qa0), (1, .int x1), (2, .int x2), (3, .int i3_11), (4, .int i4_11), (5, .int i5_11), (6, .int i6_11)] → W p l e rm_Gauge_longestGap s m ar below meth c s.heap [] 0 0 Q (F0 m 11 ls []) := by
    intro n11
    induction n11 with
    | zero => intro i3_11 i4_11 i5_11 i6_11 ls hR; exact nomatch hR
    | succ n11 ih11 =>
      intro i3_11 i4_11 i5_11 i6_11 ls hR  hl
      rw [fn_Gauge_longestGap_L11] at hR
      refine lv_iload hx hb nd_Gauge_longestGap_11 (lv_at hl 6 rfl) ?_
      refine lv_iload_n hx hb nd_Gauge_longestGap_13 rfl (lv_at hl 2 rfl) ?_
      refine lv_icmp_ge (tgt := 62) hx hb nd_Gauge_longestGap_14 (by decide) (fun c1 => ?_) (fun c1 => ?_)
      · replace hR := q_p c1 hR
        refine lv_iload_n hx hb nd_Gauge_longestGap_62 rfl (lv_at hl 3 rfl) ?_
        exact hret _ _ _ nd_Gauge_longestGap_63 (Option.some.inj hR)
      · replace hR := q_n c1 hR
        refine lv_aload_n hx hb nd_Gauge_longestGap_17 rfl (lv_at hl 0 rfl) ?_
        refine va_get (D := D) (ci := 0) (v := .ref qsensed) (C := nR_Gauge) (T := nT_Gauge) (N := 5) hx hb hts ni_Gauge hown hK hP 0 rfl rfl 1 (by decide) (hts (.fieldLink nR_Gauge 15 "RoomClimate$Gauge" "sensed" "[Z") tt_205) (fun _ h9 => h9) rfl nd_Gauge_longestGap_18 ?_
        refine lv_iload hx hb nd_Gauge_longestGap_21 (lv_at hl 6 rfl) ?_
        obtain ⟨h2, hR⟩ := q_ix hR
        refine va_zald hx hb hK hP 1 2 rfl rfl h2 nd_Gauge_longestGap_23 ?_
        obtain ⟨j4_0, hJ4, hR⟩ := q_b1 hR
        have hN4 : ∀ (ls : Array Slot), lv_has ls 7 [(0, .ref qa0), (1, .int x1), (2, .int x2), (3, .int i3_11), (4, .int i4_11), (5, .int i5_11), (6, .int i6_11)] → W p l e rm_Gauge_longestGap s m ar below meth c s.heap [] 0 0 Q (F0 m 35 ls [.int j4_0]) := by
          intro ls  hl
          refine lv_istore (lv' := [(5, .int j4_0), (0, .ref qa0), (1, .int x1), (2, .int x2), (3, .int i3_11), (4, .int i4_11), (6, .int i6_11)]) hx hb nd_Gauge_longestGap_35 hl (by decide) rfl (fun ls hl => ?_)
          refine lv_iload hx hb nd_Gauge_longestGap_37 (lv_at hl 0 rfl) ?_
          refine lv_iload hx hb nd_Gauge_longestGap_39 (lv_at hl 5 rfl) ?_
          obtain ⟨j6_0, j6_1, hJ6, hR⟩ := q_b2 hR
          have hN6 : ∀ (ls : Array Slot), lv_has ls 7 [(0, .ref qa0), (1, .int x1), (2, .int x2), (3, .int j6_0), (4, .int j6_1), (5, .int j4_0), (6, .int i6_11)] → W p l e rm_Gauge_longestGap s m ar below meth c s.heap [] 0 0 Q (F0 m 56 ls []) := by
            intro ls  hl
            refine lv_iinc (v := i6_11 + 1) (lv' := [(6, .int (i6_11 + 1)), (0, .ref qa0), (1, .int x1), (2, .int x2), (3, .int j6_0), (4, .int j6_1), (5, .int j4_0)]) hx hb nd_Gauge_longestGap_56 hl (k := 6) rfl (by first | rfl | decide) (by decide) rfl (fun ls hl => ?_)
            refine lv_goto (tgt := 11) hx hb nd_Gauge_longestGap_59 (by decide) ?_
            exact ih11 j6_0 j6_1 j4_0 (i6_11 + 1) _ hR  (lv_sub hl [1, 2, 3, 4, 5, 6, 0] rfl)
          refine lv_icmp_le (tgt := 56) hx hb nd_Gauge_longestGap_41 (by decide) (fun c5 => ?_) (fun c5 => ?_)
          · have hR := q_p c5 hJ6
            cases hR
            exact hN6 _  (lv_sub hl [1, 2, 3, 4, 5, 0, 6] rfl)
          · have hR := q_n c5 hJ6
            refine lv_iload hx hb nd_Gauge_longestGap_44 (lv_at hl 0 rfl) ?_
            refine lv_istore (lv' := [(4, .int j4_0), (5, .int j4_0), (0, .ref qa0), (1, .int x1), (2, .int x2), (3, .int i3_11), (6, .int i6_11)]) hx hb nd_Gauge_longestGap_46 hl (by decide) rfl (fun ls hl => ?_)
            refine lv_iload hx hb nd_Gauge_longestGap_48 (lv_at hl 6 rfl) ?_
            refine lv_iload hx hb nd_Gauge_longestGap_50 (lv_at hl 1 rfl) ?_
            refine lv_isub hx hb nd_Gauge_longestGap_52 ?_
            refine lv_iconst (v := 1) hx hb nd_Gauge_longestGap_53 (by decide) ?_
            refine lv_iadd hx hb nd_Gauge_longestGap_54 ?_
            refine lv_istore_n (lv' := [(3, .int ((i6_11 - j4_0) + (1 : Int32))), (4, .int j4_0), (5, .int j4_0), (0, .ref qa0), (1, .int x1), (2, .int x2), (6, .int i6_11)]) hx hb nd_Gauge_longestGap_55 rfl hl (by decide) rfl (fun ls hl => ?_)
            cases hR
            exact hN6 _  (lv_sub hl [3, 4, 5, 0, 1, 2, 6] rfl)
        refine lv_if_eq (tgt := 31) hx hb nd_Gauge_longestGap_24 (by decide) (fun c3 => ?_) (fun c3 => ?_)
        · have hR := q_p c3 hJ4
          refine lv_iload hx hb nd_Gauge_longestGap_31 (lv_at hl 5 rfl) ?_
          refine lv_iconst (v := 1) hx hb nd_Gauge_longestGap_33 (by decide) ?_
          refine lv_iadd hx hb nd_Gauge_longestGap_34 ?_
          cases hR
          exact hN4 _  (lv_sub hl [0, 1, 2, 3, 4, 5, 6] rfl)
        · have hR := q_n c3 hJ4
          refine lv_iconst (v := 0) hx hb nd_Gauge_longestGap_27 (by decide) ?_
          refine lv_goto (tgt := 35) hx hb nd_Gauge_longestGap_28 (by decide) ?_
          cases hR
          exact hN4 _  (lv_sub hl [0, 1, 2, 3, 4, 5, 6] rfl)
  exact hL11 400 (-1 : Int32) (0 : Int32) (0 : Int32) x1 _ hR  (lv_sub hl [4, 5, 6, 3, 2, 1, 0] rfl)
def rm_Interior_moisture : Room := { frames := 2, cells := 0, slots := 0, locals := 48 }
theorem kc_Interior_moisture : k_cal nY_Interior_moisture nC_Interior_moisture 1 (some .long) 0 := ⟨tt_265, tt_4, by decide +kernel⟩
theorem kv_Interior_moisture : k_vir nY_Interior_moisture := ⟨tt_263, tt_264⟩
set_option maxHeartbeats 4000000 in
set_option maxRecDepth 100000 in
theorem cn_Interior_moisture (l : Launch) (D : va_G) (ca : Nat → ClassId) (qa0 qheatBooks qwaterBooks : Nat) (volume_ : Int32) (share_ : Int32) (heat_ : Int64) (water_ : Int64) (R0 : Int64) (hR : fn_Interior_moisture volume_ water_ = some R0) : Met l nY_Interior_moisture (Cond.code nY_Interior_moisture nC_Interior_moisture 1 (some .long) :: TT) rm_Interior_moisture (rd_P [.ref qa0] D ca [oc_Interior qa0 qheatBooks qwaterBooks volume_ share_ heat_ water_]) (vp_Sl (fun x => x = R0)) 0 0 (fun _ => False) := by
  refine rd_ofJ (by decide +kernel) (Nat.le_of_ble_eq_true rfl) ?_
  intro p e s m below meth c Q ar ls hx hb hml hts hown hP hK hl hret
  have hown : s.vm.findClass nR_Interior = some m.cls := hown
  have hl : lv_has ls 1 [(0, .ref qa0)] := hl
  unfold fn_Interior_moisture at hR
  refine lv_aload_n hx hb nd_Interior_moisture_0 rfl (lv_at hl 0 rfl) ?_
  refine va_get (D := D) (ci := 3) (v := .long water_) (C := nR_Interior) (T := nT_Interior) (N := 6) hx hb hts ni_Interior hown hK hP 0 rfl rfl 5 (by decide) (hts (.fieldLink nR_Interior 33 "RoomClimate$Interior" "water" "J") tt_68) (fun _ h9 => h9) rfl nd_Interior_moisture_1 ?_
  refine lv_aload_n hx hb nd_Interior_moisture_4 rfl (lv_at hl 0 rfl) ?_
  refine va_get (D := D) (ci := 3) (v := .int volume_) (C := nR_Interior) (T := nT_Interior) (N := 6) hx hb hts ni_Interior hown hK hP 0 rfl rfl 2 (by decide) (hts (.fieldLink nR_Interior 18 "RoomClimate$Interior" "volume" "I") tt_62) (fun _ h9 => h9) rfl nd_Interior_moisture_5 ?_
  refine lv_i2l hx hb nd_Interior_moisture_8 rfl ?_
  obtain ⟨r1, e1, hR⟩ := q_b1 hR
  refine k_rSNJ (As := [.long water_, .long volume_.toInt64]) (rest := []) (r := r1) hx hb hml hown hts (cn_Room_by l D ca water_ volume_.toInt64 r1 e1) kc_Room_by ks_Room_by tt_252 ⟨by decide, by decide⟩ rfl rfl hP hK [] rfl rfl hl.1 (Nat.le_of_ble_eq_true rfl) rfl nd_Interior_moisture_9 ⟨Nat.zero_le _, Nat.zero_le _⟩ ?_
  exact hret _ _ _ nd_Interior_moisture_12 (Option.some.inj hR)
def rm_Steps_amountUpTo : Room := { frames := 0, cells := 0, slots := 0, locals := 0 }
theorem kc_Steps_amountUpTo : k_cal nY_Steps_amountUpTo nC_Steps_amountUpTo 4 (some .int) 1 := ⟨tt_487, tt_2, by decide +kernel⟩
theorem kv_Steps_amountUpTo : k_vir nY_Steps_amountUpTo := ⟨tt_485, tt_486⟩
set_option maxHeartbeats 4000000 in
set_option maxRecDepth 100000 in
theorem cn_Steps_amountUpTo (l : Launch) (D : va_G) (ca : Nat → ClassId) (qa0 qlevels qamounts : Nat) (size_ : Int32) (amounts_ : Nat → Int32) (levels_ : Nat → Int32) (n_a0 : Nat) (x1 : Int64) (R0 : Int32) (hR : fn_Steps_amountUpTo size_ amounts_ levels_ n_a0 x1 = some R0) : Met l nY_Steps_amountUpTo (Cond.code nY_Steps_amountUpTo nC_Steps_amountUpTo 4 (some .int) :: TT) rm_Steps_amountUpTo (rd_P [.ref qa0, .long x1] D ca [oc_Steps qa0 qlevels qamounts size_, aI qamounts ca n_a0 amounts_, aI qlevels ca n_a0 levels_]) (vp_Si (fun x => x = R0)) 0 0 (fun _ => False) := by
  refine rd_ofI (by decide +kernel) (Nat.le_of_ble_eq_true rfl) ?_
  intro p e s m below meth c Q ar ls hx hb hml hts hown hP hK hl hret
  have hown : s.vm.findClass nR_Steps = some m.cls := hown
  have hl : lv_has ls 4 [(0, .ref qa0), (1, .long x1)] := hl
  unfold fn_Steps_amountUpTo at hR
  refine lv_iconst (v := 0) hx hb nd_Steps_amountUpTo_0 (by decide) ?_
  refine lv_istore_n (lv' := [(3, .int (0 : Int32)), (0, .ref qa0), (1, .long x1)]) hx hb nd_Steps_amountUpTo_1 rfl hl (by decide) rfl (fun ls hl => ?_)
  have hL2 : ∀ (n2 : Nat) (i3_2 : Int32) (ls : Array Slot), fn_Steps_amountUpTo_L2 x1 size_ amounts_ levels_ n_a0 n2 i3_2 = some R0 → lv_has ls 4 [(0, .ref qa0), (1, .long x1), (3, .int i3_2)] → W p l e rm_Steps_amountUpTo s m ar below meth c s.heap [] 0 0 Q (F0 m 2 ls []) := by
    intro n2
    induction n2 with
    | zero => intro i3_2 ls hR; exact nomatch hR
    | succ n2 ih2 =>
      intro i3_2 ls hR  hl
      rw [fn_Steps_amountUpTo_L2] at hR
      refine lv_iload_n hx hb nd_Steps_amountUpTo_2 rfl (lv_at hl 2 rfl) ?_
      refine lv_aload_n hx hb nd_Steps_amountUpTo_3 rfl (lv_at hl 0 rfl) ?_
      refine va_get (D := D) (ci := 6) (v := .int size_) (C := nR_Steps) (T := nT_Steps) (N := 3) hx hb hts ni_Steps hown hK hP 0 rfl rfl 2 (by decide) (hts (.fieldLink nR_Steps 16 "RoomClimate$Steps" "size" "I") tt_34) (fun _ h9 => h9) rfl nd_Steps_amountUpTo_4 ?_
      refine lv_icmp_ge (tgt := 35) hx hb nd_Steps_amountUpTo_7 (by decide) (fun c1 => ?_) (fun c1 => ?_)
      · replace hR := q_p c1 hR
        refine lv_aload_n hx hb nd_Steps_amountUpTo_35 rfl (lv_at hl 0 rfl) ?_
        refine va_get (D := D) (ci := 6) (v := .int size_) (C := nR_Steps) (T := nT_Steps) (N := 3) hx hb hts ni_Steps hown hK hP 0 rfl rfl 2 (by decide) (hts (.fieldLink nR_Steps 16 "RoomClimate$Steps" "size" "I") tt_34) (fun _ h9 => h9) rfl nd_Steps_amountUpTo_36 ?_
        obtain ⟨j3_0, hJ3, hR⟩ := q_b1 hR
        have hN3 : ∀ (ls : Array Slot), lv_has ls 4 [(0, .ref qa0), (1, .long x1), (3, .int i3_2)] → W p l e rm_Steps_amountUpTo s m ar below meth c s.heap [] 0 0 Q (F0 m 57 ls [.int j3_0]) := by
          intro ls  hl
          exact hret _ _ _ nd_Steps_amountUpTo_57 (Option.some.inj hR)
        refine lv_if_le (tgt := 56) hx hb nd_Steps_amountUpTo_39 (by decide) (fun c2 => ?_) (fun c2 => ?_)
        · have hR := q_p c2 hJ3
          refine lv_iconst (v := 0) hx hb nd_Steps_amountUpTo_56 (by decide) ?_
          cases hR
          exact hN3 _  (lv_sub hl [0, 1, 2] rfl)
        · have hR := q_n c2 hJ3
          refine lv_aload_n hx hb nd_Steps_amountUpTo_42 rfl (lv_at hl 0 rfl) ?_
          refine va_get (D := D) (ci := 6) (v := .ref qamounts) (C := nR_Steps) (T := nT_Steps) (N := 3) hx hb hts ni_Steps hown hK hP 0 rfl rfl 1 (by decide) (hts (.fieldLink nR_Steps 13 "RoomClimate$Steps" "amounts" "[I") tt_33) (fun _ h9 => h9) rfl nd_Steps_amountUpTo_43 ?_
          refine lv_aload_n hx hb nd_Steps_amountUpTo_46 rfl (lv_at hl 0 rfl) ?_
          refine va_get (D := D) (ci := 6) (v := .int size_) (C := nR_Steps) (T := nT_Steps) (N := 3) hx hb hts ni_Steps hown hK hP 0 rfl rfl 2 (by decide) (hts (.fieldLink nR_Steps 16 "RoomClimate$Steps" "size" "I") tt_34) (fun _ h9 => h9) rfl nd_Steps_amountUpTo_47 ?_
          refine lv_iconst (v := 1) hx hb nd_Steps_amountUpTo_50 (by decide) ?_
          refine lv_isub hx hb nd_Steps_amountUpTo_51 ?_
          obtain ⟨h4, hR⟩ := q_ix hR
          refine va_iald hx hb hK hP 1 0 rfl rfl h4 nd_Steps_amountUpTo_52 ?_
          refine lv_goto (tgt := 57) hx hb nd_Steps_amountUpTo_53 (by decide) ?_
          cases hR
          exact hN3 _  (lv_sub hl [0, 1, 2] rfl)
      · replace hR := q_n c1 hR
        refine lv_aload_n hx hb nd_Steps_amountUpTo_10 rfl (lv_at hl 0 rfl) ?_
        refine va_get (D := D) (ci := 6) (v := .ref qlevels) (C := nR_Steps) (T := nT_Steps) (N := 3) hx hb hts ni_Steps hown hK hP 0 rfl rfl 0 (by decide) (hts (.fieldLink nR_Steps 7 "RoomClimate$Steps" "levels" "[I") tt_32) (fun _ h9 => h9) rfl nd_Steps_amountUpTo_11 ?_
        refine lv_iload_n hx hb nd_Steps_amountUpTo_14 rfl (lv_at hl 2 rfl) ?_
        obtain ⟨h5, hR⟩ := q_ix hR
        refine va_iald hx hb hK hP 2 0 rfl rfl h5 nd_Steps_amountUpTo_15 ?_
        refine lv_i2l hx hb nd_Steps_amountUpTo_16 rfl ?_
        refine lv_lload_n hx hb nd_Steps_amountUpTo_17 rfl (lv_at hl 1 rfl) ?_
        refine W.lcmp hx hb nd_Steps_amountUpTo_18 ?_
        refine lv_if_lt (tgt := 29) hx hb nd_Steps_amountUpTo_19 (by decide) (fun c6 => ?_) (fun c6 => ?_)
        · replace hR := q_p c6 hR
          refine lv_iinc (v := i3_2 + 1) (lv' := [(3, .int (i3_2 + 1)), (0, .ref qa0), (1, .long x1)]) hx hb nd_Steps_amountUpTo_29 hl (k := 2) rfl (by first | rfl | decide) (by decide) rfl (fun ls hl => ?_)
          refine lv_goto (tgt := 2) hx hb nd_Steps_amountUpTo_32 (by decide) ?_
          exact ih2 (i3_2 + 1) _ hR  (lv_sub hl [1, 2, 0] rfl)
        · replace hR := q_n c6 hR
          refine lv_aload_n hx hb nd_Steps_amountUpTo_22 rfl (lv_at hl 0 rfl) ?_
          refine va_get (D := D) (ci := 6) (v := .ref qamounts) (C := nR_Steps) (T := nT_Steps) (N := 3) hx hb hts ni_Steps hown hK hP 0 rfl rfl 1 (by decide) (hts (.fieldLink nR_Steps 13 "RoomClimate$Steps" "amounts" "[I") tt_33) (fun _ h9 => h9) rfl nd_Steps_amountUpTo_23 ?_
          refine lv_iload_n hx hb nd_Steps_amountUpTo_26 rfl (lv_at hl 2 rfl) ?_
          refine va_iald hx hb hK hP 1 0 rfl rfl h5 nd_Steps_amountUpTo_27 ?_
          exact hret _ _ _ nd_Steps_amountUpTo_28 (Option.some.inj hR)
  exact hL2 400 (0 : Int32) _ hR  (lv_sub hl [1, 2, 0] rfl)
def rm_Interior_gainWater : Room := { frames := 0, cells := 0, slots := 0, locals := 0 }
theorem kc_Interior_gainWater : k_cal nY_Interior_gainWater nC_Interior_gainWater 4 none 2 := ⟨tt_466, tt_4, by decide +kernel⟩
theorem kv_Interior_gainWater : k_vir nY_Interior_gainWater := ⟨tt_464, tt_465⟩
set_option maxHeartbeats 4000000 in
set_option maxRecDepth 100000 in
theorem cn_Interior_gainWater (l : Launch) (D : va_G) (ca : Nat → ClassId) (qa0 qheatBooks qwaterBooks : Nat) (volume_ : Int32) (share_ : Int32) (heat_ : Int64) (water_ : Int64) (waterBooks_ : Nat → Int64) (x1 : Int32) (x2 : Int64) (R0 : Int64) (R1 : Nat → Int64) (hR : fn_Interior_gainWater water_ waterBooks_ x1 x2 = some (R0, R1)) (sz : Nat) : Met l nY_Interior_gainWater (Cond.code nY_Interior_gainWater nC_Interior_gainWater 4 none :: TT) rm_Interior_gainWater (wr_P [.ref qa0, .int x1, .long x2] D ca [oc_Interior qa0 qheatBooks qwaterBooks volume_ share_ heat_ water_, aJ qwaterBooks ca 5 waterBooks_] sz) (va_Qv (fun (_ : Unit) => True) (wr_B D [oc_Interior qa0 qheatBooks qwaterBooks volume_ share_ heat_ water_, aJ qwaterBooks ca 5 waterBooks_] sz [oc_Interior qa0 qheatBooks qwaterBooks volume_ share_ heat_ R0, aJ qwaterBooks ca 5 R1]) (va_A [oc_Interior qa0 qheatBooks qwaterBooks volume_ share_ heat_ water_, aJ qwaterBooks ca 5 waterBooks_] sz)) 0 0 (va_A [oc_Interior qa0 qheatBooks qwaterBooks volume_ share_ heat_ water_, aJ qwaterBooks ca 5 waterBooks_] sz) := by
  refine wr_ofV (R := (R0, R1)) (w1 := fun r : Int64 × (Nat → Int64) => [oc_Interior qa0 qheatBooks qwaterBooks volume_ share_ heat_ r.1, aJ qwaterBooks ca 5 r.2]) (by decide +kernel) (Nat.le_of_ble_eq_true rfl) ?_
  intro p e s m below meth c Q ar ls hx hb hml hts hown hP hK A hD hA hl hret
  have hS : va_S A s.heap s.heap [] := va_S.rf
  have hown : s.vm.findClass nR_Interior = some m.cls := hown
  have hl : lv_has ls 4 [(0, .ref qa0), (1, .int x1), (2, .long x2)] := hl
  unfold fn_Interior_gainWater at hR
  refine lv_aload_n hx hb nd_Interior_gainWater_0 rfl (lv_at hl 0 rfl) ?_
  refine lv_dup hx hb nd_Interior_gainWater_1 rfl ?_
  refine va_get (D := D) (ci := 3) (v := .long water_) (C := nR_Interior) (T := nT_Interior) (N := 6) hx hb hts ni_Interior hown hK hP 0 rfl rfl 5 (by decide) (hts (.fieldLink nR_Interior 33 "RoomClimate$Interior" "water" "J") tt_68) (fun _ h9 => h9) rfl nd_Interior_gainWater_2 ?_
  refine lv_lload_n hx hb nd_Interior_gainWater_5 rfl (lv_at hl 2 rfl) ?_
  refine lv_ladd hx hb nd_Interior_gainWater_6 ?_
  refine va_put (D := D) (ci := 3) (v := .long (water_ + x2)) (ty := .long) (C := nR_Interior) (T := nT_Interior) (N := 6) hx hb hts ni_Interior nt_Interior nt_Interior_ok nn_Interior hown hK hP hD hS 0 rfl rfl 5 (by decide) (hts (.fieldLink nR_Interior 33 "RoomClimate$Interior" "water" "J") tt_68) (fun _ h9 => h9) rfl (by decide +kernel) rfl rfl (Nat.le_of_ble_eq_true rfl) nd_Interior_gainWater_7 (fun H locs hP hD hS => ?_)
  have hP : va_P D vwCl [oc_Interior qa0 qheatBooks qwaterBooks volume_ share_ heat_ (water_ + x2), aJ qwaterBooks ca 5 waterBooks_] H := hP
  have hD : va_D A [oc_Interior qa0 qheatBooks qwaterBooks volume_ share_ heat_ (water_ + x2), aJ qwaterBooks ca 5 waterBooks_] := hD
  refine lv_aload_n hx hb nd_Interior_gainWater_10 rfl (lv_at hl 0 rfl) ?_
  refine va_get (D := D) (ci := 3) (v := .ref qwaterBooks) (C := nR_Interior) (T := nT_Interior) (N := 6) hx hb hts ni_Interior hown hK hP 0 rfl rfl 1 (by decide) (hts (.fieldLink nR_Interior 15 "RoomClimate$Interior" "waterBooks" "[J") tt_60) (fun _ h9 => h9) rfl nd_Interior_gainWater_11 ?_
  refine lv_iload_n hx hb nd_Interior_gainWater_14 rfl (lv_at hl 1 rfl) ?_
  refine lv_dup2_11 hx hb nd_Interior_gainWater_15 rfl rfl ?_
  obtain ⟨h1, hR⟩ := q_ix hR
  refine va_lald hx hb hK hP 1 1 rfl rfl h1 nd_Interior_gainWater_16 ?_
  refine lv_lload_n hx hb nd_Interior_gainWater_17 rfl (lv_at hl 2 rfl) ?_
  refine lv_ladd hx hb nd_Interior_gainWater_18 ?_
  refine va_last hx hb hK hP hD hS 1 1 rfl rfl h1 nd_Interior_gainWater_19 (fun H locs hP hD hS => ?_)
  have hP : va_P D vwCl [oc_Interior qa0 qheatBooks qwaterBooks volume_ share_ heat_ (water_ + x2), aJ qwaterBooks ca 5 (vp_updL waterBooks_ x1.toNatClampNeg ((waterBooks_ x1.toNatClampNeg) + x2))] H := hP
  have hD : va_D A [oc_Interior qa0 qheatBooks qwaterBooks volume_ share_ heat_ (water_ + x2), aJ qwaterBooks ca 5 (vp_updL waterBooks_ x1.toNatClampNeg ((waterBooks_ x1.toNatClampNeg) + x2))] := hD
  exact hret (water_ + x2, vp_updL waterBooks_ x1.toNatClampNeg ((waterBooks_ x1.toNatClampNeg) + x2)) _ _ _ _ nd_Interior_gainWater_20 hR hP hD hS
def rm_Goods_soak : Room := { frames := 3, cells := 0, slots := 0, locals := 68 }
theorem kc_Goods_soak : k_cal nY_Goods_soak nC_Goods_soak 6 none 1 := ⟨tt_482, tt_7, by decide +kernel⟩
theorem kv_Goods_soak : k_vir nY_Goods_soak := ⟨tt_480, tt_481⟩
set_option maxHeartbeats 4000000 in
set_option maxRecDepth 100000 in
theorem cn_Goods_soak (l : Launch) (D : va_G) (ca : Nat → ClassId) (qa0 qrows qa1 qheatBooks qwaterBooks qlevels qamounts : Nat) (kilograms_ : Int32) (load_ : Int64) (volume_ : Int32) (share_ : Int32) (heat_ : Int64) (water_ : Int64) (size_ : Int32) (amounts_ : Nat → Int32) (levels_ : Nat → Int32) (waterBooks_ : Nat → Int64) (n_rows : Nat) (R0 : Int64) (R1 : Int64) (R2 : Nat → Int64) (hR : fn_Goods_soak kilograms_ load_ volume_ water_ size_ amounts_ levels_ waterBooks_ n_rows = some (R0, R1, R2)) (sz : Nat) : Met l nY_Goods_soak (Cond.code nY_Goods_soak nC_Goods_soak 6 none :: TT) rm_Goods_soak (wr_P [.ref qa0, .ref qa1] D ca [oc_Goods qa0 qrows kilograms_ load_, oc_Interior qa1 qheatBooks qwaterBooks volume_ share_ heat_ water_, oc_Steps qrows qlevels qamounts size_, aI qamounts ca n_rows amounts_, aI qlevels ca n_rows levels_, aJ qwaterBooks ca 5 waterBooks_] sz) (va_Qv (fun (_ : Unit) => True) (wr_B D [oc_Goods qa0 qrows kilograms_ load_, oc_Interior qa1 qheatBooks qwaterBooks volume_ share_ heat_ water_, oc_Steps qrows qlevels qamounts size_, aI qamounts ca n_rows amounts_, aI qlevels ca n_rows levels_, aJ qwaterBooks ca 5 waterBooks_] sz [oc_Goods qa0 qrows kilograms_ R0, oc_Interior qa1 qheatBooks qwaterBooks volume_ share_ heat_ R1, oc_Steps qrows qlevels qamounts size_, aI qamounts ca n_rows amounts_, aI qlevels ca n_rows levels_, aJ qwaterBooks ca 5 R2]) (va_A [oc_Goods qa0 qrows kilograms_ load_, oc_Interior qa1 qheatBooks qwaterBooks volume_ share_ heat_ water_, oc_Steps qrows qlevels qamounts size_, aI qamounts ca n_rows amounts_, aI qlevels ca n_rows levels_, aJ qwaterBooks ca 5 waterBooks_] sz)) 0 0 (va_A [oc_Goods qa0 qrows kilograms_ load_, oc_Interior qa1 qheatBooks qwaterBooks volume_ share_ heat_ water_, oc_Steps qrows qlevels qamounts size_, aI qamounts ca n_rows amounts_, aI qlevels ca n_rows levels_, aJ qwaterBooks ca 5 waterBooks_] sz) := by
  refine wr_ofV (R := (R0, R1, R2)) (w1 := fun r : Int64 × Int64 × (Nat → Int64) => [oc_Goods qa0 qrows kilograms_ r.1, oc_Interior qa1 qheatBooks qwaterBooks volume_ share_ heat_ r.2.1, oc_Steps qrows qlevels qamounts size_, aI qamounts ca n_rows amounts_, aI qlevels ca n_rows levels_, aJ qwaterBooks ca 5 r.2.2]) (by decide +kernel) (Nat.le_of_ble_eq_true rfl) ?_
  intro p e s m below meth c Q ar ls hx hb hml hts hown hP hK A hD hA hl hret
  have hS : va_S A s.heap s.heap [] := va_S.rf
  have hown : s.vm.findClass nR_Goods = some m.cls := hown
  have hl : lv_has ls 6 [(0, .ref qa0), (1, .ref qa1)] := hl
  unfold fn_Goods_soak at hR
  refine lv_aload_n hx hb nd_Goods_soak_0 rfl (lv_at hl 0 rfl) ?_
  refine va_get (D := D) (ci := 1) (v := .int kilograms_) (C := nR_Goods) (T := nT_Goods) (N := 3) hx hb hts ni_Goods hown hK hP 0 rfl rfl 1 (by decide) (hts (.fieldLink nR_Goods 9 "RoomClimate$Goods" "kilograms" "I") tt_138) (fun _ h9 => h9) rfl nd_Goods_soak_1 ?_
  refine lv_i2l hx hb nd_Goods_soak_4 rfl ?_
  refine lv_aload_n hx hb nd_Goods_soak_5 rfl (lv_at hl 0 rfl) ?_
  refine va_get (D := D) (ci := 1) (v := .ref qrows) (C := nR_Goods) (T := nT_Goods) (N := 3) hx hb hts ni_Goods hown hK hP 0 rfl rfl 0 (by decide) (hts (.fieldLink nR_Goods 19 "RoomClimate$Goods" "rows" "LRoomClimate$Steps;") tt_136) (fun _ h9 => h9) rfl nd_Goods_soak_6 ?_
  refine lv_aload_n hx hb nd_Goods_soak_9 rfl (lv_at hl 1 rfl) ?_
  obtain ⟨r1, e1, hR⟩ := q_b1 hR
  refine k_rVJ (As := []) (rest := [.ref qrows, .long kilograms_.toInt64]) (r := r1) hx hb hml hown hts (cn_Interior_moisture l D ca qa1 qheatBooks qwaterBooks volume_ share_ heat_ water_ r1 e1) kc_Interior_moisture kv_Interior_moisture tt_483 ⟨by decide, by decide⟩ rfl rfl hP hK [1] rfl 0 rfl rfl rfl rfl hl.1 (Nat.le_of_ble_eq_true rfl) rfl nd_Goods_soak_10 ⟨Nat.zero_le _, Nat.zero_le _⟩ ?_
  obtain ⟨r2, e2, hR⟩ := q_b1 hR
  refine k_rVI (As := [.long r1]) (rest := [.long kilograms_.toInt64]) (r := r2) hx hb hml hown hts (cn_Steps_amountUpTo l D ca qrows qlevels qamounts size_ amounts_ levels_ n_rows r1 r2 e2) kc_Steps_amountUpTo kv_Steps_amountUpTo tt_484 ⟨by decide, by decide⟩ rfl rfl hP hK [2, 3, 4] rfl 0 rfl rfl rfl rfl hl.1 (Nat.le_of_ble_eq_true rfl) rfl nd_Goods_soak_13 ⟨Nat.zero_le _, Nat.zero_le _⟩ ?_
  refine lv_i2l hx hb nd_Goods_soak_16 rfl ?_
  refine lv_lmul hx hb nd_Goods_soak_17 ?_
  refine lv_lstore_n (lv' := [(2, .long (kilograms_.toInt64 * r2.toInt64)), (0, .ref qa0), (1, .ref qa1)]) hx hb nd_Goods_soak_18 rfl hl (by decide) rfl (fun ls hl => ?_)
  refine lv_lload_n hx hb nd_Goods_soak_19 rfl (lv_at hl 0 rfl) ?_
  refine lv_aload_n hx hb nd_Goods_soak_20 rfl (lv_at hl 1 rfl) ?_
  refine va_get (D := D) (ci := 1) (v := .long load_) (C := nR_Goods) (T := nT_Goods) (N := 3) hx hb hts ni_Goods hown hK hP 0 rfl rfl 2 (by decide) (hts (.fieldLink nR_Goods 15 "RoomClimate$Goods" "load" "J") tt_140) (fun _ h9 => h9) rfl nd_Goods_soak_21 ?_
  refine lv_lsub hx hb nd_Goods_soak_24 ?_
  refine lv_ldc2 hx hb hown (hts _ tt_488) nd_Goods_soak_25 ?_
  obtain ⟨r3, e3, hR⟩ := q_b1 hR
  refine k_rSNJ (As := [.long ((kilograms_.toInt64 * r2.toInt64) - load_), .long (4 : Int64)]) (rest := []) (r := r3) hx hb hml hown hts (cn_Room_by l D ca ((kilograms_.toInt64 * r2.toInt64) - load_) (4 : Int64) r3 e3) kc_Room_by ks_Room_by tt_489 ⟨by decide, by decide⟩ rfl rfl hP hK [] rfl rfl hl.1 (Nat.le_of_ble_eq_true rfl) rfl nd_Goods_soak_28 ⟨Nat.zero_le _, Nat.zero_le _⟩ ?_
  refine lv_aload_n hx hb nd_Goods_soak_31 rfl (lv_at hl 2 rfl) ?_
  refine va_getN (D := D) (ci := 3) (v := .long water_) (C := nR_Interior) (T := nT_Interior) (N := 6) hx hb hts ni_Interior hown hK hP 1 rfl rfl 5 (by decide) (hts (.fieldLinkNest nR_Goods 41 "RoomClimate$Interior" "water" "J" "RoomClimate") tt_69) (fun _ h9 => h9) rfl nd_Goods_soak_32 ?_
  refine va_mmin_long hx hb (hml.trans hl.1.symm) hown (hts _ tt_490) (hts _ tt_491) (hts _ tt_17) (hts _ tt_492) (by decide) (Nat.le_of_ble_eq_true rfl) (Nat.zero_le _) (Nat.zero_le _) nd_Goods_soak_35 ?_
  refine lv_lstore (lv' := [(4, .long (if water_ < r3 then water_ else r3)), (2, .long (kilograms_.toInt64 * r2.toInt64)), (0, .ref qa0), (1, .ref qa1)]) hx hb nd_Goods_soak_38 hl (by decide) rfl (fun ls hl => ?_)
  refine lv_aload_n hx hb nd_Goods_soak_40 rfl (lv_at hl 2 rfl) ?_
  refine lv_dup hx hb nd_Goods_soak_41 rfl ?_
  refine va_get (D := D) (ci := 1) (v := .long load_) (C := nR_Goods) (T := nT_Goods) (N := 3) hx hb hts ni_Goods hown hK hP 0 rfl rfl 2 (by decide) (hts (.fieldLink nR_Goods 15 "RoomClimate$Goods" "load" "J") tt_140) (fun _ h9 => h9) rfl nd_Goods_soak_42 ?_
  refine lv_lload hx hb nd_Goods_soak_45 (lv_at hl 0 rfl) ?_
  refine lv_ladd hx hb nd_Goods_soak_47 ?_
  refine va_put (D := D) (ci := 1) (v := .long (load_ + (if water_ < r3 then water_ else r3))) (ty := .long) (C := nR_Goods) (T := nT_Goods) (N := 3) hx hb hts ni_Goods nt_Goods nt_Goods_ok nn_Goods hown hK hP hD hS 0 rfl rfl 2 (by decide) (hts (.fieldLink nR_Goods 15 "RoomClimate$Goods" "load" "J") tt_140) (fun _ h9 => h9) rfl (by decide +kernel) rfl rfl (Nat.le_of_ble_eq_true rfl) nd_Goods_soak_48 (fun H locs hP hD hS => ?_)
  have hP : va_P D vwCl [oc_Goods qa0 qrows kilograms_ (load_ + (if water_ < r3 then water_ else r3)), oc_Interior qa1 qheatBooks qwaterBooks volume_ share_ heat_ water_, oc_Steps qrows qlevels qamounts size_, aI qamounts ca n_rows amounts_, aI qlevels ca n_rows levels_, aJ qwaterBooks ca 5 waterBooks_] H := hP
  have hD : va_D A [oc_Goods qa0 qrows kilograms_ (load_ + (if water_ < r3 then water_ else r3)), oc_Interior qa1 qheatBooks qwaterBooks volume_ share_ heat_ water_, oc_Steps qrows qlevels qamounts size_, aI qamounts ca n_rows amounts_, aI qlevels ca n_rows levels_, aJ qwaterBooks ca 5 waterBooks_] := hD
  refine lv_aload_n hx hb nd_Goods_soak_51 rfl (lv_at hl 3 rfl) ?_
  refine lv_iconst (v := 2) hx hb nd_Goods_soak_52 (by decide) ?_
  refine lv_lload hx hb nd_Goods_soak_53 (lv_at hl 0 rfl) ?_
  refine lv_lneg hx hb nd_Goods_soak_55 ?_
  obtain ⟨u4_0, u4_1, e4, hR⟩ := q_b2 hR
  refine k_wVV (wr := [oc_Goods qa0 qrows kilograms_ (load_ + (if water_ < r3 then water_ else r3)), oc_Steps qrows qlevels qamounts size_, aI qamounts ca n_rows amounts_, aI qlevels ca n_rows levels_]) (w2 := [oc_Goods qa0 qrows kilograms_ (load_ + (if water_ < r3 then water_ else r3)), oc_Interior qa1 qheatBooks qwaterBooks volume_ share_ heat_ u4_0, oc_Steps qrows qlevels qamounts size_, aI qamounts ca n_rows amounts_, aI qlevels ca n_rows levels_, aJ qwaterBooks ca 5 u4_1]) (As := [.int (2 : Int32), .long (-(if water_ < r3 then water_ else r3))]) (rest := []) hx hb hml hown hts (cn_Interior_gainWater l D ca qa1 qheatBooks qwaterBooks volume_ share_ heat_ water_ waterBooks_ (2 : Int32) (-(if water_ < r3 then water_ else r3)) u4_0 u4_1 e4 _) kc_Interior_gainWater kv_Interior_gainWater tt_493 ⟨by decide, by decide⟩ rfl rfl hP hK hD hS hA [1, 5] [0, 2, 3, 4] [0, 4, 1, 2, 3, 5] rfl (by decide) rfl (by decide) (by decide) rfl (by decide) 0 rfl rfl rfl rfl hl.1 (Nat.le_of_ble_eq_true rfl) rfl nd_Goods_soak_56 ⟨Nat.zero_le _, Nat.zero_le _⟩ (fun H locs hP hD hS => ?_)
  exact hret (load_ + (if water_ < r3 then water_ else r3), u4_0, u4_1) _ _ _ _ nd_Goods_soak_59 hR hP hD hS
def rm_Goods_copyFrom : Room := { frames := 0, cells := 0, slots := 0, locals := 0 }
theorem kc_Goods_copyFrom : k_cal nY_Goods_copyFrom nC_Goods_copyFrom 2 none 1 := ⟨tt_690, tt_7, by decide +kernel⟩
theorem kv_Goods_copyFrom : k_vir nY_Goods_copyFrom := ⟨tt_688, tt_689⟩
set_option maxHeartbeats 4000000 in
set_option maxRecDepth 100000 in
theorem cn_Goods_copyFrom (l : Launch) (D : va_G) (ca : Nat → ClassId) (qa1 qrows qa0 qrows2 : Nat) (kilograms_ : Int32) (load_ : Int64) (kilograms_2 : Int32) (load_2 : Int64) (R0 : Int32) (R1 : Int64) (hR : fn_Goods_copyFrom kilograms_ load_ = some (R0, R1)) (sz : Nat) : Met l nY_Goods_copyFrom (Cond.code nY_Goods_copyFrom nC_Goods_copyFrom 2 none :: TT) rm_Goods_copyFrom (wr_P [.ref qa0, .ref qa1] D ca [oc_Goods qa1 qrows kilograms_ load_, oc_Goods qa0 qrows2 kilograms_2 load_2] sz) (va_Qv (fun (_ : Unit) => True) (wr_B D [oc_Goods qa1 qrows kilograms_ load_, oc_Goods qa0 qrows2 kilograms_2 load_2] sz [oc_Goods qa1 qrows kilograms_ load_, oc_Goods qa0 qrows2 R0 R1]) (va_A [oc_Goods qa1 qrows kilograms_ load_, oc_Goods qa0 qrows2 kilograms_2 load_2] sz)) 0 0 (va_A [oc_Goods qa1 qrows kilograms_ load_, oc_Goods qa0 qrows2 kilograms_2 load_2] sz) := by
  refine wr_ofV (R := (R0, R1)) (w1 := fun r : Int32 × Int64 => [oc_Goods qa1 qrows kilograms_ load_, oc_Goods qa0 qrows2 r.1 r.2]) (by decide +kernel) (Nat.le_of_ble_eq_true rfl) ?_
  intro p e s m below meth c Q ar ls hx hb hml hts hown hP hK A hD hA hl hret
  have hS : va_S A s.heap s.heap [] := va_S.rf
  have hown : s.vm.findClass nR_Goods = some m.cls := hown
  have hl : lv_has ls 2 [(0, .ref qa0), (1, .ref qa1)] := hl
  unfold fn_Goods_copyFrom at hR
  refine lv_aload_n hx hb nd_Goods_copyFrom_0 rfl (lv_at hl 0 rfl) ?_
  refine lv_aload_n hx hb nd_Goods_copyFrom_1 rfl (lv_at hl 1 rfl) ?_
  refine va_get (D := D) (ci := 1) (v := .int kilograms_) (C := nR_Goods) (T := nT_Goods) (N := 3) hx hb hts ni_Goods hown hK hP 0 rfl rfl 1 (by decide) (hts (.fieldLink nR_Goods 9 "RoomClimate$Goods" "kilograms" "I") tt_138) (fun _ h9 => h9) rfl nd_Goods_copyFrom_2 ?_
  refine va_put (D := D) (ci := 1) (v := .int kilograms_) (ty := .int) (C := nR_Goods) (T := nT_Goods) (N := 3) hx hb hts ni_Goods nt_Goods nt_Goods_ok nn_Goods hown hK hP hD hS 1 rfl rfl 1 (by decide) (hts (.fieldLink nR_Goods 9 "RoomClimate$Goods" "kilograms" "I") tt_138) (fun _ h9 => h9) rfl (by decide +kernel) rfl rfl (Nat.le_of_ble_eq_true rfl) nd_Goods_copyFrom_5 (fun H locs hP hD hS => ?_)
  have hP : va_P D vwCl [oc_Goods qa1 qrows kilograms_ load_, oc_Goods qa0 qrows2 kilograms_ load_2] H := hP
  have hD : va_D A [oc_Goods qa1 qrows kilograms_ load_, oc_Goods qa0 qrows2 kilograms_ load_2] := hD
  refine lv_aload_n hx hb nd_Goods_copyFrom_8 rfl (lv_at hl 0 rfl) ?_
  refine lv_aload_n hx hb nd_Goods_copyFrom_9 rfl (lv_at hl 1 rfl) ?_
  refine va_get (D := D) (ci := 1) (v := .long load_) (C := nR_Goods) (T := nT_Goods) (N := 3) hx hb hts ni_Goods hown hK hP 0 rfl rfl 2 (by decide) (hts (.fieldLink nR_Goods 15 "RoomClimate$Goods" "load" "J") tt_140) (fun _ h9 => h9) rfl nd_Goods_copyFrom_10 ?_
  refine va_put (D := D) (ci := 1) (v := .long load_) (ty := .long) (C := nR_Goods) (T := nT_Goods) (N := 3) hx hb hts ni_Goods nt_Goods nt_Goods_ok nn_Goods hown hK hP hD hS 1 rfl rfl 2 (by decide) (hts (.fieldLink nR_Goods 15 "RoomClimate$Goods" "load" "J") tt_140) (fun _ h9 => h9) rfl (by decide +kernel) rfl rfl (Nat.le_of_ble_eq_true rfl) nd_Goods_copyFrom_13 (fun H locs hP hD hS => ?_)
  have hP : va_P D vwCl [oc_Goods qa1 qrows kilograms_ load_, oc_Goods qa0 qrows2 kilograms_ load_] H := hP
  have hD : va_D A [oc_Goods qa1 qrows kilograms_ load_, oc_Goods qa0 qrows2 kilograms_ load_] := hD
  exact hret (kilograms_, load_) _ _ _ _ nd_Goods_copyFrom_16 hR hP hD hS
def rm_Interior_warmth : Room := { frames := 2, cells := 0, slots := 0, locals := 48 }
theorem kc_Interior_warmth : k_cal nY_Interior_warmth nC_Interior_warmth 1 (some .long) 0 := ⟨tt_251, tt_4, by decide +kernel⟩
theorem kv_Interior_warmth : k_vir nY_Interior_warmth := ⟨tt_249, tt_250⟩
set_option maxHeartbeats 4000000 in
set_option maxRecDepth 100000 in
theorem cn_Interior_warmth (l : Launch) (D : va_G) (ca : Nat → ClassId) (qa0 qheatBooks qwaterBooks : Nat) (volume_ : Int32) (share_ : Int32) (heat_ : Int64) (water_ : Int64) (R0 : Int64) (hR : fn_Interior_warmth volume_ heat_ = some R0) : Met l nY_Interior_warmth (Cond.code nY_Interior_warmth nC_Interior_warmth 1 (some .long) :: TT) rm_Interior_warmth (rd_P [.ref qa0] D ca [oc_Interior qa0 qheatBooks qwaterBooks volume_ share_ heat_ water_]) (vp_Sl (fun x => x = R0)) 0 0 (fun _ => False) := by
  refine rd_ofJ (by decide +kernel) (Nat.le_of_ble_eq_true rfl) ?_
  intro p e s m below meth c Q ar ls hx hb hml hts hown hP hK hl hret
  have hown : s.vm.findClass nR_Interior = some m.cls := hown
  have hl : lv_has ls 1 [(0, .ref qa0)] := hl
  unfold fn_Interior_warmth at hR
  refine lv_aload_n hx hb nd_Interior_warmth_0 rfl (lv_at hl 0 rfl) ?_
  refine va_get (D := D) (ci := 3) (v := .long heat_) (C := nR_Interior) (T := nT_Interior) (N := 6) hx hb hts ni_Interior hown hK hP 0 rfl rfl 4 (by decide) (hts (.fieldLink nR_Interior 27 "RoomClimate$Interior" "heat" "J") tt_66) (fun _ h9 => h9) rfl nd_Interior_warmth_1 ?_
  refine lv_aload_n hx hb nd_Interior_warmth_4 rfl (lv_at hl 0 rfl) ?_
  refine va_get (D := D) (ci := 3) (v := .int volume_) (C := nR_Interior) (T := nT_Interior) (N := 6) hx hb hts ni_Interior hown hK hP 0 rfl rfl 2 (by decide) (hts (.fieldLink nR_Interior 18 "RoomClimate$Interior" "volume" "I") tt_62) (fun _ h9 => h9) rfl nd_Interior_warmth_5 ?_
  refine lv_i2l hx hb nd_Interior_warmth_8 rfl ?_
  obtain ⟨r1, e1, hR⟩ := q_b1 hR
  refine k_rSNJ (As := [.long heat_, .long volume_.toInt64]) (rest := []) (r := r1) hx hb hml hown hts (cn_Room_by l D ca heat_ volume_.toInt64 r1 e1) kc_Room_by ks_Room_by tt_252 ⟨by decide, by decide⟩ rfl rfl hP hK [] rfl rfl hl.1 (Nat.le_of_ble_eq_true rfl) rfl nd_Interior_warmth_9 ⟨Nat.zero_le _, Nat.zero_le _⟩ ?_
  exact hret _ _ _ nd_Interior_warmth_12 (Option.some.inj hR)
def rm_Interior_gainHeat : Room := { frames := 0, cells := 0, slots := 0, locals := 0 }
theorem kc_Interior_gainHeat : k_cal nY_Interior_gainHeat nC_Interior_gainHeat 4 none 2 := ⟨tt_461, tt_4, by decide +kernel⟩
theorem kv_Interior_gainHeat : k_vir nY_Interior_gainHeat := ⟨tt_459, tt_460⟩
set_option maxHeartbeats 4000000 in
set_option maxRecDepth 100000 in
theorem cn_Interior_gainHeat (l : Launch) (D : va_G) (ca : Nat → ClassId) (qa0 qheatBooks qwaterBooks : Nat) (volume_ : Int32) (share_ : Int32) (heat_ : Int64) (water_ : Int64) (heatBooks_ : Nat → Int64) (x1 : Int32) (x2 : Int64) (R0 : Int64) (R1 : Nat → Int64) (hR : fn_Interior_gainHeat heat_ heatBooks_ x1 x2 = some (R0, R1)) (sz : Nat) : Met l nY_Interior_gainHeat (Cond.code nY_Interior_gainHeat nC_Interior_gainHeat 4 none :: TT) rm_Interior_gainHeat (wr_P [.ref qa0, .int x1, .long x2] D ca [oc_Interior qa0 qheatBooks qwaterBooks volume_ share_ heat_ water_, aJ qheatBooks ca 5 heatBooks_] sz) (va_Qv (fun (_ : Unit) => True) (wr_B D [oc_Interior qa0 qheatBooks qwaterBooks volume_ share_ heat_ water_, aJ qheatBooks ca 5 heatBooks_] sz [oc_Interior qa0 qheatBooks qwaterBooks volume_ share_ R0 water_, aJ qheatBooks ca 5 R1]) (va_A [oc_Interior qa0 qheatBooks qwaterBooks volume_ share_ heat_ water_, aJ qheatBooks ca 5 heatBooks_] sz)) 0 0 (va_A [oc_Interior qa0 qheatBooks qwaterBooks volume_ share_ heat_ water_, aJ qheatBooks ca 5 heatBooks_] sz) := by
  refine wr_ofV (R := (R0, R1)) (w1 := fun r : Int64 × (Nat → Int64) => [oc_Interior qa0 qheatBooks qwaterBooks volume_ share_ r.1 water_, aJ qheatBooks ca 5 r.2]) (by decide +kernel) (Nat.le_of_ble_eq_true rfl) ?_
  intro p e s m below meth c Q ar ls hx hb hml hts hown hP hK A hD hA hl hret
  have hS : va_S A s.heap s.heap [] := va_S.rf
  have hown : s.vm.findClass nR_Interior = some m.cls := hown
  have hl : lv_has ls 4 [(0, .ref qa0), (1, .int x1), (2, .long x2)] := hl
  unfold fn_Interior_gainHeat at hR
  refine lv_aload_n hx hb nd_Interior_gainHeat_0 rfl (lv_at hl 0 rfl) ?_
  refine lv_dup hx hb nd_Interior_gainHeat_1 rfl ?_
  refine va_get (D := D) (ci := 3) (v := .long heat_) (C := nR_Interior) (T := nT_Interior) (N := 6) hx hb hts ni_Interior hown hK hP 0 rfl rfl 4 (by decide) (hts (.fieldLink nR_Interior 27 "RoomClimate$Interior" "heat" "J") tt_66) (fun _ h9 => h9) rfl nd_Interior_gainHeat_2 ?_
  refine lv_lload_n hx hb nd_Interior_gainHeat_5 rfl (lv_at hl 2 rfl) ?_
  refine lv_ladd hx hb nd_Interior_gainHeat_6 ?_
  refine va_put (D := D) (ci := 3) (v := .long (heat_ + x2)) (ty := .long) (C := nR_Interior) (T := nT_Interior) (N := 6) hx hb hts ni_Interior nt_Interior nt_Interior_ok nn_Interior hown hK hP hD hS 0 rfl rfl 4 (by decide) (hts (.fieldLink nR_Interior 27 "RoomClimate$Interior" "heat" "J") tt_66) (fun _ h9 => h9) rfl (by decide +kernel) rfl rfl (Nat.le_of_ble_eq_true rfl) nd_Interior_gainHeat_7 (fun H locs hP hD hS => ?_)
  have hP : va_P D vwCl [oc_Interior qa0 qheatBooks qwaterBooks volume_ share_ (heat_ + x2) water_, aJ qheatBooks ca 5 heatBooks_] H := hP
  have hD : va_D A [oc_Interior qa0 qheatBooks qwaterBooks volume_ share_ (heat_ + x2) water_, aJ qheatBooks ca 5 heatBooks_] := hD
  refine lv_aload_n hx hb nd_Interior_gainHeat_10 rfl (lv_at hl 0 rfl) ?_
  refine va_get (D := D) (ci := 3) (v := .ref qheatBooks) (C := nR_Interior) (T := nT_Interior) (N := 6) hx hb hts ni_Interior hown hK hP 0 rfl rfl 0 (by decide) (hts (.fieldLink nR_Interior 9 "RoomClimate$Interior" "heatBooks" "[J") tt_58) (fun _ h9 => h9) rfl nd_Interior_gainHeat_11 ?_
  refine lv_iload_n hx hb nd_Interior_gainHeat_14 rfl (lv_at hl 1 rfl) ?_
  refine lv_dup2_11 hx hb nd_Interior_gainHeat_15 rfl rfl ?_
  obtain ⟨h1, hR⟩ := q_ix hR
  refine va_lald hx hb hK hP 1 1 rfl rfl h1 nd_Interior_gainHeat_16 ?_
  refine lv_lload_n hx hb nd_Interior_gainHeat_17 rfl (lv_at hl 2 rfl) ?_
  refine lv_ladd hx hb nd_Interior_gainHeat_18 ?_
  refine va_last hx hb hK hP hD hS 1 1 rfl rfl h1 nd_Interior_gainHeat_19 (fun H locs hP hD hS => ?_)
  have hP : va_P D vwCl [oc_Interior qa0 qheatBooks qwaterBooks volume_ share_ (heat_ + x2) water_, aJ qheatBooks ca 5 (vp_updL heatBooks_ x1.toNatClampNeg ((heatBooks_ x1.toNatClampNeg) + x2))] H := hP
  have hD : va_D A [oc_Interior qa0 qheatBooks qwaterBooks volume_ share_ (heat_ + x2) water_, aJ qheatBooks ca 5 (vp_updL heatBooks_ x1.toNatClampNeg ((heatBooks_ x1.toNatClampNeg) + x2))] := hD
  exact hret (heat_ + x2, vp_updL heatBooks_ x1.toNatClampNeg ((heatBooks_ x1.toNatClampNeg) + x2)) _ _ _ _ nd_Interior_gainHeat_20 hR hP hD hS
def rm_Interior_exchangeAir : Room := { frames := 3, cells := 0, slots := 0, locals := 68 }
theorem kc_Interior_exchangeAir : k_cal nY_Interior_exchangeAir nC_Interior_exchangeAir 3 none 2 := ⟨tt_455, tt_4, by decide +kernel⟩
theorem kv_Interior_exchangeAir : k_vir nY_Interior_exchangeAir := ⟨tt_453, tt_454⟩
set_option maxHeartbeats 4000000 in
set_option maxRecDepth 100000 in
theorem cn_Interior_exchangeAir (l : Launch) (D : va_G) (ca : Nat → ClassId) (qa0 qheatBooks qwaterBooks : Nat) (volume_ : Int32) (share_ : Int32) (heat_ : Int64) (water_ : Int64) (heatBooks_ : Nat → Int64) (waterBooks_ : Nat → Int64) (x1 : Int32) (x2 : Int32) (R0 : Int64) (R1 : Nat → Int64) (R2 : Int64) (R3 : Nat → Int64) (hR : fn_Interior_exchangeAir volume_ share_ heat_ water_ heatBooks_ waterBooks_ x1 x2 = some (R0, R1, R2, R3)) (sz : Nat) : Met l nY_Interior_exchangeAir (Cond.code nY_Interior_exchangeAir nC_Interior_exchangeAir 3 none :: TT) rm_Interior_exchangeAir (wr_P [.ref qa0, .int x1, .int x2] D ca [oc_Interior qa0 qheatBooks qwaterBooks volume_ share_ heat_ water_, aJ qheatBooks ca 5 heatBooks_, aJ qwaterBooks ca 5 waterBooks_] sz) (va_Qv (fun (_ : Unit) => True) (wr_B D [oc_Interior qa0 qheatBooks qwaterBooks volume_ share_ heat_ water_, aJ qheatBooks ca 5 heatBooks_, aJ qwaterBooks ca 5 waterBooks_] sz [oc_Interior qa0 qheatBooks qwaterBooks volume_ share_ R0 R2, aJ qheatBooks ca 5 R1, aJ qwaterBooks ca 5 R3]) (va_A [oc_Interior qa0 qheatBooks qwaterBooks volume_ share_ heat_ water_, aJ qheatBooks ca 5 heatBooks_, aJ qwaterBooks ca 5 waterBooks_] sz)) 0 0 (va_A [oc_Interior qa0 qheatBooks qwaterBooks volume_ share_ heat_ water_, aJ qheatBooks ca 5 heatBooks_, aJ qwaterBooks ca 5 waterBooks_] sz) := by
  refine wr_ofV (R := (R0, R1, R2, R3)) (w1 := fun r : Int64 × (Nat → Int64) × Int64 × (Nat → Int64) => [oc_Interior qa0 qheatBooks qwaterBooks volume_ share_ r.1 r.2.2.1, aJ qheatBooks ca 5 r.2.1, aJ qwaterBooks ca 5 r.2.2.2]) (by decide +kernel) (Nat.le_of_ble_eq_true rfl) ?_
  intro p e s m below meth c Q ar ls hx hb hml hts hown hP hK A hD hA hl hret
  have hS : va_S A s.heap s.heap [] := va_S.rf
  have hown : s.vm.findClass nR_Interior = some m.cls := hown
  have hl : lv_has ls 3 [(0, .ref qa0), (1, .int x1), (2, .int x2)] := hl
  unfold fn_Interior_exchangeAir at hR
  refine lv_aload_n hx hb nd_Interior_exchangeAir_0 rfl (lv_at hl 0 rfl) ?_
  refine lv_iconst (v := 0) hx hb nd_Interior_exchangeAir_1 (by decide) ?_
  refine lv_aload_n hx hb nd_Interior_exchangeAir_2 rfl (lv_at hl 0 rfl) ?_
  refine va_get (D := D) (ci := 3) (v := .int share_) (C := nR_Interior) (T := nT_Interior) (N := 6) hx hb hts ni_Interior hown hK hP 0 rfl rfl 3 (by decide) (hts (.fieldLink nR_Interior 22 "RoomClimate$Interior" "share" "I") tt_64) (fun _ h9 => h9) rfl nd_Interior_exchangeAir_3 ?_
  refine lv_i2l hx hb nd_Interior_exchangeAir_6 rfl ?_
  refine lv_iload_n hx hb nd_Interior_exchangeAir_7 rfl (lv_at hl 1 rfl) ?_
  refine lv_i2l hx hb nd_Interior_exchangeAir_8 rfl ?_
  refine lv_aload_n hx hb nd_Interior_exchangeAir_9 rfl (lv_at hl 0 rfl) ?_
  obtain ⟨r1, e1, hR⟩ := q_b1 hR
  refine k_rVJ (As := []) (rest := [.long x1.toInt64, .long share_.toInt64, .int (0 : Int32), .ref qa0]) (r := r1) hx hb hml hown hts (cn_Interior_warmth l D ca qa0 qheatBooks qwaterBooks volume_ share_ heat_ water_ r1 e1) kc_Interior_warmth kv_Interior_warmth tt_456 ⟨by decide, by decide⟩ rfl rfl hP hK [0] rfl 0 rfl rfl rfl rfl hl.1 (Nat.le_of_ble_eq_true rfl) rfl nd_Interior_exchangeAir_10 ⟨Nat.zero_le _, Nat.zero_le _⟩ ?_
  refine lv_lsub hx hb nd_Interior_exchangeAir_13 ?_
  refine lv_lmul hx hb nd_Interior_exchangeAir_14 ?_
  refine lv_aload_n hx hb nd_Interior_exchangeAir_15 rfl (lv_at hl 0 rfl) ?_
  refine va_get (D := D) (ci := 3) (v := .int volume_) (C := nR_Interior) (T := nT_Interior) (N := 6) hx hb hts ni_Interior hown hK hP 0 rfl rfl 2 (by decide) (hts (.fieldLink nR_Interior 18 "RoomClimate$Interior" "volume" "I") tt_62) (fun _ h9 => h9) rfl nd_Interior_exchangeAir_16 ?_
  refine lv_i2l hx hb nd_Interior_exchangeAir_19 rfl ?_
  refine lv_lmul hx hb nd_Interior_exchangeAir_20 ?_
  refine lv_ldc2 hx hb hown (hts _ tt_457) nd_Interior_exchangeAir_21 ?_
  obtain ⟨r2, e2, hR⟩ := q_b1 hR
  refine k_rSNJ (As := [.long ((share_.toInt64 * (x1.toInt64 - r1)) * volume_.toInt64), .long (1000 : Int64)]) (rest := [.int (0 : Int32), .ref qa0]) (r := r2) hx hb hml hown hts (cn_Room_by l D ca ((share_.toInt64 * (x1.toInt64 - r1)) * volume_.toInt64) (1000 : Int64) r2 e2) kc_Room_by ks_Room_by tt_252 ⟨by decide, by decide⟩ rfl rfl hP hK [] rfl rfl hl.1 (Nat.le_of_ble_eq_true rfl) rfl nd_Interior_exchangeAir_24 ⟨Nat.zero_le _, Nat.zero_le _⟩ ?_
  obtain ⟨u3_0, u3_1, e3, hR⟩ := q_b2 hR
  refine k_wVV (wr := [aJ qwaterBooks ca 5 waterBooks_]) (w2 := [oc_Interior qa0 qheatBooks qwaterBooks volume_ share_ u3_0 water_, aJ qheatBooks ca 5 u3_1, aJ qwaterBooks ca 5 waterBooks_]) (As := [.int (0 : Int32), .long r2]) (rest := []) hx hb hml hown hts (cn_Interior_gainHeat l D ca qa0 qheatBooks qwaterBooks volume_ share_ heat_ water_ heatBooks_ (0 : Int32) r2 u3_0 u3_1 e3 _) kc_Interior_gainHeat kv_Interior_gainHeat tt_458 ⟨by decide, by decide⟩ rfl rfl hP hK hD hS hA [0, 1] [2] [1, 2, 0] rfl (by decide) rfl (by decide) (by decide) rfl (by decide) 0 rfl rfl rfl rfl hl.1 (Nat.le_of_ble_eq_true rfl) rfl nd_Interior_exchangeAir_27 ⟨Nat.zero_le _, Nat.zero_le _⟩ (fun H locs hP hD hS => ?_)
  refine lv_aload_n hx hb nd_Interior_exchangeAir_30 rfl (lv_at hl 0 rfl) ?_
  refine lv_iconst (v := 0) hx hb nd_Interior_exchangeAir_31 (by decide) ?_
  refine lv_aload_n hx hb nd_Interior_exchangeAir_32 rfl (lv_at hl 0 rfl) ?_
  refine va_get (D := D) (ci := 3) (v := .int share_) (C := nR_Interior) (T := nT_Interior) (N := 6) hx hb hts ni_Interior hown hK hP 0 rfl rfl 3 (by decide) (hts (.fieldLink nR_Interior 22 "RoomClimate$Interior" "share" "I") tt_64) (fun _ h9 => h9) rfl nd_Interior_exchangeAir_33 ?_
  refine lv_i2l hx hb nd_Interior_exchangeAir_36 rfl ?_
  refine lv_iload_n hx hb nd_Interior_exchangeAir_37 rfl (lv_at hl 2 rfl) ?_
  refine lv_i2l hx hb nd_Interior_exchangeAir_38 rfl ?_
  refine lv_aload_n hx hb nd_Interior_exchangeAir_39 rfl (lv_at hl 0 rfl) ?_
  obtain ⟨r4, e4, hR⟩ := q_b1 hR
  refine k_rVJ (As := []) (rest := [.long x2.toInt64, .long share_.toInt64, .int (0 : Int32), .ref qa0]) (r := r4) hx hb hml hown hts (cn_Interior_moisture l D ca qa0 qheatBooks qwaterBooks volume_ share_ u3_0 water_ r4 e4) kc_Interior_moisture kv_Interior_moisture tt_462 ⟨by decide, by decide⟩ rfl rfl hP hK [0] rfl 0 rfl rfl rfl rfl hl.1 (Nat.le_of_ble_eq_true rfl) rfl nd_Interior_exchangeAir_40 ⟨Nat.zero_le _, Nat.zero_le _⟩ ?_
  refine lv_lsub hx hb nd_Interior_exchangeAir_43 ?_
  refine lv_lmul hx hb nd_Interior_exchangeAir_44 ?_
  refine lv_aload_n hx hb nd_Interior_exchangeAir_45 rfl (lv_at hl 0 rfl) ?_
  refine va_get (D := D) (ci := 3) (v := .int volume_) (C := nR_Interior) (T := nT_Interior) (N := 6) hx hb hts ni_Interior hown hK hP 0 rfl rfl 2 (by decide) (hts (.fieldLink nR_Interior 18 "RoomClimate$Interior" "volume" "I") tt_62) (fun _ h9 => h9) rfl nd_Interior_exchangeAir_46 ?_
  refine lv_i2l hx hb nd_Interior_exchangeAir_49 rfl ?_
  refine lv_lmul hx hb nd_Interior_exchangeAir_50 ?_
  refine lv_ldc2 hx hb hown (hts _ tt_457) nd_Interior_exchangeAir_51 ?_
  obtain ⟨r5, e5, hR⟩ := q_b1 hR
  refine k_rSNJ (As := [.long ((share_.toInt64 * (x2.toInt64 - r4)) * volume_.toInt64), .long (1000 : Int64)]) (rest := [.int (0 : Int32), .ref qa0]) (r := r5) hx hb hml hown hts (cn_Room_by l D ca ((share_.toInt64 * (x2.toInt64 - r4)) * volume_.toInt64) (1000 : Int64) r5 e5) kc_Room_by ks_Room_by tt_252 ⟨by decide, by decide⟩ rfl rfl hP hK [] rfl rfl hl.1 (Nat.le_of_ble_eq_true rfl) rfl nd_Interior_exchangeAir_54 ⟨Nat.zero_le _, Nat.zero_le _⟩ ?_
  obtain ⟨u6_0, u6_1, e6, hR⟩ := q_b2 hR
  refine k_wVV (wr := [aJ qheatBooks ca 5 u3_1]) (w2 := [oc_Interior qa0 qheatBooks qwaterBooks volume_ share_ u3_0 u6_0, aJ qheatBooks ca 5 u3_1, aJ qwaterBooks ca 5 u6_1]) (As := [.int (0 : Int32), .long r5]) (rest := []) hx hb hml hown hts (cn_Interior_gainWater l D ca qa0 qheatBooks qwaterBooks volume_ share_ u3_0 water_ waterBooks_ (0 : Int32) r5 u6_0 u6_1 e6 _) kc_Interior_gainWater kv_Interior_gainWater tt_463 ⟨by decide, by decide⟩ rfl rfl hP hK hD hS hA [0, 2] [1] [1, 0, 2] rfl (by decide) rfl (by decide) (by decide) rfl (by decide) 0 rfl rfl rfl rfl hl.1 (Nat.le_of_ble_eq_true rfl) rfl nd_Interior_exchangeAir_57 ⟨Nat.zero_le _, Nat.zero_le _⟩ (fun H locs hP hD hS => ?_)
  exact hret (u3_0, u3_1, u6_0, u6_1) _ _ _ _ nd_Interior_exchangeAir_60 hR hP hD hS
def rm_Walls_warmth : Room := { frames := 2, cells := 0, slots := 0, locals := 48 }
theorem kc_Walls_warmth : k_cal nY_Walls_warmth nC_Walls_warmth 2 (some .long) 1 := ⟨tt_475, tt_5, by decide +kernel⟩
theorem kv_Walls_warmth : k_vir nY_Walls_warmth := ⟨tt_473, tt_474⟩
set_option maxHeartbeats 4000000 in
set_option maxRecDepth 100000 in
theorem cn_Walls_warmth (l : Launch) (D : va_G) (ca : Nat → ClassId) (qa0 qconductances qcapacities qheats : Nat) (layers_ : Int32) (heats_ : Nat → Int64) (capacities_ : Nat → Int32) (x1 : Int32) (R0 : Int64) (hR : fn_Walls_warmth heats_ capacities_ x1 = some R0) : Met l nY_Walls_warmth (Cond.code nY_Walls_warmth nC_Walls_warmth 2 (some .long) :: TT) rm_Walls_warmth (rd_P [.ref qa0, .int x1] D ca [oc_Walls qa0 qconductances qcapacities qheats layers_, aJ qheats ca 5 heats_, aI qcapacities ca 5 capacities_]) (vp_Sl (fun x => x = R0)) 0 0 (fun _ => False) := by
  refine rd_ofJ (by decide +kernel) (Nat.le_of_ble_eq_true rfl) ?_
  intro p e s m below meth c Q ar ls hx hb hml hts hown hP hK hl hret
  have hown : s.vm.findClass nR_Walls = some m.cls := hown
  have hl : lv_has ls 2 [(0, .ref qa0), (1, .int x1)] := hl
  unfold fn_Walls_warmth at hR
  refine lv_aload_n hx hb nd_Walls_warmth_0 rfl (lv_at hl 0 rfl) ?_
  refine va_get (D := D) (ci := 7) (v := .ref qheats) (C := nR_Walls) (T := nT_Walls) (N := 4) hx hb hts ni_Walls hown hK hP 0 rfl rfl 2 (by decide) (hts (.fieldLink nR_Walls 18 "RoomClimate$Walls" "heats" "[J") tt_94) (fun _ h9 => h9) rfl nd_Walls_warmth_1 ?_
  refine lv_iload_n hx hb nd_Walls_warmth_4 rfl (lv_at hl 1 rfl) ?_
  obtain ⟨h1, hR⟩ := q_ix hR
  refine va_lald hx hb hK hP 1 1 rfl rfl h1 nd_Walls_warmth_5 ?_
  refine lv_aload_n hx hb nd_Walls_warmth_6 rfl (lv_at hl 0 rfl) ?_
  refine va_get (D := D) (ci := 7) (v := .ref qcapacities) (C := nR_Walls) (T := nT_Walls) (N := 4) hx hb hts ni_Walls hown hK hP 0 rfl rfl 1 (by decide) (hts (.fieldLink nR_Walls 15 "RoomClimate$Walls" "capacities" "[I") tt_93) (fun _ h9 => h9) rfl nd_Walls_warmth_7 ?_
  refine lv_iload_n hx hb nd_Walls_warmth_10 rfl (lv_at hl 1 rfl) ?_
  refine va_iald hx hb hK hP 2 0 rfl rfl h1 nd_Walls_warmth_11 ?_
  refine lv_i2l hx hb nd_Walls_warmth_12 rfl ?_
  obtain ⟨r2, e2, hR⟩ := q_b1 hR
  refine k_rSNJ (As := [.long (heats_ x1.toNatClampNeg), .long ((capacities_ x1.toNatClampNeg).toInt64)]) (rest := []) (r := r2) hx hb hml hown hts (cn_Room_by l D ca (heats_ x1.toNatClampNeg) ((capacities_ x1.toNatClampNeg).toInt64) r2 e2) kc_Room_by ks_Room_by tt_476 ⟨by decide, by decide⟩ rfl rfl hP hK [] rfl rfl hl.1 (Nat.le_of_ble_eq_true rfl) rfl nd_Walls_warmth_13 ⟨Nat.zero_le _, Nat.zero_le _⟩ ?_
  exact hret _ _ _ nd_Walls_warmth_16 (Option.some.inj hR)
def rm_Walls_conduct : Room := { frames := 3, cells := 0, slots := 0, locals := 69 }
theorem kc_Walls_conduct : k_cal nY_Walls_conduct nC_Walls_conduct 8 none 2 := ⟨tt_470, tt_5, by decide +kernel⟩
theorem kv_Walls_conduct : k_vir nY_Walls_conduct := ⟨tt_468, tt_469⟩
set_option maxHeartbeats 4000000 in
set_option maxRecDepth 100000 in
theorem cn_Walls_conduct (l : Launch) (D : va_G) (ca : Nat → ClassId) (qa0 qconductances qcapacities qheats qa1 qheatBooks qwaterBooks : Nat) (layers_ : Int32) (heats_ : Nat → Int64) (conductances_ : Nat → Int32) (capacities_ : Nat → Int32) (volume_ : Int32) (share_ : Int32) (heat_ : Int64) (water_ : Int64) (heatBooks_ : Nat → Int64) (x2 : Int32) (R0 : Nat → Int64) (R1 : Int64) (R2 : Nat → Int64) (hR : fn_Walls_conduct layers_ heats_ conductances_ capacities_ volume_ heat_ heatBooks_ x2 = some (R0, R1, R2)) (sz : Nat) : Met l nY_Walls_conduct (Cond.code nY_Walls_conduct nC_Walls_conduct 8 none :: TT) rm_Walls_conduct (wr_P [.ref qa0, .ref qa1, .int x2] D ca [oc_Walls qa0 qconductances qcapacities qheats layers_, aJ qheats ca 5 heats_, aI qconductances ca 5 conductances_, aI qcapacities ca 5 capacities_, oc_Interior qa1 qheatBooks qwaterBooks volume_ share_ heat_ water_, aJ qheatBooks ca 5 heatBooks_] sz) (va_Qv (fun (_ : Unit) => True) (wr_B D [oc_Walls qa0 qconductances qcapacities qheats layers_, aJ qheats ca 5 heats_, aI qconductances ca 5 conductances_, aI qcapacities ca 5 capacities_, oc_Interior qa1 qheatBooks qwaterBooks volume_ share_ heat_ water_, aJ qheatBooks ca 5 heatBooks_] sz [oc_Walls qa0 qconductances qcapacities qheats layers_, aJ qheats ca 5 R0, aI qconductances ca 5 conductances_, aI qcapacities ca 5 capacities_, oc_Interior qa1 qheatBooks qwaterBooks volume_ share_ R1 water_, aJ qheatBooks ca 5 R2]) (va_A [oc_Walls qa0 qconductances qcapacities qheats layers_, aJ qheats ca 5 heats_, aI qconductances ca 5 conductances_, aI qcapacities ca 5 capacities_, oc_Interior qa1 qheatBooks qwaterBooks volume_ share_ heat_ water_, aJ qheatBooks ca 5 heatBooks_] sz)) 0 0 (va_A [oc_Walls qa0 qconductances qcapacities qheats layers_, aJ qheats ca 5 heats_, aI qconductances ca 5 conductances_, aI qcapacities ca 5 capacities_, oc_Interior qa1 qheatBooks qwaterBooks volume_ share_ heat_ water_, aJ qheatBooks ca 5 heatBooks_] sz) := by
  refine wr_ofV (R := (R0, R1, R2)) (w1 := fun r : (Nat → Int64) × Int64 × (Nat → Int64) => [oc_Walls qa0 qconductances qcapacities qheats layers_, aJ qheats ca 5 r.1, aI qconductances ca 5 conductances_, aI qcapacities ca 5 capacities_, oc_Interior qa1 qheatBooks qwaterBooks volume_ share_ r.2.1 water_, aJ qheatBooks ca 5 r.2.2]) (by decide +kernel) (Nat.le_of_ble_eq_true rfl) ?_
  intro p e s m below meth c Q ar ls hx hb hml hts hown hP hK A hD hA hl hret
  have hS : va_S A s.heap s.heap [] := va_S.rf
  have hown : s.vm.findClass nR_Walls = some m.cls := hown
  have hl : lv_has ls 8 [(0, .ref qa0), (1, .ref qa1), (2, .int x2)] := hl
  unfold fn_Walls_conduct at hR
  refine lv_iconst (v := 0) hx hb nd_Walls_conduct_0 (by decide) ?_
  refine lv_istore_n (lv' := [(3, .int (0 : Int32)), (0, .ref qa0), (1, .ref qa1), (2, .int x2)]) hx hb nd_Walls_conduct_1 rfl hl (by decide) rfl (fun ls hl => ?_)
  have hL2 : ∀ (n2 : Nat) (i3_2 : Int32) (heats_L2 : Nat → Int64) (heat_L2 : Int64) (heatBooks_L2 : Nat → Int64) (H : Heap) (locs : List Loc) (ls : Array Slot), fn_Walls_conduct_L2 x2 layers_ conductances_ capacities_ volume_ n2 i3_2 heats_L2 heat_L2 heatBooks_L2 = some (R0, R1, R2) → va_P D vwCl [oc_Walls qa0 qconductances qcapacities qheats layers_, aJ qheats ca 5 heats_L2, aI qconductances ca 5 conductances_, aI qcapacities ca 5 capacities_, oc_Interior qa1 qheatBooks qwaterBooks volume_ share_ heat_L2 water_, aJ qheatBooks ca 5 heatBooks_L2] H → va_D A [oc_Walls qa0 qconductances qcapacities qheats layers_, aJ qheats ca 5 heats_L2, aI qconductances ca 5 conductances_, aI qcapacities ca 5 capacities_, oc_Interior qa1 qheatBooks qwaterBooks volume_ share_ heat_L2 water_, aJ qheatBooks ca 5 heatBooks_L2] → va_S A s.heap H locs → lv_has ls 8 [(0, .ref qa0), (1, .ref qa1), (2, .int x2), (3, .int i3_2)] → W p l e rm_Walls_conduct s m ar below meth c H locs 0 0 Q (F0 m 2 ls []) := by
    intro n2
    induction n2 with
    | zero => intro i3_2 heats_L2 heat_L2 heatBooks_L2 H locs ls hR; exact nomatch hR
    | succ n2 ih2 =>
      intro i3_2 heats_L2 heat_L2 heatBooks_L2 H locs ls hR hP hD hS hl
      rw [fn_Walls_conduct_L2] at hR
      refine lv_iload_n hx hb nd_Walls_conduct_2 rfl (lv_at hl 3 rfl) ?_
      refine lv_aload_n hx hb nd_Walls_conduct_3 rfl (lv_at hl 0 rfl) ?_
      refine va_get (D := D) (ci := 7) (v := .int layers_) (C := nR_Walls) (T := nT_Walls) (N := 4) hx hb hts ni_Walls hown hK hP 0 rfl rfl 3 (by decide) (hts (.fieldLink nR_Walls 22 "RoomClimate$Walls" "layers" "I") tt_95) (fun _ h9 => h9) rfl nd_Walls_conduct_4 ?_
      refine lv_icmp_ge (tgt := 99) hx hb nd_Walls_conduct_7 (by decide) (fun c1 => ?_) (fun c1 => ?_)
      · replace hR := q_p c1 hR
        refine lv_aload_n hx hb nd_Walls_conduct_99 rfl (lv_at hl 0 rfl) ?_
        refine va_get (D := D) (ci := 7) (v := .int layers_) (C := nR_Walls) (T := nT_Walls) (N := 4) hx hb hts ni_Walls hown hK hP 0 rfl rfl 3 (by decide) (hts (.fieldLink nR_Walls 22 "RoomClimate$Walls" "layers" "I") tt_95) (fun _ h9 => h9) rfl nd_Walls_conduct_100 ?_
        obtain ⟨j3_0, j3_1, hJ3, hR⟩ := q_b2 hR
        have hN3 : ∀ (H : Heap) (locs : List Loc) (ls : Array Slot), va_P D vwCl [oc_Walls qa0 qconductances qcapacities qheats layers_, aJ qheats ca 5 j3_1, aI qconductances ca 5 conductances_, aI qcapacities ca 5 capacities_, oc_Interior qa1 qheatBooks qwaterBooks volume_ share_ heat_L2 water_, aJ qheatBooks ca 5 heatBooks_L2] H → va_D A [oc_Walls qa0 qconductances qcapacities qheats layers_, aJ qheats ca 5 j3_1, aI qconductances ca 5 conductances_, aI qcapacities ca 5 capacities_, oc_Interior qa1 qheatBooks qwaterBooks volume_ share_ heat_L2 water_, aJ qheatBooks ca 5 heatBooks_L2] → va_S A s.heap H locs → lv_has ls 8 [(0, .ref qa0), (1, .ref qa1), (2, .int x2), (3, .int j3_0)] → W p l e rm_Walls_conduct s m ar below meth c H locs 0 0 Q (F0 m 144 ls []) := by
          intro H locs ls hP hD hS hl
          exact hret (j3_1, heat_L2, heatBooks_L2) _ _ _ _ nd_Walls_conduct_144 hR hP hD hS
        refine lv_if_le (tgt := 144) hx hb nd_Walls_conduct_103 (by decide) (fun c2 => ?_) (fun c2 => ?_)
        · have hR := q_p c2 hJ3
          cases hR
          exact hN3 _ _ _ hP hD hS (lv_sub hl [0, 1, 2, 3] rfl)
        · have hR := q_n c2 hJ3
          refine lv_aload_n hx hb nd_Walls_conduct_106 rfl (lv_at hl 0 rfl) ?_
          refine va_get (D := D) (ci := 7) (v := .int layers_) (C := nR_Walls) (T := nT_Walls) (N := 4) hx hb hts ni_Walls hown hK hP 0 rfl rfl 3 (by decide) (hts (.fieldLink nR_Walls 22 "RoomClimate$Walls" "layers" "I") tt_95) (fun _ h9 => h9) rfl nd_Walls_conduct_107 ?_
          refine lv_iconst (v := 1) hx hb nd_Walls_conduct_110 (by decide) ?_
          refine lv_isub hx hb nd_Walls_conduct_111 ?_
          refine lv_istore_n (lv' := [(3, .int (layers_ - (1 : Int32))), (0, .ref qa0), (1, .ref qa1), (2, .int x2)]) hx hb nd_Walls_conduct_112 rfl hl (by decide) rfl (fun ls hl => ?_)
          refine lv_aload_n hx hb nd_Walls_conduct_113 rfl (lv_at hl 1 rfl) ?_
          refine va_get (D := D) (ci := 7) (v := .ref qheats) (C := nR_Walls) (T := nT_Walls) (N := 4) hx hb hts ni_Walls hown hK hP 0 rfl rfl 2 (by decide) (hts (.fieldLink nR_Walls 18 "RoomClimate$Walls" "heats" "[J") tt_94) (fun _ h9 => h9) rfl nd_Walls_conduct_114 ?_
          refine lv_iload_n hx hb nd_Walls_conduct_117 rfl (lv_at hl 0 rfl) ?_
          refine lv_dup2_11 hx hb nd_Walls_conduct_118 rfl rfl ?_
          obtain ⟨h4, hR⟩ := q_ix hR
          refine va_lald hx hb hK hP 1 1 rfl rfl h4 nd_Walls_conduct_119 ?_
          refine lv_aload_n hx hb nd_Walls_conduct_120 rfl (lv_at hl 1 rfl) ?_
          refine va_get (D := D) (ci := 7) (v := .ref qconductances) (C := nR_Walls) (T := nT_Walls) (N := 4) hx hb hts ni_Walls hown hK hP 0 rfl rfl 0 (by decide) (hts (.fieldLink nR_Walls 9 "RoomClimate$Walls" "conductances" "[I") tt_92) (fun _ h9 => h9) rfl nd_Walls_conduct_121 ?_
          refine lv_iload_n hx hb nd_Walls_conduct_124 rfl (lv_at hl 0 rfl) ?_
          refine va_iald hx hb hK hP 2 0 rfl rfl h4 nd_Walls_conduct_125 ?_
          refine lv_i2l hx hb nd_Walls_conduct_126 rfl ?_
          refine lv_iload_n hx hb nd_Walls_conduct_127 rfl (lv_at hl 3 rfl) ?_
          refine lv_i2l hx hb nd_Walls_conduct_128 rfl ?_
          refine lv_aload_n hx hb nd_Walls_conduct_129 rfl (lv_at hl 1 rfl) ?_
          refine lv_iload_n hx hb nd_Walls_conduct_130 rfl (lv_at hl 0 rfl) ?_
          obtain ⟨r5, e5, hR⟩ := q_b1 hR
          refine k_rVJ (As := [.int (layers_ - (1 : Int32))]) (rest := [.long x2.toInt64, .long ((conductances_ (layers_ - (1 : Int32)).toNatClampNeg).toInt64), .long (heats_L2 (layers_ - (1 : Int32)).toNatClampNeg), .int (layers_ - (1 : Int32)), .ref qheats]) (r := r5) hx hb hml hown hts (cn_Walls_warmth l D ca qa0 qconductances qcapacities qheats layers_ heats_L2 capacities_ (layers_ - (1 : Int32)) r5 e5) kc_Walls_warmth kv_Walls_warmth tt_472 ⟨by decide, by decide⟩ rfl rfl hP hK [0, 1, 3] rfl 0 rfl rfl rfl rfl hl.1 (Nat.le_of_ble_eq_true rfl) rfl nd_Walls_conduct_131 ⟨Nat.zero_le _, Nat.zero_le _⟩ ?_
          refine lv_lsub hx hb nd_Walls_conduct_134 ?_
          refine lv_lmul hx hb nd_Walls_conduct_135 ?_
          refine lv_ldc2 hx hb hown (hts _ tt_477) nd_Walls_conduct_136 ?_
          obtain ⟨r6, e6, hR⟩ := q_b1 hR
          refine k_rSNJ (As := [.long (((conductances_ (layers_ - (1 : Int32)).toNatClampNeg).toInt64) * (x2.toInt64 - r5)), .long (100 : Int64)]) (rest := [.long (heats_L2 (layers_ - (1 : Int32)).toNatClampNeg), .int (layers_ - (1 : Int32)), .ref qheats]) (r := r6) hx hb hml hown hts (cn_Room_by l D ca (((conductances_ (layers_ - (1 : Int32)).toNatClampNeg).toInt64) * (x2.toInt64 - r5)) (100 : Int64) r6 e6) kc_Room_by ks_Room_by tt_476 ⟨by decide, by decide⟩ rfl rfl hP hK [] rfl rfl hl.1 (Nat.le_of_ble_eq_true rfl) rfl nd_Walls_conduct_139 ⟨Nat.zero_le _, Nat.zero_le _⟩ ?_
          refine lv_ladd hx hb nd_Walls_conduct_142 ?_
          refine va_last hx hb hK hP hD hS 1 1 rfl rfl h4 nd_Walls_conduct_143 (fun H locs hP hD hS => ?_)
          have hP : va_P D vwCl [oc_Walls qa0 qconductances qcapacities qheats layers_, aJ qheats ca 5 (vp_updL heats_L2 (layers_ - (1 : Int32)).toNatClampNeg ((heats_L2 (layers_ - (1 : Int32)).toNatClampNeg) + r6)), aI qconductances ca 5 conductances_, aI qcapacities ca 5 capacities_, oc_Interior qa1 qheatBooks qwaterBooks volume_ share_ heat_L2 water_, aJ qheatBooks ca 5 heatBooks_L2] H := hP
          have hD : va_D A [oc_Walls qa0 qconductances qcapacities qheats layers_, aJ qheats ca 5 (vp_updL heats_L2 (layers_ - (1 : Int32)).toNatClampNeg ((heats_L2 (layers_ - (1 : Int32)).toNatClampNeg) + r6)), aI qconductances ca 5 conductances_, aI qcapacities ca 5 capacities_, oc_Interior qa1 qheatBooks qwaterBooks volume_ share_ heat_L2 water_, aJ qheatBooks ca 5 heatBooks_L2] := hD
          cases hR
          exact hN3 _ _ _ hP hD hS (lv_sub hl [1, 2, 3, 0] rfl)
      · replace hR := q_n c1 hR
        refine lv_iload_n hx hb nd_Walls_conduct_10 rfl (lv_at hl 3 rfl) ?_
        obtain ⟨j8_0, hJ8, hR⟩ := q_b1 hR
        have hN8 : ∀ (H : Heap) (locs : List Loc) (ls : Array Slot), va_P D vwCl [oc_Walls qa0 qconductances qcapacities qheats layers_, aJ qheats ca 5 heats_L2, aI qconductances ca 5 conductances_, aI qcapacities ca 5 capacities_, oc_Interior qa1 qheatBooks qwaterBooks volume_ share_ heat_L2 water_, aJ qheatBooks ca 5 heatBooks_L2] H → va_D A [oc_Walls qa0 qconductances qcapacities qheats layers_, aJ qheats ca 5 heats_L2, aI qconductances ca 5 conductances_, aI qcapacities ca 5 capacities_, oc_Interior qa1 qheatBooks qwaterBooks volume_ share_ heat_L2 water_, aJ qheatBooks ca 5 heatBooks_L2] → va_S A s.heap H locs → lv_has ls 8 [(0, .ref qa0), (1, .ref qa1), (2, .int x2), (3, .int i3_2)] → W p l e rm_Walls_conduct s m ar below meth c H locs 0 0 Q (F0 m 28 ls [.long j8_0]) := by
          intro H locs ls hP hD hS hl
          refine lv_lstore (lv' := [(4, .long j8_0), (0, .ref qa0), (1, .ref qa1), (2, .int x2), (3, .int i3_2)]) hx hb nd_Walls_conduct_28 hl (by decide) rfl (fun ls hl => ?_)
          refine lv_aload_n hx hb nd_Walls_conduct_30 rfl (lv_at hl 1 rfl) ?_
          refine va_get (D := D) (ci := 7) (v := .ref qconductances) (C := nR_Walls) (T := nT_Walls) (N := 4) hx hb hts ni_Walls hown hK hP 0 rfl rfl 0 (by decide) (hts (.fieldLink nR_Walls 9 "RoomClimate$Walls" "conductances" "[I") tt_92) (fun _ h9 => h9) rfl nd_Walls_conduct_31 ?_
          refine lv_iload_n hx hb nd_Walls_conduct_34 rfl (lv_at hl 4 rfl) ?_
          obtain ⟨h11, hR⟩ := q_ix hR
          refine va_iald hx hb hK hP 2 0 rfl rfl h11 nd_Walls_conduct_35 ?_
          refine lv_i2l hx hb nd_Walls_conduct_36 rfl ?_
          refine lv_lload hx hb nd_Walls_conduct_37 (lv_at hl 0 rfl) ?_
          refine lv_aload_n hx hb nd_Walls_conduct_39 rfl (lv_at hl 1 rfl) ?_
          refine lv_iload_n hx hb nd_Walls_conduct_40 rfl (lv_at hl 4 rfl) ?_
          obtain ⟨r12, e12, hR⟩ := q_b1 hR
          refine k_rVJ (As := [.int i3_2]) (rest := [.long j8_0, .long ((conductances_ i3_2.toNatClampNeg).toInt64)]) (r := r12) hx hb hml hown hts (cn_Walls_warmth l D ca qa0 qconductances qcapacities qheats layers_ heats_L2 capacities_ i3_2 r12 e12) kc_Walls_warmth kv_Walls_warmth tt_472 ⟨by decide, by decide⟩ rfl rfl hP hK [0, 1, 3] rfl 0 rfl rfl rfl rfl hl.1 (Nat.le_of_ble_eq_true rfl) rfl nd_Walls_conduct_41 ⟨Nat.zero_le _, Nat.zero_le _⟩ ?_
          refine lv_lsub hx hb nd_Walls_conduct_44 ?_
          refine lv_lmul hx hb nd_Walls_conduct_45 ?_
          refine lv_ldc2 hx hb hown (hts _ tt_477) nd_Walls_conduct_46 ?_
          obtain ⟨r13, e13, hR⟩ := q_b1 hR
          refine k_rSNJ (As := [.long (((conductances_ i3_2.toNatClampNeg).toInt64) * (j8_0 - r12)), .long (100 : Int64)]) (rest := []) (r := r13) hx hb hml hown hts (cn_Room_by l D ca (((conductances_ i3_2.toNatClampNeg).toInt64) * (j8_0 - r12)) (100 : Int64) r13 e13) kc_Room_by ks_Room_by tt_476 ⟨by decide, by decide⟩ rfl rfl hP hK [] rfl rfl hl.1 (Nat.le_of_ble_eq_true rfl) rfl nd_Walls_conduct_49 ⟨Nat.zero_le _, Nat.zero_le _⟩ ?_
          refine lv_lstore (lv' := [(6, .long r13), (4, .long j8_0), (0, .ref qa0), (1, .ref qa1), (2, .int x2), (3, .int i3_2)]) hx hb nd_Walls_conduct_52 hl (by decide) rfl (fun ls hl => ?_)
          refine lv_iload_n hx hb nd_Walls_conduct_54 rfl (lv_at hl 5 rfl) ?_
          obtain ⟨j15_0, j15_1, j15_2, hJ15, hR⟩ := q_b3 hR
          have hN15 : ∀ (H : Heap) (locs : List Loc) (ls : Array Slot), va_P D vwCl [oc_Walls qa0 qconductances qcapacities qheats layers_, aJ qheats ca 5 j15_0, aI qconductances ca 5 conductances_, aI qcapacities ca 5 capacities_, oc_Interior qa1 qheatBooks qwaterBooks volume_ share_ j15_1 water_, aJ qheatBooks ca 5 j15_2] H → va_D A [oc_Walls qa0 qconductances qcapacities qheats layers_, aJ qheats ca 5 j15_0, aI qconductances ca 5 conductances_, aI qcapacities ca 5 capacities_, oc_Interior qa1 qheatBooks qwaterBooks volume_ share_ j15_1 water_, aJ qheatBooks ca 5 j15_2] → va_S A s.heap H locs → lv_has ls 8 [(0, .ref qa0), (1, .ref qa1), (2, .int x2), (3, .int i3_2), (4, .long j8_0), (6, .long r13)] → W p l e rm_Walls_conduct s m ar below meth c H locs 0 0 Q (F0 m 82 ls []) := by
            intro H locs ls hP hD hS hl
            refine lv_aload_n hx hb nd_Walls_conduct_82 rfl (lv_at hl 0 rfl) ?_
            refine va_get (D := D) (ci := 7) (v := .ref qheats) (C := nR_Walls) (T := nT_Walls) (N := 4) hx hb hts ni_Walls hown hK hP 0 rfl rfl 2 (by decide) (hts (.fieldLink nR_Walls 18 "RoomClimate$Walls" "heats" "[J") tt_94) (fun _ h9 => h9) rfl nd_Walls_conduct_83 ?_
            refine lv_iload_n hx hb nd_Walls_conduct_86 rfl (lv_at hl 3 rfl) ?_
            refine lv_dup2_11 hx hb nd_Walls_conduct_87 rfl rfl ?_
            refine va_lald hx hb hK hP 1 1 rfl rfl h11 nd_Walls_conduct_88 ?_
            refine lv_lload hx hb nd_Walls_conduct_89 (lv_at hl 5 rfl) ?_
            refine lv_ladd hx hb nd_Walls_conduct_91 ?_
            refine va_last hx hb hK hP hD hS 1 1 rfl rfl h11 nd_Walls_conduct_92 (fun H locs hP hD hS => ?_)
            have hP : va_P D vwCl [oc_Walls qa0 qconductances qcapacities qheats layers_, aJ qheats ca 5 (vp_updL j15_0 i3_2.toNatClampNeg ((j15_0 i3_2.toNatClampNeg) + r13)), aI qconductances ca 5 conductances_, aI qcapacities ca 5 capacities_, oc_Interior qa1 qheatBooks qwaterBooks volume_ share_ j15_1 water_, aJ qheatBooks ca 5 j15_2] H := hP
            have hD : va_D A [oc_Walls qa0 qconductances qcapacities qheats layers_, aJ qheats ca 5 (vp_updL j15_0 i3_2.toNatClampNeg ((j15_0 i3_2.toNatClampNeg) + r13)), aI qconductances ca 5 conductances_, aI qcapacities ca 5 capacities_, oc_Interior qa1 qheatBooks qwaterBooks volume_ share_ j15_1 water_, aJ qheatBooks ca 5 j15_2] := hD
            refine lv_iinc (v := i3_2 + 1) (lv' := [(3, .int (i3_2 + 1)), (0, .ref qa0), (1, .ref qa1), (2, .int x2), (4, .long j8_0), (6, .long r13)]) hx hb nd_Walls_conduct_93 hl (k := 3) rfl (by first | rfl | decide) (by decide) rfl (fun ls hl => ?_)
            refine lv_goto (tgt := 2) hx hb nd_Walls_conduct_96 (by decide) ?_
            exact ih2 (i3_2 + 1) (vp_updL j15_0 i3_2.toNatClampNeg ((j15_0 i3_2.toNatClampNeg) + r13)) j15_1 j15_2 _ _ _ hR hP hD hS (lv_sub hl [1, 2, 3, 0] rfl)
          refine lv_if_ne (tgt := 69) hx hb nd_Walls_conduct_55 (by decide) (fun c14 => ?_) (fun c14 => ?_)
          · have hR := q_n c14 hJ15
            refine lv_aload_n hx hb nd_Walls_conduct_69 rfl (lv_at hl 2 rfl) ?_
            refine va_get (D := D) (ci := 7) (v := .ref qheats) (C := nR_Walls) (T := nT_Walls) (N := 4) hx hb hts ni_Walls hown hK hP 0 rfl rfl 2 (by decide) (hts (.fieldLink nR_Walls 18 "RoomClimate$Walls" "heats" "[J") tt_94) (fun _ h9 => h9) rfl nd_Walls_conduct_70 ?_
            refine lv_iload_n hx hb nd_Walls_conduct_73 rfl (lv_at hl 5 rfl) ?_
            refine lv_iconst (v := 1) hx hb nd_Walls_conduct_74 (by decide) ?_
            refine lv_isub hx hb nd_Walls_conduct_75 ?_
            refine lv_dup2_11 hx hb nd_Walls_conduct_76 rfl rfl ?_
            obtain ⟨h16, hR⟩ := q_ix hR
            refine va_lald hx hb hK hP 1 1 rfl rfl h16 nd_Walls_conduct_77 ?_
            refine lv_lload hx hb nd_Walls_conduct_78 (lv_at hl 0 rfl) ?_
            refine lv_lsub hx hb nd_Walls_conduct_80 ?_
            refine va_last hx hb hK hP hD hS 1 1 rfl rfl h16 nd_Walls_conduct_81 (fun H locs hP hD hS => ?_)
            have hP : va_P D vwCl [oc_Walls qa0 qconductances qcapacities qheats layers_, aJ qheats ca 5 (vp_updL heats_L2 (i3_2 - (1 : Int32)).toNatClampNeg ((heats_L2 (i3_2 - (1 : Int32)).toNatClampNeg) - r13)), aI qconductances ca 5 conductances_, aI qcapacities ca 5 capacities_, oc_Interior qa1 qheatBooks qwaterBooks volume_ share_ heat_L2 water_, aJ qheatBooks ca 5 heatBooks_L2] H := hP
            have hD : va_D A [oc_Walls qa0 qconductances qcapacities qheats layers_, aJ qheats ca 5 (vp_updL heats_L2 (i3_2 - (1 : Int32)).toNatClampNeg ((heats_L2 (i3_2 - (1 : Int32)).toNatClampNeg) - r13)), aI qconductances ca 5 conductances_, aI qcapacities ca 5 capacities_, oc_Interior qa1 qheatBooks qwaterBooks volume_ share_ heat_L2 water_, aJ qheatBooks ca 5 heatBooks_L2] := hD
            cases hR
            exact hN15 _ _ _ hP hD hS (lv_sub hl [2, 3, 4, 5, 1, 0] rfl)
          · have hR := q_p c14 hJ15
            refine lv_aload_n hx hb nd_Walls_conduct_58 rfl (lv_at hl 3 rfl) ?_
            refine lv_iconst (v := 1) hx hb nd_Walls_conduct_59 (by decide) ?_
            refine lv_lload hx hb nd_Walls_conduct_60 (lv_at hl 0 rfl) ?_
            refine lv_lneg hx hb nd_Walls_conduct_62 ?_
            obtain ⟨u17_0, u17_1, e17, hR⟩ := q_b2 hR
            refine k_wVV (wr := [oc_Walls qa0 qconductances qcapacities qheats layers_, aJ qheats ca 5 heats_L2, aI qconductances ca 5 conductances_, aI qcapacities ca 5 capacities_]) (w2 := [oc_Walls qa0 qconductances qcapacities qheats layers_, aJ qheats ca 5 heats_L2, aI qconductances ca 5 conductances_, aI qcapacities ca 5 capacities_, oc_Interior qa1 qheatBooks qwaterBooks volume_ share_ u17_0 water_, aJ qheatBooks ca 5 u17_1]) (As := [.int (1 : Int32), .long (-r13)]) (rest := []) hx hb hml hown hts (cn_Interior_gainHeat l D ca qa1 qheatBooks qwaterBooks volume_ share_ heat_L2 water_ heatBooks_L2 (1 : Int32) (-r13) u17_0 u17_1 e17 _) kc_Interior_gainHeat kv_Interior_gainHeat tt_478 ⟨by decide, by decide⟩ rfl rfl hP hK hD hS hA [4, 5] [0, 1, 2, 3] [0, 1, 2, 3, 4, 5] rfl (by decide) rfl (by decide) (by decide) rfl (by decide) 0 rfl rfl rfl rfl hl.1 (Nat.le_of_ble_eq_true rfl) rfl nd_Walls_conduct_63 ⟨Nat.zero_le _, Nat.zero_le _⟩ (fun H locs hP hD hS => ?_)
            refine lv_goto (tgt := 82) hx hb nd_Walls_conduct_66 (by decide) ?_
            cases hR
            exact hN15 _ _ _ hP hD hS (lv_sub hl [2, 3, 4, 5, 1, 0] rfl)
        refine lv_if_ne (tgt := 21) hx hb nd_Walls_conduct_11 (by decide) (fun c7 => ?_) (fun c7 => ?_)
        · have hR := q_n c7 hJ8
          refine lv_aload_n hx hb nd_Walls_conduct_21 rfl (lv_at hl 0 rfl) ?_
          refine lv_iload_n hx hb nd_Walls_conduct_22 rfl (lv_at hl 3 rfl) ?_
          refine lv_iconst (v := 1) hx hb nd_Walls_conduct_23 (by decide) ?_
          refine lv_isub hx hb nd_Walls_conduct_24 ?_
          obtain ⟨r9, e9, hR⟩ := q_b1 hR
          refine k_rVJ (As := [.int (i3_2 - (1 : Int32))]) (rest := []) (r := r9) hx hb hml hown hts (cn_Walls_warmth l D ca qa0 qconductances qcapacities qheats layers_ heats_L2 capacities_ (i3_2 - (1 : Int32)) r9 e9) kc_Walls_warmth kv_Walls_warmth tt_472 ⟨by decide, by decide⟩ rfl rfl hP hK [0, 1, 3] rfl 0 rfl rfl rfl rfl hl.1 (Nat.le_of_ble_eq_true rfl) rfl nd_Walls_conduct_25 ⟨Nat.zero_le _, Nat.zero_le _⟩ ?_
          cases hR
          exact hN8 _ _ _ hP hD hS (lv_sub hl [0, 1, 2, 3] rfl)
        · have hR := q_p c7 hJ8
          refine lv_aload_n hx hb nd_Walls_conduct_14 rfl (lv_at hl 1 rfl) ?_
          obtain ⟨r10, e10, hR⟩ := q_b1 hR
          refine k_rVJ (As := []) (rest := []) (r := r10) hx hb hml hown hts (cn_Interior_warmth l D ca qa1 qheatBooks qwaterBooks volume_ share_ heat_L2 water_ r10 e10) kc_Interior_warmth kv_Interior_warmth tt_471 ⟨by decide, by decide⟩ rfl rfl hP hK [4] rfl 0 rfl rfl rfl rfl hl.1 (Nat.le_of_ble_eq_true rfl) rfl nd_Walls_conduct_15 ⟨Nat.zero_le _, Nat.zero_le _⟩ ?_
          refine lv_goto (tgt := 28) hx hb nd_Walls_conduct_18 (by decide) ?_
          cases hR
          exact hN8 _ _ _ hP hD hS (lv_sub hl [0, 1, 2, 3] rfl)
  exact hL2 400 (0 : Int32) heats_ heat_ heatBooks_ _ _ _ hR hP hD hS (lv_sub hl [1, 2, 3, 0] rfl)
def rm_Interior_receive : Room := { frames := 1, cells := 0, slots := 0, locals := 23 }
theorem kc_Interior_receive : k_cal nY_Interior_receive nC_Interior_receive 2 none 1 := ⟨tt_497, tt_4, by decide +kernel⟩
theorem kv_Interior_receive : k_vir nY_Interior_receive := ⟨tt_495, tt_496⟩
set_option maxHeartbeats 4000000 in
set_option maxRecDepth 100000 in
theorem cn_Interior_receive (l : Launch) (D : va_G) (ca : Nat → ClassId) (qa0 qheatBooks qwaterBooks : Nat) (volume_ : Int32) (share_ : Int32) (heat_ : Int64) (water_ : Int64) (heatBooks_ : Nat → Int64) (waterBooks_ : Nat → Int64) (x1 : Int32) (R0 : Int64) (R1 : Nat → Int64) (R2 : Int64) (R3 : Nat → Int64) (hR : fn_Interior_receive heat_ water_ heatBooks_ waterBooks_ x1 = some (R0, R1, R2, R3)) (sz : Nat) : Met l nY_Interior_receive (Cond.code nY_Interior_receive nC_Interior_receive 2 none :: TT) rm_Interior_receive (wr_P [.ref qa0, .int x1] D ca [oc_Interior qa0 qheatBooks qwaterBooks volume_ share_ heat_ water_, aJ qheatBooks ca 5 heatBooks_, aJ qwaterBooks ca 5 waterBooks_] sz) (va_Qv (fun (_ : Unit) => True) (wr_B D [oc_Interior qa0 qheatBooks qwaterBooks volume_ share_ heat_ water_, aJ qheatBooks ca 5 heatBooks_, aJ qwaterBooks ca 5 waterBooks_] sz [oc_Interior qa0 qheatBooks qwaterBooks volume_ share_ R0 R2, aJ qheatBooks ca 5 R1, aJ qwaterBooks ca 5 R3]) (va_A [oc_Interior qa0 qheatBooks qwaterBooks volume_ share_ heat_ water_, aJ qheatBooks ca 5 heatBooks_, aJ qwaterBooks ca 5 waterBooks_] sz)) 0 0 (va_A [oc_Interior qa0 qheatBooks qwaterBooks volume_ share_ heat_ water_, aJ qheatBooks ca 5 heatBooks_, aJ qwaterBooks ca 5 waterBooks_] sz) := by
  refine wr_ofV (R := (R0, R1, R2, R3)) (w1 := fun r : Int64 × (Nat → Int64) × Int64 × (Nat → Int64) => [oc_Interior qa0 qheatBooks qwaterBooks volume_ share_ r.1 r.2.2.1, aJ qheatBooks ca 5 r.2.1, aJ qwaterBooks ca 5 r.2.2.2]) (by decide +kernel) (Nat.le_of_ble_eq_true rfl) ?_
  intro p e s m below meth c Q ar ls hx hb hml hts hown hP hK A hD hA hl hret
  have hS : va_S A s.heap s.heap [] := va_S.rf
  have hown : s.vm.findClass nR_Interior = some m.cls := hown
  have hl : lv_has ls 2 [(0, .ref qa0), (1, .int x1)] := hl
  unfold fn_Interior_receive at hR
  refine lv_aload_n hx hb nd_Interior_receive_0 rfl (lv_at hl 0 rfl) ?_
  refine lv_iconst (v := 3) hx hb nd_Interior_receive_1 (by decide) ?_
  refine lv_ldc2 hx hb hown (hts _ tt_498) nd_Interior_receive_2 ?_
  refine lv_iload_n hx hb nd_Interior_receive_5 rfl (lv_at hl 1 rfl) ?_
  refine lv_i2l hx hb nd_Interior_receive_6 rfl ?_
  refine lv_lmul hx hb nd_Interior_receive_7 ?_
  obtain ⟨u1_0, u1_1, e1, hR⟩ := q_b2 hR
  refine k_wVV (wr := [aJ qwaterBooks ca 5 waterBooks_]) (w2 := [oc_Interior qa0 qheatBooks qwaterBooks volume_ share_ u1_0 water_, aJ qheatBooks ca 5 u1_1, aJ qwaterBooks ca 5 waterBooks_]) (As := [.int (3 : Int32), .long ((100 : Int64) * x1.toInt64)]) (rest := []) hx hb hml hown hts (cn_Interior_gainHeat l D ca qa0 qheatBooks qwaterBooks volume_ share_ heat_ water_ heatBooks_ (3 : Int32) ((100 : Int64) * x1.toInt64) u1_0 u1_1 e1 _) kc_Interior_gainHeat kv_Interior_gainHeat tt_458 ⟨by decide, by decide⟩ rfl rfl hP hK hD hS hA [0, 1] [2] [1, 2, 0] rfl (by decide) rfl (by decide) (by decide) rfl (by decide) 0 rfl rfl rfl rfl hl.1 (Nat.le_of_ble_eq_true rfl) rfl nd_Interior_receive_8 ⟨Nat.zero_le _, Nat.zero_le _⟩ (fun H locs hP hD hS => ?_)
  refine lv_aload_n hx hb nd_Interior_receive_11 rfl (lv_at hl 0 rfl) ?_
  refine lv_iconst (v := 3) hx hb nd_Interior_receive_12 (by decide) ?_
  refine lv_ldc2 hx hb hown (hts _ tt_499) nd_Interior_receive_13 ?_
  refine lv_iload_n hx hb nd_Interior_receive_16 rfl (lv_at hl 1 rfl) ?_
  refine lv_i2l hx hb nd_Interior_receive_17 rfl ?_
  refine lv_lmul hx hb nd_Interior_receive_18 ?_
  obtain ⟨u2_0, u2_1, e2, hR⟩ := q_b2 hR
  refine k_wVV (wr := [aJ qheatBooks ca 5 u1_1]) (w2 := [oc_Interior qa0 qheatBooks qwaterBooks volume_ share_ u1_0 u2_0, aJ qheatBooks ca 5 u1_1, aJ qwaterBooks ca 5 u2_1]) (As := [.int (3 : Int32), .long ((50 : Int64) * x1.toInt64)]) (rest := []) hx hb hml hown hts (cn_Interior_gainWater l D ca qa0 qheatBooks qwaterBooks volume_ share_ u1_0 water_ waterBooks_ (3 : Int32) ((50 : Int64) * x1.toInt64) u2_0 u2_1 e2 _) kc_Interior_gainWater kv_Interior_gainWater tt_463 ⟨by decide, by decide⟩ rfl rfl hP hK hD hS hA [0, 2] [1] [1, 0, 2] rfl (by decide) rfl (by decide) (by decide) rfl (by decide) 0 rfl rfl rfl rfl hl.1 (Nat.le_of_ble_eq_true rfl) rfl nd_Interior_receive_19 ⟨Nat.zero_le _, Nat.zero_le _⟩ (fun H locs hP hD hS => ?_)
  exact hret (u1_0, u1_1, u2_0, u2_1) _ _ _ _ nd_Interior_receive_22 hR hP hD hS
def rm_Machines_steer : Room := { frames := 0, cells := 0, slots := 0, locals := 0 }
theorem kc_Machines_steer : k_cal nY_Machines_steer nC_Machines_steer 5 none 2 := ⟨tt_508, tt_6, by decide +kernel⟩
theorem kv_Machines_steer : k_vir nY_Machines_steer := ⟨tt_507, tp_1⟩
set_option maxHeartbeats 4000000 in
set_option maxRecDepth 100000 in
theorem cn_Machines_steer (l : Launch) (D : va_G) (ca : Nat → ClassId) (qa0 qlows qhighs qrates qtold qrunning : Nat) (told_ : Nat → Int32) (lows_ : Nat → Int32) (highs_ : Nat → Int32) (running_ : Nat → Int32) (x1 : Int32) (x2 : Int64) (R0 : Nat → Int32) (hR : fn_Machines_steer told_ lows_ highs_ running_ x1 x2 = some R0) (sz : Nat) : Met l nY_Machines_steer (Cond.code nY_Machines_steer nC_Machines_steer 5 none :: TT) rm_Machines_steer (wr_P [.ref qa0, .int x1, .long x2] D ca [oc_Machines qa0 qlows qhighs qrates qtold qrunning, aZ qtold ca 4 told_, aI qlows ca 4 lows_, aI qhighs ca 4 highs_, aZ qrunning ca 4 running_] sz) (va_Qv (fun (_ : Unit) => True) (wr_B D [oc_Machines qa0 qlows qhighs qrates qtold qrunning, aZ qtold ca 4 told_, aI qlows ca 4 lows_, aI qhighs ca 4 highs_, aZ qrunning ca 4 running_] sz [oc_Machines qa0 qlows qhighs qrates qtold qrunning, aZ qtold ca 4 told_, aI qlows ca 4 lows_, aI qhighs ca 4 highs_, aZ qrunning ca 4 R0]) (va_A [oc_Machines qa0 qlows qhighs qrates qtold qrunning, aZ qtold ca 4 told_, aI qlows ca 4 lows_, aI qhighs ca 4 highs_, aZ qrunning ca 4 running_] sz)) 0 0 (va_A [oc_Machines qa0 qlows qhighs qrates qtold qrunning, aZ qtold ca 4 told_, aI qlows ca 4 lows_, aI qhighs ca 4 highs_, aZ qrunning ca 4 running_] sz) := by
  refine wr_ofV (R := R0) (w1 := fun r : (Nat → Int32) => [oc_Machines qa0 qlows qhighs qrates qtold qrunning, aZ qtold ca 4 told_, aI qlows ca 4 lows_, aI qhighs ca 4 highs_, aZ qrunning ca 4 r]) (by decide +kernel) (Nat.le_of_ble_eq_true rfl) ?_
  intro p e s m below meth c Q ar ls hx hb hml hts hown hP hK A hD hA hl hret
  have hS : va_S A s.heap s.heap [] := va_S.rf
  have hown : s.vm.findClass nR_Machines = some m.cls := hown
  have hl : lv_has ls 5 [(0, .ref qa0), (1, .int x1), (2, .long x2)] := hl
  unfold fn_Machines_steer at hR
  refine lv_aload_n hx hb nd_Machines_steer_0 rfl (lv_at hl 0 rfl) ?_
  refine va_get (D := D) (ci := 4) (v := .ref qtold) (C := nR_Machines) (T := nT_Machines) (N := 5) hx hb hts ni_Machines hown hK hP 0 rfl rfl 3 (by decide) (hts (.fieldLink nR_Machines 21 "RoomClimate$Machines" "told" "[Z") tt_115) (fun _ h9 => h9) rfl nd_Machines_steer_1 ?_
  refine lv_iload_n hx hb nd_Machines_steer_4 rfl (lv_at hl 1 rfl) ?_
  obtain ⟨h1, hR⟩ := q_ix hR
  refine va_zald hx hb hK hP 1 2 rfl rfl h1 nd_Machines_steer_5 ?_
  refine lv_if_ne (tgt := 10) hx hb nd_Machines_steer_6 (by decide) (fun c2 => ?_) (fun c2 => ?_)
  · replace hR := q_n c2 hR
    refine lv_iload_n hx hb nd_Machines_steer_10 rfl (lv_at hl 1 rfl) ?_
    obtain ⟨j4_0, hJ4, hR⟩ := q_b1 hR
    have hN4 : ∀ (H : Heap) (locs : List Loc) (ls : Array Slot), va_P D vwCl [oc_Machines qa0 qlows qhighs qrates qtold qrunning, aZ qtold ca 4 told_, aI qlows ca 4 lows_, aI qhighs ca 4 highs_, aZ qrunning ca 4 running_] H → va_D A [oc_Machines qa0 qlows qhighs qrates qtold qrunning, aZ qtold ca 4 told_, aI qlows ca 4 lows_, aI qhighs ca 4 highs_, aZ qrunning ca 4 running_] → va_S A s.heap H locs → lv_has ls 5 [(0, .ref qa0), (1, .int x1), (2, .long x2)] → W p l e rm_Machines_steer s m ar below meth c H locs 0 0 Q (F0 m 24 ls [.int j4_0]) := by
      intro H locs ls hP hD hS hl
      refine lv_istore (lv' := [(4, .int j4_0), (0, .ref qa0), (1, .int x1), (2, .long x2)]) hx hb nd_Machines_steer_24 hl (by decide) rfl (fun ls hl => ?_)
      refine lv_lload_n hx hb nd_Machines_steer_26 rfl (lv_at hl 3 rfl) ?_
      refine lv_aload_n hx hb nd_Machines_steer_27 rfl (lv_at hl 1 rfl) ?_
      refine va_get (D := D) (ci := 4) (v := .ref qlows) (C := nR_Machines) (T := nT_Machines) (N := 5) hx hb hts ni_Machines hown hK hP 0 rfl rfl 0 (by decide) (hts (.fieldLink nR_Machines 9 "RoomClimate$Machines" "lows" "[I") tt_112) (fun _ h9 => h9) rfl nd_Machines_steer_28 ?_
      refine lv_iload_n hx hb nd_Machines_steer_31 rfl (lv_at hl 2 rfl) ?_
      refine va_iald hx hb hK hP 2 0 rfl rfl h1 nd_Machines_steer_32 ?_
      refine lv_i2l hx hb nd_Machines_steer_33 rfl ?_
      refine W.lcmp hx hb nd_Machines_steer_34 ?_
      obtain ⟨j8_0, hJ8, hR⟩ := q_b1 hR
      have hN8 : ∀ (H : Heap) (locs : List Loc) (ls : Array Slot), va_P D vwCl [oc_Machines qa0 qlows qhighs qrates qtold qrunning, aZ qtold ca 4 told_, aI qlows ca 4 lows_, aI qhighs ca 4 highs_, aZ qrunning ca 4 j8_0] H → va_D A [oc_Machines qa0 qlows qhighs qrates qtold qrunning, aZ qtold ca 4 told_, aI qlows ca 4 lows_, aI qhighs ca 4 highs_, aZ qrunning ca 4 j8_0] → va_S A s.heap H locs → lv_has ls 5 [(0, .ref qa0), (1, .int x1), (2, .long x2), (4, .int j4_0)] → W p l e rm_Machines_steer s m ar below meth c H locs 0 0 Q (F0 m 77 ls []) := by
        intro H locs ls hP hD hS hl
        exact hret j8_0 _ _ _ _ nd_Machines_steer_77 hR hP hD hS
      refine lv_if_ge (tgt := 49) hx hb nd_Machines_steer_35 (by decide) (fun c7 => ?_) (fun c7 => ?_)
      · have hR := q_p c7 hJ8
        refine lv_lload_n hx hb nd_Machines_steer_49 rfl (lv_at hl 3 rfl) ?_
        refine lv_aload_n hx hb nd_Machines_steer_50 rfl (lv_at hl 1 rfl) ?_
        refine va_get (D := D) (ci := 4) (v := .ref qhighs) (C := nR_Machines) (T := nT_Machines) (N := 5) hx hb hts ni_Machines hown hK hP 0 rfl rfl 1 (by decide) (hts (.fieldLink nR_Machines 15 "RoomClimate$Machines" "highs" "[I") tt_113) (fun _ h9 => h9) rfl nd_Machines_steer_51 ?_
        refine lv_iload_n hx hb nd_Machines_steer_54 rfl (lv_at hl 2 rfl) ?_
        refine va_iald hx hb hK hP 3 0 rfl rfl h1 nd_Machines_steer_55 ?_
        refine lv_i2l hx hb nd_Machines_steer_56 rfl ?_
        refine W.lcmp hx hb nd_Machines_steer_57 ?_
        obtain ⟨j10_0, hJ10, hR⟩ := q_b1 hR
        have hN10 : ∀ (H : Heap) (locs : List Loc) (ls : Array Slot), va_P D vwCl [oc_Machines qa0 qlows qhighs qrates qtold qrunning, aZ qtold ca 4 told_, aI qlows ca 4 lows_, aI qhighs ca 4 highs_, aZ qrunning ca 4 j10_0] H → va_D A [oc_Machines qa0 qlows qhighs qrates qtold qrunning, aZ qtold ca 4 told_, aI qlows ca 4 lows_, aI qhighs ca 4 highs_, aZ qrunning ca 4 j10_0] → va_S A s.heap H locs → lv_has ls 5 [(0, .ref qa0), (1, .int x1), (2, .long x2), (4, .int j4_0)] → W p l e rm_Machines_steer s m ar below meth c H locs 0 0 Q (F0 m 77 ls []) := by
          intro H locs ls hP hD hS hl
          cases hR
          exact hN8 _ _ _ hP hD hS (lv_sub hl [0, 1, 2, 3] rfl)
        refine lv_if_le (tgt := 77) hx hb nd_Machines_steer_58 (by decide) (fun c9 => ?_) (fun c9 => ?_)
        · have hR := q_p c9 hJ10
          cases hR
          exact hN10 _ _ _ hP hD hS (lv_sub hl [1, 2, 3, 0] rfl)
        · have hR := q_n c9 hJ10
          refine lv_aload_n hx hb nd_Machines_steer_61 rfl (lv_at hl 1 rfl) ?_
          refine va_get (D := D) (ci := 4) (v := .ref qrunning) (C := nR_Machines) (T := nT_Machines) (N := 5) hx hb hts ni_Machines hown hK hP 0 rfl rfl 4 (by decide) (hts (.fieldLink nR_Machines 25 "RoomClimate$Machines" "running" "[Z") tt_116) (fun _ h9 => h9) rfl nd_Machines_steer_62 ?_
          refine lv_iload_n hx hb nd_Machines_steer_65 rfl (lv_at hl 2 rfl) ?_
          refine lv_iload hx hb nd_Machines_steer_66 (lv_at hl 0 rfl) ?_
          obtain ⟨j12_0, hJ12, hR⟩ := q_b1 hR
          have hN12 : ∀ (H : Heap) (locs : List Loc) (ls : Array Slot), va_P D vwCl [oc_Machines qa0 qlows qhighs qrates qtold qrunning, aZ qtold ca 4 told_, aI qlows ca 4 lows_, aI qhighs ca 4 highs_, aZ qrunning ca 4 running_] H → va_D A [oc_Machines qa0 qlows qhighs qrates qtold qrunning, aZ qtold ca 4 told_, aI qlows ca 4 lows_, aI qhighs ca 4 highs_, aZ qrunning ca 4 running_] → va_S A s.heap H locs → lv_has ls 5 [(0, .ref qa0), (1, .int x1), (2, .long x2), (4, .int j4_0)] → W p l e rm_Machines_steer s m ar below meth c H locs 0 0 Q (F0 m 76 ls [.int j12_0, .int x1, .ref qrunning]) := by
            intro H locs ls hP hD hS hl
            refine va_zast hx hb hK hP hD hS 4 2 rfl rfl h1 nd_Machines_steer_76 (fun H locs hP hD hS => ?_)
            have hP : va_P D vwCl [oc_Machines qa0 qlows qhighs qrates qtold qrunning, aZ qtold ca 4 told_, aI qlows ca 4 lows_, aI qhighs ca 4 highs_, aZ qrunning ca 4 (upd running_ x1.toNatClampNeg (vp_nar .boolean j12_0))] H := hP
            have hD : va_D A [oc_Machines qa0 qlows qhighs qrates qtold qrunning, aZ qtold ca 4 told_, aI qlows ca 4 lows_, aI qhighs ca 4 highs_, aZ qrunning ca 4 (upd running_ x1.toNatClampNeg (vp_nar .boolean j12_0))] := hD
            cases hR
            exact hN10 _ _ _ hP hD hS (lv_sub hl [0, 1, 2, 3] rfl)
          refine lv_if_ne (tgt := 75) hx hb nd_Machines_steer_68 (by decide) (fun c11 => ?_) (fun c11 => ?_)
          · have hR := q_n c11 hJ12
            refine lv_iconst (v := 0) hx hb nd_Machines_steer_75 (by decide) ?_
            cases hR
            exact hN12 _ _ _ hP hD hS (lv_sub hl [1, 2, 3, 0] rfl)
          · have hR := q_p c11 hJ12
            refine lv_iconst (v := 1) hx hb nd_Machines_steer_71 (by decide) ?_
            refine lv_goto (tgt := 76) hx hb nd_Machines_steer_72 (by decide) ?_
            cases hR
            exact hN12 _ _ _ hP hD hS (lv_sub hl [1, 2, 3, 0] rfl)
      · have hR := q_n c7 hJ8
        refine lv_aload_n hx hb nd_Machines_steer_38 rfl (lv_at hl 1 rfl) ?_
        refine va_get (D := D) (ci := 4) (v := .ref qrunning) (C := nR_Machines) (T := nT_Machines) (N := 5) hx hb hts ni_Machines hown hK hP 0 rfl rfl 4 (by decide) (hts (.fieldLink nR_Machines 25 "RoomClimate$Machines" "running" "[Z") tt_116) (fun _ h9 => h9) rfl nd_Machines_steer_39 ?_
        refine lv_iload_n hx hb nd_Machines_steer_42 rfl (lv_at hl 2 rfl) ?_
        refine lv_iload hx hb nd_Machines_steer_43 (lv_at hl 0 rfl) ?_
        refine va_zast hx hb hK hP hD hS 4 2 rfl rfl h1 nd_Machines_steer_45 (fun H locs hP hD hS => ?_)
        have hP : va_P D vwCl [oc_Machines qa0 qlows qhighs qrates qtold qrunning, aZ qtold ca 4 told_, aI qlows ca 4 lows_, aI qhighs ca 4 highs_, aZ qrunning ca 4 (upd running_ x1.toNatClampNeg (vp_nar .boolean j4_0))] H := hP
        have hD : va_D A [oc_Machines qa0 qlows qhighs qrates qtold qrunning, aZ qtold ca 4 told_, aI qlows ca 4 lows_, aI qhighs ca 4 highs_, aZ qrunning ca 4 (upd running_ x1.toNatClampNeg (vp_nar .boolean j4_0))] := hD
        refine lv_goto (tgt := 77) hx hb nd_Machines_steer_46 (by decide) ?_
        cases hR
        exact hN8 _ _ _ hP hD hS (lv_sub hl [1, 2, 3, 0] rfl)
    refine lv_if_eq (tgt := 19) hx hb nd_Machines_steer_11 (by decide) (fun c3 => ?_) (fun c3 => ?_)
    · have hR := q_p c3 hJ4
      refine lv_iconst (v := 1) hx hb nd_Machines_steer_19 (by decide) ?_
      refine lv_goto (tgt := 24) hx hb nd_Machines_steer_20 (by decide) ?_
      cases hR
      exact hN4 _ _ _ hP hD hS (lv_sub hl [0, 1, 2] rfl)
    · have hR := q_n c3 hJ4
      refine lv_iload_n hx hb nd_Machines_steer_14 rfl (lv_at hl 1 rfl) ?_
      refine lv_iconst (v := 2) hx hb nd_Machines_steer_15 (by decide) ?_
      obtain ⟨j6_0, hJ6, hR⟩ := q_b1 hR
      have hN6 : ∀ (H : Heap) (locs : List Loc) (ls : Array Slot), va_P D vwCl [oc_Machines qa0 qlows qhighs qrates qtold qrunning, aZ qtold ca 4 told_, aI qlows ca 4 lows_, aI qhighs ca 4 highs_, aZ qrunning ca 4 running_] H → va_D A [oc_Machines qa0 qlows qhighs qrates qtold qrunning, aZ qtold ca 4 told_, aI qlows ca 4 lows_, aI qhighs ca 4 highs_, aZ qrunning ca 4 running_] → va_S A s.heap H locs → lv_has ls 5 [(0, .ref qa0), (1, .int x1), (2, .long x2)] → W p l e rm_Machines_steer s m ar below meth c H locs 0 0 Q (F0 m 24 ls [.int j6_0]) := by
        intro H locs ls hP hD hS hl
        cases hR
        exact hN4 _ _ _ hP hD hS (lv_sub hl [0, 1, 2] rfl)
      refine lv_icmp_ne (tgt := 23) hx hb nd_Machines_steer_16 (by decide) (fun c5 => ?_) (fun c5 => ?_)
      · have hR := q_n c5 hJ6
        refine lv_iconst (v := 0) hx hb nd_Machines_steer_23 (by decide) ?_
        cases hR
        exact hN6 _ _ _ hP hD hS (lv_sub hl [0, 1, 2] rfl)
      · have hR := q_p c5 hJ6
        refine lv_iconst (v := 1) hx hb nd_Machines_steer_19 (by decide) ?_
        refine lv_goto (tgt := 24) hx hb nd_Machines_steer_20 (by decide) ?_
        cases hR
        exact hN6 _ _ _ hP hD hS (lv_sub hl [0, 1, 2] rfl)
  · replace hR := q_p c2 hR
    exact hret running_ _ _ _ _ nd_Machines_steer_9 hR hP hD hS
def rm_Machines_output : Room := { frames := 0, cells := 0, slots := 0, locals := 0 }
theorem kc_Machines_output : k_cal nY_Machines_output nC_Machines_output 2 (some .int) 1 := ⟨tt_512, tt_6, by decide +kernel⟩
theorem kv_Machines_output : k_vir nY_Machines_output := ⟨tt_510, tt_511⟩
set_option maxHeartbeats 4000000 in
set_option maxRecDepth 100000 in
theorem cn_Machines_output (l : Launch) (D : va_G) (ca : Nat → ClassId) (qa0 qlows qhighs qrates qtold qrunning : Nat) (running_ : Nat → Int32) (rates_ : Nat → Int32) (x1 : Int32) (R0 : Int32) (hR : fn_Machines_output running_ rates_ x1 = some R0) : Met l nY_Machines_output (Cond.code nY_Machines_output nC_Machines_output 2 (some .int) :: TT) rm_Machines_output (rd_P [.ref qa0, .int x1] D ca [oc_Machines qa0 qlows qhighs qrates qtold qrunning, aZ qrunning ca 4 running_, aI qrates ca 4 rates_]) (vp_Si (fun x => x = R0)) 0 0 (fun _ => False) := by
  refine rd_ofI (by decide +kernel) (Nat.le_of_ble_eq_true rfl) ?_
  intro p e s m below meth c Q ar ls hx hb hml hts hown hP hK hl hret
  have hown : s.vm.findClass nR_Machines = some m.cls := hown
  have hl : lv_has ls 2 [(0, .ref qa0), (1, .int x1)] := hl
  unfold fn_Machines_output at hR
  refine lv_aload_n hx hb nd_Machines_output_0 rfl (lv_at hl 0 rfl) ?_
  refine va_get (D := D) (ci := 4) (v := .ref qrunning) (C := nR_Machines) (T := nT_Machines) (N := 5) hx hb hts ni_Machines hown hK hP 0 rfl rfl 4 (by decide) (hts (.fieldLink nR_Machines 25 "RoomClimate$Machines" "running" "[Z") tt_116) (fun _ h9 => h9) rfl nd_Machines_output_1 ?_
  refine lv_iload_n hx hb nd_Machines_output_4 rfl (lv_at hl 1 rfl) ?_
  obtain ⟨h1, hR⟩ := q_ix hR
  refine va_zald hx hb hK hP 1 2 rfl rfl h1 nd_Machines_output_5 ?_
  obtain ⟨j3_0, hJ3, hR⟩ := q_b1 hR
  have hN3 : ∀ (ls : Array Slot), lv_has ls 2 [(0, .ref qa0), (1, .int x1)] → W p l e rm_Machines_output s m ar below meth c s.heap [] 0 0 Q (F0 m 19 ls [.int j3_0]) := by
    intro ls  hl
    exact hret _ _ _ nd_Machines_output_19 (Option.some.inj hR)
  refine lv_if_eq (tgt := 18) hx hb nd_Machines_output_6 (by decide) (fun c2 => ?_) (fun c2 => ?_)
  · have hR := q_p c2 hJ3
    refine lv_iconst (v := 0) hx hb nd_Machines_output_18 (by decide) ?_
    cases hR
    exact hN3 _  (lv_sub hl [0, 1] rfl)
  · have hR := q_n c2 hJ3
    refine lv_aload_n hx hb nd_Machines_output_9 rfl (lv_at hl 0 rfl) ?_
    refine va_get (D := D) (ci := 4) (v := .ref qrates) (C := nR_Machines) (T := nT_Machines) (N := 5) hx hb hts ni_Machines hown hK hP 0 rfl rfl 2 (by decide) (hts (.fieldLink nR_Machines 18 "RoomClimate$Machines" "rates" "[I") tt_114) (fun _ h9 => h9) rfl nd_Machines_output_10 ?_
    refine lv_iload_n hx hb nd_Machines_output_13 rfl (lv_at hl 1 rfl) ?_
    refine va_iald hx hb hK hP 2 0 rfl rfl h1 nd_Machines_output_14 ?_
    refine lv_goto (tgt := 19) hx hb nd_Machines_output_15 (by decide) ?_
    cases hR
    exact hN3 _  (lv_sub hl [0, 1] rfl)
def rm_Machines_work : Room := { frames := 3, cells := 0, slots := 0, locals := 68 }
theorem kc_Machines_work : k_cal nY_Machines_work nC_Machines_work 2 none 1 := ⟨tt_503, tt_6, by decide +kernel⟩
theorem kv_Machines_work : k_vir nY_Machines_work := ⟨tt_501, tt_502⟩
set_option maxHeartbeats 4000000 in
set_option maxRecDepth 100000 in
theorem cn_Machines_work (l : Launch) (D : va_G) (ca : Nat → ClassId) (qa1 qheatBooks qwaterBooks qa0 qlows qhighs qrates qtold qrunning : Nat) (volume_ : Int32) (share_ : Int32) (heat_ : Int64) (water_ : Int64) (told_ : Nat → Int32) (lows_ : Nat → Int32) (highs_ : Nat → Int32) (running_ : Nat → Int32) (rates_ : Nat → Int32) (heatBooks_ : Nat → Int64) (waterBooks_ : Nat → Int64) (R0 : Nat → Int32) (R1 : Int64) (R2 : Nat → Int64) (R3 : Int64) (R4 : Nat → Int64) (hR : fn_Machines_work volume_ heat_ water_ told_ lows_ highs_ running_ rates_ heatBooks_ waterBooks_ = some (R0, R1, R2, R3, R4)) (sz : Nat) : Met l nY_Machines_work (Cond.code nY_Machines_work nC_Machines_work 2 none :: TT) rm_Machines_work (wr_P [.ref qa0, .ref qa1] D ca [oc_Interior qa1 qheatBooks qwaterBooks volume_ share_ heat_ water_, oc_Machines qa0 qlows qhighs qrates qtold qrunning, aZ qtold ca 4 told_, aI qlows ca 4 lows_, aI qhighs ca 4 highs_, aZ qrunning ca 4 running_, aI qrates ca 4 rates_, aJ qheatBooks ca 5 heatBooks_, aJ qwaterBooks ca 5 waterBooks_] sz) (va_Qv (fun (_ : Unit) => True) (wr_B D [oc_Interior qa1 qheatBooks qwaterBooks volume_ share_ heat_ water_, oc_Machines qa0 qlows qhighs qrates qtold qrunning, aZ qtold ca 4 told_, aI qlows ca 4 lows_, aI qhighs ca 4 highs_, aZ qrunning ca 4 running_, aI qrates ca 4 rates_, aJ qheatBooks ca 5 heatBooks_, aJ qwaterBooks ca 5 waterBooks_] sz [oc_Interior qa1 qheatBooks qwaterBooks volume_ share_ R1 R3, oc_Machines qa0 qlows qhighs qrates qtold qrunning, aZ qtold ca 4 told_, aI qlows ca 4 lows_, aI qhighs ca 4 highs_, aZ qrunning ca 4 R0, aI qrates ca 4 rates_, aJ qheatBooks ca 5 R2, aJ qwaterBooks ca 5 R4]) (va_A [oc_Interior qa1 qheatBooks qwaterBooks volume_ share_ heat_ water_, oc_Machines qa0 qlows qhighs qrates qtold qrunning, aZ qtold ca 4 told_, aI qlows ca 4 lows_, aI qhighs ca 4 highs_, aZ qrunning ca 4 running_, aI qrates ca 4 rates_, aJ qheatBooks ca 5 heatBooks_, aJ qwaterBooks ca 5 waterBooks_] sz)) 0 0 (va_A [oc_Interior qa1 qheatBooks qwaterBooks volume_ share_ heat_ water_, oc_Machines qa0 qlows qhighs qrates qtold qrunning, aZ qtold ca 4 told_, aI qlows ca 4 lows_, aI qhighs ca 4 highs_, aZ qrunning ca 4 running_, aI qrates ca 4 rates_, aJ qheatBooks ca 5 heatBooks_, aJ qwaterBooks ca 5 waterBooks_] sz) := by
  refine wr_ofV (R := (R0, R1, R2, R3, R4)) (w1 := fun r : (Nat → Int32) × Int64 × (Nat → Int64) × Int64 × (Nat → Int64) => [oc_Interior qa1 qheatBooks qwaterBooks volume_ share_ r.2.1 r.2.2.2.1, oc_Machines qa0 qlows qhighs qrates qtold qrunning, aZ qtold ca 4 told_, aI qlows ca 4 lows_, aI qhighs ca 4 highs_, aZ qrunning ca 4 r.1, aI qrates ca 4 rates_, aJ qheatBooks ca 5 r.2.2.1, aJ qwaterBooks ca 5 r.2.2.2.2]) (by decide +kernel) (Nat.le_of_ble_eq_true rfl) ?_
  intro p e s m below meth c Q ar ls hx hb hml hts hown hP hK A hD hA hl hret
  have hS : va_S A s.heap s.heap [] := va_S.rf
  have hown : s.vm.findClass nR_Machines = some m.cls := hown
  have hl : lv_has ls 2 [(0, .ref qa0), (1, .ref qa1)] := hl
  unfold fn_Machines_work at hR
  refine lv_aload_n hx hb nd_Machines_work_0 rfl (lv_at hl 0 rfl) ?_
  refine lv_iconst (v := 0) hx hb nd_Machines_work_1 (by decide) ?_
  refine lv_aload_n hx hb nd_Machines_work_2 rfl (lv_at hl 1 rfl) ?_
  obtain ⟨r1, e1, hR⟩ := q_b1 hR
  refine k_rVJ (As := []) (rest := [.int (0 : Int32), .ref qa0]) (r := r1) hx hb hml hown hts (cn_Interior_warmth l D ca qa1 qheatBooks qwaterBooks volume_ share_ heat_ water_ r1 e1) kc_Interior_warmth kv_Interior_warmth tt_504 ⟨by decide, by decide⟩ rfl rfl hP hK [0] rfl 0 rfl rfl rfl rfl hl.1 (Nat.le_of_ble_eq_true rfl) rfl nd_Machines_work_3 ⟨Nat.zero_le _, Nat.zero_le _⟩ ?_
  obtain ⟨u2_0, e2, hR⟩ := q_b1 hR
  refine k_wVV (wr := [oc_Interior qa1 qheatBooks qwaterBooks volume_ share_ heat_ water_, aI qrates ca 4 rates_, aJ qheatBooks ca 5 heatBooks_, aJ qwaterBooks ca 5 waterBooks_]) (w2 := [oc_Interior qa1 qheatBooks qwaterBooks volume_ share_ heat_ water_, oc_Machines qa0 qlows qhighs qrates qtold qrunning, aZ qtold ca 4 told_, aI qlows ca 4 lows_, aI qhighs ca 4 highs_, aZ qrunning ca 4 u2_0, aI qrates ca 4 rates_, aJ qheatBooks ca 5 heatBooks_, aJ qwaterBooks ca 5 waterBooks_]) (As := [.int (0 : Int32), .long r1]) (rest := []) hx hb hml hown hts (cn_Machines_steer l D ca qa0 qlows qhighs qrates qtold qrunning told_ lows_ highs_ running_ (0 : Int32) r1 u2_0 e2 _) kc_Machines_steer kv_Machines_steer tt_505 ⟨by decide, by decide⟩ rfl rfl hP hK hD hS hA [1, 2, 3, 4, 5] [0, 6, 7, 8] [0, 4, 5, 6, 7, 8, 1, 2, 3] rfl (by decide) rfl (by decide) (by decide) rfl (by decide) 0 rfl rfl rfl rfl hl.1 (Nat.le_of_ble_eq_true rfl) rfl nd_Machines_work_6 ⟨Nat.zero_le _, Nat.zero_le _⟩ (fun H locs hP hD hS => ?_)
  refine lv_aload_n hx hb nd_Machines_work_9 rfl (lv_at hl 1 rfl) ?_
  refine lv_iconst (v := 4) hx hb nd_Machines_work_10 (by decide) ?_
  refine lv_aload_n hx hb nd_Machines_work_11 rfl (lv_at hl 0 rfl) ?_
  refine lv_iconst (v := 0) hx hb nd_Machines_work_12 (by decide) ?_
  obtain ⟨r3, e3, hR⟩ := q_b1 hR
  refine k_rVI (As := [.int (0 : Int32)]) (rest := [.int (4 : Int32), .ref qa1]) (r := r3) hx hb hml hown hts (cn_Machines_output l D ca qa0 qlows qhighs qrates qtold qrunning u2_0 rates_ (0 : Int32) r3 e3) kc_Machines_output kv_Machines_output tt_509 ⟨by decide, by decide⟩ rfl rfl hP hK [1, 5, 6] rfl 0 rfl rfl rfl rfl hl.1 (Nat.le_of_ble_eq_true rfl) rfl nd_Machines_work_13 ⟨Nat.zero_le _, Nat.zero_le _⟩ ?_
  refine lv_i2l hx hb nd_Machines_work_16 rfl ?_
  obtain ⟨u4_0, u4_1, e4, hR⟩ := q_b2 hR
  refine k_wVV (wr := [oc_Machines qa0 qlows qhighs qrates qtold qrunning, aZ qtold ca 4 told_, aI qlows ca 4 lows_, aI qhighs ca 4 highs_, aZ qrunning ca 4 u2_0, aI qrates ca 4 rates_, aJ qwaterBooks ca 5 waterBooks_]) (w2 := [oc_Interior qa1 qheatBooks qwaterBooks volume_ share_ u4_0 water_, oc_Machines qa0 qlows qhighs qrates qtold qrunning, aZ qtold ca 4 told_, aI qlows ca 4 lows_, aI qhighs ca 4 highs_, aZ qrunning ca 4 u2_0, aI qrates ca 4 rates_, aJ qheatBooks ca 5 u4_1, aJ qwaterBooks ca 5 waterBooks_]) (As := [.int (4 : Int32), .long r3.toInt64]) (rest := []) hx hb hml hown hts (cn_Interior_gainHeat l D ca qa1 qheatBooks qwaterBooks volume_ share_ heat_ water_ heatBooks_ (4 : Int32) r3.toInt64 u4_0 u4_1 e4 _) kc_Interior_gainHeat kv_Interior_gainHeat tt_513 ⟨by decide, by decide⟩ rfl rfl hP hK hD hS hA [0, 7] [1, 2, 3, 4, 5, 6, 8] [7, 0, 1, 2, 3, 4, 5, 8, 6] rfl (by decide) rfl (by decide) (by decide) rfl (by decide) 0 rfl rfl rfl rfl hl.1 (Nat.le_of_ble_eq_true rfl) rfl nd_Machines_work_17 ⟨Nat.zero_le _, Nat.zero_le _⟩ (fun H locs hP hD hS => ?_)
  refine lv_aload_n hx hb nd_Machines_work_20 rfl (lv_at hl 0 rfl) ?_
  refine lv_iconst (v := 1) hx hb nd_Machines_work_21 (by decide) ?_
  refine lv_aload_n hx hb nd_Machines_work_22 rfl (lv_at hl 1 rfl) ?_
  obtain ⟨r5, e5, hR⟩ := q_b1 hR
  refine k_rVJ (As := []) (rest := [.int (1 : Int32), .ref qa0]) (r := r5) hx hb hml hown hts (cn_Interior_warmth l D ca qa1 qheatBooks qwaterBooks volume_ share_ u4_0 water_ r5 e5) kc_Interior_warmth kv_Interior_warmth tt_504 ⟨by decide, by decide⟩ rfl rfl hP hK [0] rfl 0 rfl rfl rfl rfl hl.1 (Nat.le_of_ble_eq_true rfl) rfl nd_Machines_work_23 ⟨Nat.zero_le _, Nat.zero_le _⟩ ?_
  obtain ⟨u6_0, e6, hR⟩ := q_b1 hR
  refine k_wVV (wr := [oc_Interior qa1 qheatBooks qwaterBooks volume_ share_ u4_0 water_, aI qrates ca 4 rates_, aJ qheatBooks ca 5 u4_1, aJ qwaterBooks ca 5 waterBooks_]) (w2 := [oc_Interior qa1 qheatBooks qwaterBooks volume_ share_ u4_0 water_, oc_Machines qa0 qlows qhighs qrates qtold qrunning, aZ qtold ca 4 told_, aI qlows ca 4 lows_, aI qhighs ca 4 highs_, aZ qrunning ca 4 u6_0, aI qrates ca 4 rates_, aJ qheatBooks ca 5 u4_1, aJ qwaterBooks ca 5 waterBooks_]) (As := [.int (1 : Int32), .long r5]) (rest := []) hx hb hml hown hts (cn_Machines_steer l D ca qa0 qlows qhighs qrates qtold qrunning told_ lows_ highs_ u2_0 (1 : Int32) r5 u6_0 e6 _) kc_Machines_steer kv_Machines_steer tt_505 ⟨by decide, by decide⟩ rfl rfl hP hK hD hS hA [1, 2, 3, 4, 5] [0, 6, 7, 8] [0, 4, 5, 6, 7, 8, 1, 2, 3] rfl (by decide) rfl (by decide) (by decide) rfl (by decide) 0 rfl rfl rfl rfl hl.1 (Nat.le_of_ble_eq_true rfl) rfl nd_Machines_work_26 ⟨Nat.zero_le _, Nat.zero_le _⟩ (fun H locs hP hD hS => ?_)
  refine lv_aload_n hx hb nd_Machines_work_29 rfl (lv_at hl 1 rfl) ?_
  refine lv_iconst (v := 4) hx hb nd_Machines_work_30 (by decide) ?_
  refine lv_aload_n hx hb nd_Machines_work_31 rfl (lv_at hl 0 rfl) ?_
  refine lv_iconst (v := 1) hx hb nd_Machines_work_32 (by decide) ?_
  obtain ⟨r7, e7, hR⟩ := q_b1 hR
  refine k_rVI (As := [.int (1 : Int32)]) (rest := [.int (4 : Int32), .ref qa1]) (r := r7) hx hb hml hown hts (cn_Machines_output l D ca qa0 qlows qhighs qrates qtold qrunning u6_0 rates_ (1 : Int32) r7 e7) kc_Machines_output kv_Machines_output tt_509 ⟨by decide, by decide⟩ rfl rfl hP hK [1, 5, 6] rfl 0 rfl rfl rfl rfl hl.1 (Nat.le_of_ble_eq_true rfl) rfl nd_Machines_work_33 ⟨Nat.zero_le _, Nat.zero_le _⟩ ?_
  refine lv_ineg hx hb nd_Machines_work_36 ?_
  refine lv_i2l hx hb nd_Machines_work_37 rfl ?_
  obtain ⟨u8_0, u8_1, e8, hR⟩ := q_b2 hR
  refine k_wVV (wr := [oc_Machines qa0 qlows qhighs qrates qtold qrunning, aZ qtold ca 4 told_, aI qlows ca 4 lows_, aI qhighs ca 4 highs_, aZ qrunning ca 4 u6_0, aI qrates ca 4 rates_, aJ qwaterBooks ca 5 waterBooks_]) (w2 := [oc_Interior qa1 qheatBooks qwaterBooks volume_ share_ u8_0 water_, oc_Machines qa0 qlows qhighs qrates qtold qrunning, aZ qtold ca 4 told_, aI qlows ca 4 lows_, aI qhighs ca 4 highs_, aZ qrunning ca 4 u6_0, aI qrates ca 4 rates_, aJ qheatBooks ca 5 u8_1, aJ qwaterBooks ca 5 waterBooks_]) (As := [.int (4 : Int32), .long ((-r7).toInt64)]) (rest := []) hx hb hml hown hts (cn_Interior_gainHeat l D ca qa1 qheatBooks qwaterBooks volume_ share_ u4_0 water_ u4_1 (4 : Int32) ((-r7).toInt64) u8_0 u8_1 e8 _) kc_Interior_gainHeat kv_Interior_gainHeat tt_513 ⟨by decide, by decide⟩ rfl rfl hP hK hD hS hA [0, 7] [1, 2, 3, 4, 5, 6, 8] [7, 0, 1, 2, 3, 4, 5, 8, 6] rfl (by decide) rfl (by decide) (by decide) rfl (by decide) 0 rfl rfl rfl rfl hl.1 (Nat.le_of_ble_eq_true rfl) rfl nd_Machines_work_38 ⟨Nat.zero_le _, Nat.zero_le _⟩ (fun H locs hP hD hS => ?_)
  refine lv_aload_n hx hb nd_Machines_work_41 rfl (lv_at hl 0 rfl) ?_
  refine lv_iconst (v := 2) hx hb nd_Machines_work_42 (by decide) ?_
  refine lv_aload_n hx hb nd_Machines_work_43 rfl (lv_at hl 1 rfl) ?_
  obtain ⟨r9, e9, hR⟩ := q_b1 hR
  refine k_rVJ (As := []) (rest := [.int (2 : Int32), .ref qa0]) (r := r9) hx hb hml hown hts (cn_Interior_moisture l D ca qa1 qheatBooks qwaterBooks volume_ share_ u8_0 water_ r9 e9) kc_Interior_moisture kv_Interior_moisture tt_514 ⟨by decide, by decide⟩ rfl rfl hP hK [0] rfl 0 rfl rfl rfl rfl hl.1 (Nat.le_of_ble_eq_true rfl) rfl nd_Machines_work_44 ⟨Nat.zero_le _, Nat.zero_le _⟩ ?_
  obtain ⟨u10_0, e10, hR⟩ := q_b1 hR
  refine k_wVV (wr := [oc_Interior qa1 qheatBooks qwaterBooks volume_ share_ u8_0 water_, aI qrates ca 4 rates_, aJ qheatBooks ca 5 u8_1, aJ qwaterBooks ca 5 waterBooks_]) (w2 := [oc_Interior qa1 qheatBooks qwaterBooks volume_ share_ u8_0 water_, oc_Machines qa0 qlows qhighs qrates qtold qrunning, aZ qtold ca 4 told_, aI qlows ca 4 lows_, aI qhighs ca 4 highs_, aZ qrunning ca 4 u10_0, aI qrates ca 4 rates_, aJ qheatBooks ca 5 u8_1, aJ qwaterBooks ca 5 waterBooks_]) (As := [.int (2 : Int32), .long r9]) (rest := []) hx hb hml hown hts (cn_Machines_steer l D ca qa0 qlows qhighs qrates qtold qrunning told_ lows_ highs_ u6_0 (2 : Int32) r9 u10_0 e10 _) kc_Machines_steer kv_Machines_steer tt_505 ⟨by decide, by decide⟩ rfl rfl hP hK hD hS hA [1, 2, 3, 4, 5] [0, 6, 7, 8] [0, 4, 5, 6, 7, 8, 1, 2, 3] rfl (by decide) rfl (by decide) (by decide) rfl (by decide) 0 rfl rfl rfl rfl hl.1 (Nat.le_of_ble_eq_true rfl) rfl nd_Machines_work_47 ⟨Nat.zero_le _, Nat.zero_le _⟩ (fun H locs hP hD hS => ?_)
  refine lv_aload_n hx hb nd_Machines_work_50 rfl (lv_at hl 1 rfl) ?_
  refine lv_iconst (v := 4) hx hb nd_Machines_work_51 (by decide) ?_
  refine lv_aload_n hx hb nd_Machines_work_52 rfl (lv_at hl 0 rfl) ?_
  refine lv_iconst (v := 2) hx hb nd_Machines_work_53 (by decide) ?_
  obtain ⟨r11, e11, hR⟩ := q_b1 hR
  refine k_rVI (As := [.int (2 : Int32)]) (rest := [.int (4 : Int32), .ref qa1]) (r := r11) hx hb hml hown hts (cn_Machines_output l D ca qa0 qlows qhighs qrates qtold qrunning u10_0 rates_ (2 : Int32) r11 e11) kc_Machines_output kv_Machines_output tt_509 ⟨by decide, by decide⟩ rfl rfl hP hK [1, 5, 6] rfl 0 rfl rfl rfl rfl hl.1 (Nat.le_of_ble_eq_true rfl) rfl nd_Machines_work_54 ⟨Nat.zero_le _, Nat.zero_le _⟩ ?_
  refine lv_i2l hx hb nd_Machines_work_57 rfl ?_
  obtain ⟨u12_0, u12_1, e12, hR⟩ := q_b2 hR
  refine k_wVV (wr := [oc_Machines qa0 qlows qhighs qrates qtold qrunning, aZ qtold ca 4 told_, aI qlows ca 4 lows_, aI qhighs ca 4 highs_, aZ qrunning ca 4 u10_0, aI qrates ca 4 rates_, aJ qheatBooks ca 5 u8_1]) (w2 := [oc_Interior qa1 qheatBooks qwaterBooks volume_ share_ u8_0 u12_0, oc_Machines qa0 qlows qhighs qrates qtold qrunning, aZ qtold ca 4 told_, aI qlows ca 4 lows_, aI qhighs ca 4 highs_, aZ qrunning ca 4 u10_0, aI qrates ca 4 rates_, aJ qheatBooks ca 5 u8_1, aJ qwaterBooks ca 5 u12_1]) (As := [.int (4 : Int32), .long r11.toInt64]) (rest := []) hx hb hml hown hts (cn_Interior_gainWater l D ca qa1 qheatBooks qwaterBooks volume_ share_ u8_0 water_ waterBooks_ (4 : Int32) r11.toInt64 u12_0 u12_1 e12 _) kc_Interior_gainWater kv_Interior_gainWater tt_515 ⟨by decide, by decide⟩ rfl rfl hP hK hD hS hA [0, 8] [1, 2, 3, 4, 5, 6, 7] [7, 0, 1, 2, 3, 4, 5, 6, 8] rfl (by decide) rfl (by decide) (by decide) rfl (by decide) 0 rfl rfl rfl rfl hl.1 (Nat.le_of_ble_eq_true rfl) rfl nd_Machines_work_58 ⟨Nat.zero_le _, Nat.zero_le _⟩ (fun H locs hP hD hS => ?_)
  refine lv_aload_n hx hb nd_Machines_work_61 rfl (lv_at hl 0 rfl) ?_
  refine lv_iconst (v := 3) hx hb nd_Machines_work_62 (by decide) ?_
  refine lv_aload_n hx hb nd_Machines_work_63 rfl (lv_at hl 1 rfl) ?_
  obtain ⟨r13, e13, hR⟩ := q_b1 hR
  refine k_rVJ (As := []) (rest := [.int (3 : Int32), .ref qa0]) (r := r13) hx hb hml hown hts (cn_Interior_moisture l D ca qa1 qheatBooks qwaterBooks volume_ share_ u8_0 u12_0 r13 e13) kc_Interior_moisture kv_Interior_moisture tt_514 ⟨by decide, by decide⟩ rfl rfl hP hK [0] rfl 0 rfl rfl rfl rfl hl.1 (Nat.le_of_ble_eq_true rfl) rfl nd_Machines_work_64 ⟨Nat.zero_le _, Nat.zero_le _⟩ ?_
  obtain ⟨u14_0, e14, hR⟩ := q_b1 hR
  refine k_wVV (wr := [oc_Interior qa1 qheatBooks qwaterBooks volume_ share_ u8_0 u12_0, aI qrates ca 4 rates_, aJ qheatBooks ca 5 u8_1, aJ qwaterBooks ca 5 u12_1]) (w2 := [oc_Interior qa1 qheatBooks qwaterBooks volume_ share_ u8_0 u12_0, oc_Machines qa0 qlows qhighs qrates qtold qrunning, aZ qtold ca 4 told_, aI qlows ca 4 lows_, aI qhighs ca 4 highs_, aZ qrunning ca 4 u14_0, aI qrates ca 4 rates_, aJ qheatBooks ca 5 u8_1, aJ qwaterBooks ca 5 u12_1]) (As := [.int (3 : Int32), .long r13]) (rest := []) hx hb hml hown hts (cn_Machines_steer l D ca qa0 qlows qhighs qrates qtold qrunning told_ lows_ highs_ u10_0 (3 : Int32) r13 u14_0 e14 _) kc_Machines_steer kv_Machines_steer tt_505 ⟨by decide, by decide⟩ rfl rfl hP hK hD hS hA [1, 2, 3, 4, 5] [0, 6, 7, 8] [0, 4, 5, 6, 7, 8, 1, 2, 3] rfl (by decide) rfl (by decide) (by decide) rfl (by decide) 0 rfl rfl rfl rfl hl.1 (Nat.le_of_ble_eq_true rfl) rfl nd_Machines_work_67 ⟨Nat.zero_le _, Nat.zero_le _⟩ (fun H locs hP hD hS => ?_)
  refine lv_aload_n hx hb nd_Machines_work_70 rfl (lv_at hl 1 rfl) ?_
  refine lv_iconst (v := 4) hx hb nd_Machines_work_71 (by decide) ?_
  refine lv_aload_n hx hb nd_Machines_work_72 rfl (lv_at hl 0 rfl) ?_
  refine lv_iconst (v := 3) hx hb nd_Machines_work_73 (by decide) ?_
  obtain ⟨r15, e15, hR⟩ := q_b1 hR
  refine k_rVI (As := [.int (3 : Int32)]) (rest := [.int (4 : Int32), .ref qa1]) (r := r15) hx hb hml hown hts (cn_Machines_output l D ca qa0 qlows qhighs qrates qtold qrunning u14_0 rates_ (3 : Int32) r15 e15) kc_Machines_output kv_Machines_output tt_509 ⟨by decide, by decide⟩ rfl rfl hP hK [1, 5, 6] rfl 0 rfl rfl rfl rfl hl.1 (Nat.le_of_ble_eq_true rfl) rfl nd_Machines_work_74 ⟨Nat.zero_le _, Nat.zero_le _⟩ ?_
  refine lv_i2l hx hb nd_Machines_work_77 rfl ?_
  refine lv_aload_n hx hb nd_Machines_work_78 rfl (lv_at hl 1 rfl) ?_
  refine va_getN (D := D) (ci := 3) (v := .long u12_0) (C := nR_Interior) (T := nT_Interior) (N := 6) hx hb hts ni_Interior hown hK hP 0 rfl rfl 5 (by decide) (hts (.fieldLinkNest nR_Machines 51 "RoomClimate$Interior" "water" "J" "RoomClimate") tt_70) (fun _ h9 => h9) rfl nd_Machines_work_79 ?_
  refine va_mmin_long hx hb (hml.trans hl.1.symm) hown (hts _ tt_516) (hts _ tt_491) (hts _ tt_17) (hts _ tt_492) (by decide) (Nat.le_of_ble_eq_true rfl) (Nat.zero_le _) (Nat.zero_le _) nd_Machines_work_82 ?_
  refine lv_lneg hx hb nd_Machines_work_85 ?_
  obtain ⟨u16_0, u16_1, e16, hR⟩ := q_b2 hR
  refine k_wVV (wr := [oc_Machines qa0 qlows qhighs qrates qtold qrunning, aZ qtold ca 4 told_, aI qlows ca 4 lows_, aI qhighs ca 4 highs_, aZ qrunning ca 4 u14_0, aI qrates ca 4 rates_, aJ qheatBooks ca 5 u8_1]) (w2 := [oc_Interior qa1 qheatBooks qwaterBooks volume_ share_ u8_0 u16_0, oc_Machines qa0 qlows qhighs qrates qtold qrunning, aZ qtold ca 4 told_, aI qlows ca 4 lows_, aI qhighs ca 4 highs_, aZ qrunning ca 4 u14_0, aI qrates ca 4 rates_, aJ qheatBooks ca 5 u8_1, aJ qwaterBooks ca 5 u16_1]) (As := [.int (4 : Int32), .long (-(if u12_0 < r15.toInt64 then u12_0 else r15.toInt64))]) (rest := []) hx hb hml hown hts (cn_Interior_gainWater l D ca qa1 qheatBooks qwaterBooks volume_ share_ u8_0 u12_0 u12_1 (4 : Int32) (-(if u12_0 < r15.toInt64 then u12_0 else r15.toInt64)) u16_0 u16_1 e16 _) kc_Interior_gainWater kv_Interior_gainWater tt_515 ⟨by decide, by decide⟩ rfl rfl hP hK hD hS hA [0, 8] [1, 2, 3, 4, 5, 6, 7] [7, 0, 1, 2, 3, 4, 5, 6, 8] rfl (by decide) rfl (by decide) (by decide) rfl (by decide) 0 rfl rfl rfl rfl hl.1 (Nat.le_of_ble_eq_true rfl) rfl nd_Machines_work_86 ⟨Nat.zero_le _, Nat.zero_le _⟩ (fun H locs hP hD hS => ?_)
  exact hret (u14_0, u8_0, u8_1, u16_0, u16_1) _ _ _ _ nd_Machines_work_89 hR hP hD hS
def rm_House_pass : Room := { frames := 4, cells := 0, slots := 0, locals := 96 }
theorem kc_House_pass : k_cal nY_House_pass nC_House_pass 4 none 3 := ⟨tt_451, tt_3, by decide +kernel⟩
theorem kv_House_pass : k_vir nY_House_pass := ⟨tt_449, tt_450⟩
set_option maxHeartbeats 4000000 in
set_option maxRecDepth 100000 in
theorem cn_House_pass (l : Launch) (D : va_G) (ca : Nat → ClassId) (qa0 qinside qwalls qgoods qmachines qheatBooks qwaterBooks qconductances qcapacities qheats qrows qlevels qamounts qlows qhighs qrates qtold qrunning : Nat) (volume_ : Int32) (share_ : Int32) (heat_ : Int64) (water_ : Int64) (heatBooks_ : Nat → Int64) (waterBooks_ : Nat → Int64) (layers_ : Int32) (heats_ : Nat → Int64) (conductances_ : Nat → Int32) (capacities_ : Nat → Int32) (kilograms_ : Int32) (load_ : Int64) (size_ : Int32) (amounts_ : Nat → Int32) (levels_ : Nat → Int32) (told_ : Nat → Int32) (lows_ : Nat → Int32) (highs_ : Nat → Int32) (running_ : Nat → Int32) (rates_ : Nat → Int32) (n_rows : Nat) (x1 : Int32) (x2 : Int32) (x3 : Int32) (R0 : Int64) (R1 : Nat → Int64) (R2 : Int64) (R3 : Nat → Int64) (R4 : Nat → Int64) (R5 : Int64) (R6 : Nat → Int32) (hR : fn_House_pass volume_ share_ heat_ water_ heatBooks_ waterBooks_ layers_ heats_ conductances_ capacities_ kilograms_ load_ size_ amounts_ levels_ told_ lows_ highs_ running_ rates_ n_rows x1 x2 x3 = some (R0, R1, R2, R3, R4, R5, R6)) (sz : Nat) : Met l nY_House_pass (Cond.code nY_House_pass nC_House_pass 4 none :: TT) rm_House_pass (wr_P [.ref qa0, .int x1, .int x2, .int x3] D ca [oc_House qa0 qinside qwalls qgoods qmachines, oc_Interior qinside qheatBooks qwaterBooks volume_ share_ heat_ water_, aJ qheatBooks ca 5 heatBooks_, aJ qwaterBooks ca 5 waterBooks_, oc_Walls qwalls qconductances qcapacities qheats layers_, aJ qheats ca 5 heats_, aI qconductances ca 5 conductances_, aI qcapacities ca 5 capacities_, oc_Goods qgoods qrows kilograms_ load_, oc_Steps qrows qlevels qamounts size_, aI qamounts ca n_rows amounts_, aI qlevels ca n_rows levels_, oc_Machines qmachines qlows qhighs qrates qtold qrunning, aZ qtold ca 4 told_, aI qlows ca 4 lows_, aI qhighs ca 4 highs_, aZ qrunning ca 4 running_, aI qrates ca 4 rates_] sz) (va_Qv (fun (_ : Unit) => True) (wr_B D [oc_House qa0 qinside qwalls qgoods qmachines, oc_Interior qinside qheatBooks qwaterBooks volume_ share_ heat_ water_, aJ qheatBooks ca 5 heatBooks_, aJ qwaterBooks ca 5 waterBooks_, oc_Walls qwalls qconductances qcapacities qheats layers_, aJ qheats ca 5 heats_, aI qconductances ca 5 conductances_, aI qcapacities ca 5 capacities_, oc_Goods qgoods qrows kilograms_ load_, oc_Steps qrows qlevels qamounts size_, aI qamounts ca n_rows amounts_, aI qlevels ca n_rows levels_, oc_Machines qmachines qlows qhighs qrates qtold qrunning, aZ qtold ca 4 told_, aI qlows ca 4 lows_, aI qhighs ca 4 highs_, aZ qrunning ca 4 running_, aI qrates ca 4 rates_] sz [oc_House qa0 qinside qwalls qgoods qmachines, oc_Interior qinside qheatBooks qwaterBooks volume_ share_ R0 R2, aJ qheatBooks ca 5 R1, aJ qwaterBooks ca 5 R3, oc_Walls qwalls qconductances qcapacities qheats layers_, aJ qheats ca 5 R4, aI qconductances ca 5 conductances_, aI qcapacities ca 5 capacities_, oc_Goods qgoods qrows kilograms_ R5, oc_Steps qrows qlevels qamounts size_, aI qamounts ca n_rows amounts_, aI qlevels ca n_rows levels_, oc_Machines qmachines qlows qhighs qrates qtold qrunning, aZ qtold ca 4 told_, aI qlows ca 4 lows_, aI qhighs ca 4 highs_, aZ qrunning ca 4 R6, aI qrates ca 4 rates_]) (va_A [oc_House qa0 qinside qwalls qgoods qmachines, oc_Interior qinside qheatBooks qwaterBooks volume_ share_ heat_ water_, aJ qheatBooks ca 5 heatBooks_, aJ qwaterBooks ca 5 waterBooks_, oc_Walls qwalls qconductances qcapacities qheats layers_, aJ qheats ca 5 heats_, aI qconductances ca 5 conductances_, aI qcapacities ca 5 capacities_, oc_Goods qgoods qrows kilograms_ load_, oc_Steps qrows qlevels qamounts size_, aI qamounts ca n_rows amounts_, aI qlevels ca n_rows levels_, oc_Machines qmachines qlows qhighs qrates qtold qrunning, aZ qtold ca 4 told_, aI qlows ca 4 lows_, aI qhighs ca 4 highs_, aZ qrunning ca 4 running_, aI qrates ca 4 rates_] sz)) 0 0 (va_A [oc_House qa0 qinside qwalls qgoods qmachines, oc_Interior qinside qheatBooks qwaterBooks volume_ share_ heat_ water_, aJ qheatBooks ca 5 heatBooks_, aJ qwaterBooks ca 5 waterBooks_, oc_Walls qwalls qconductances qcapacities qheats layers_, aJ qheats ca 5 heats_, aI qconductances ca 5 conductances_, aI qcapacities ca 5 capacities_, oc_Goods qgoods qrows kilograms_ load_, oc_Steps qrows qlevels qamounts size_, aI qamounts ca n_rows amounts_, aI qlevels ca n_rows levels_, oc_Machines qmachines qlows qhighs qrates qtold qrunning, aZ qtold ca 4 told_, aI qlows ca 4 lows_, aI qhighs ca 4 highs_, aZ qrunning ca 4 running_, aI qrates ca 4 rates_] sz) := by
  refine wr_ofV (R := (R0, R1, R2, R3, R4, R5, R6)) (w1 := fun r : Int64 × (Nat → Int64) × Int64 × (Nat → Int64) × (Nat → Int64) × Int64 × (Nat → Int32) => [oc_House qa0 qinside qwalls qgoods qmachines, oc_Interior qinside qheatBooks qwaterBooks volume_ share_ r.1 r.2.2.1, aJ qheatBooks ca 5 r.2.1, aJ qwaterBooks ca 5 r.2.2.2.1, oc_Walls qwalls qconductances qcapacities qheats layers_, aJ qheats ca 5 r.2.2.2.2.1, aI qconductances ca 5 conductances_, aI qcapacities ca 5 capacities_, oc_Goods qgoods qrows kilograms_ r.2.2.2.2.2.1, oc_Steps qrows qlevels qamounts size_, aI qamounts ca n_rows amounts_, aI qlevels ca n_rows levels_, oc_Machines qmachines qlows qhighs qrates qtold qrunning, aZ qtold ca 4 told_, aI qlows ca 4 lows_, aI qhighs ca 4 highs_, aZ qrunning ca 4 r.2.2.2.2.2.2, aI qrates ca 4 rates_]) (by decide +kernel) (Nat.le_of_ble_eq_true rfl) ?_
  intro p e s m below meth c Q ar ls hx hb hml hts hown hP hK A hD hA hl hret
  have hS : va_S A s.heap s.heap [] := va_S.rf
  have hown : s.vm.findClass nR_House = some m.cls := hown
  have hl : lv_has ls 4 [(0, .ref qa0), (1, .int x1), (2, .int x2), (3, .int x3)] := hl
  unfold fn_House_pass at hR
  refine lv_aload_n hx hb nd_House_pass_0 rfl (lv_at hl 0 rfl) ?_
  refine va_get (D := D) (ci := 2) (v := .ref qinside) (C := nR_House) (T := nT_House) (N := 4) hx hb hts ni_House hown hK hP 0 rfl rfl 0 (by decide) (hts (.fieldLink nR_House 10 "RoomClimate$House" "inside" "LRoomClimate$Interior;") tt_149) (fun _ h9 => h9) rfl nd_House_pass_1 ?_
  refine lv_iload_n hx hb nd_House_pass_4 rfl (lv_at hl 1 rfl) ?_
  refine lv_iload_n hx hb nd_House_pass_5 rfl (lv_at hl 2 rfl) ?_
  obtain ⟨u1_0, u1_1, u1_2, u1_3, e1, hR⟩ := q_b4 hR
  refine k_wVV (wr := [oc_House qa0 qinside qwalls qgoods qmachines, oc_Walls qwalls qconductances qcapacities qheats layers_, aJ qheats ca 5 heats_, aI qconductances ca 5 conductances_, aI qcapacities ca 5 capacities_, oc_Goods qgoods qrows kilograms_ load_, oc_Steps qrows qlevels qamounts size_, aI qamounts ca n_rows amounts_, aI qlevels ca n_rows levels_, oc_Machines qmachines qlows qhighs qrates qtold qrunning, aZ qtold ca 4 told_, aI qlows ca 4 lows_, aI qhighs ca 4 highs_, aZ qrunning ca 4 running_, aI qrates ca 4 rates_]) (w2 := [oc_House qa0 qinside qwalls qgoods qmachines, oc_Interior qinside qheatBooks qwaterBooks volume_ share_ u1_0 u1_2, aJ qheatBooks ca 5 u1_1, aJ qwaterBooks ca 5 u1_3, oc_Walls qwalls qconductances qcapacities qheats layers_, aJ qheats ca 5 heats_, aI qconductances ca 5 conductances_, aI qcapacities ca 5 capacities_, oc_Goods qgoods qrows kilograms_ load_, oc_Steps qrows qlevels qamounts size_, aI qamounts ca n_rows amounts_, aI qlevels ca n_rows levels_, oc_Machines qmachines qlows qhighs qrates qtold qrunning, aZ qtold ca 4 told_, aI qlows ca 4 lows_, aI qhighs ca 4 highs_, aZ qrunning ca 4 running_, aI qrates ca 4 rates_]) (As := [.int x1, .int x2]) (rest := []) hx hb hml hown hts (cn_Interior_exchangeAir l D ca qinside qheatBooks qwaterBooks volume_ share_ heat_ water_ heatBooks_ waterBooks_ x1 x2 u1_0 u1_1 u1_2 u1_3 e1 _) kc_Interior_exchangeAir kv_Interior_exchangeAir tt_452 ⟨by decide, by decide⟩ rfl rfl hP hK hD hS hA [1, 2, 3] [0, 4, 5, 6, 7, 8, 9, 10, 11, 12, 13, 14, 15, 16, 17] [0, 15, 16, 17, 1, 2, 3, 4, 5, 6, 7, 8, 9, 10, 11, 12, 13, 14] rfl (by decide) rfl (by decide) (by decide) rfl (by decide) 0 rfl rfl rfl rfl hl.1 (Nat.le_of_ble_eq_true rfl) rfl nd_House_pass_6 ⟨Nat.zero_le _, Nat.zero_le _⟩ (fun H locs hP hD hS => ?_)
  refine lv_aload_n hx hb nd_House_pass_9 rfl (lv_at hl 0 rfl) ?_
  refine va_get (D := D) (ci := 2) (v := .ref qwalls) (C := nR_House) (T := nT_House) (N := 4) hx hb hts ni_House hown hK hP 0 rfl rfl 1 (by decide) (hts (.fieldLink nR_House 19 "RoomClimate$House" "walls" "LRoomClimate$Walls;") tt_151) (fun _ h9 => h9) rfl nd_House_pass_10 ?_
  refine lv_aload_n hx hb nd_House_pass_13 rfl (lv_at hl 0 rfl) ?_
  refine va_get (D := D) (ci := 2) (v := .ref qinside) (C := nR_House) (T := nT_House) (N := 4) hx hb hts ni_House hown hK hP 0 rfl rfl 0 (by decide) (hts (.fieldLink nR_House 10 "RoomClimate$House" "inside" "LRoomClimate$Interior;") tt_149) (fun _ h9 => h9) rfl nd_House_pass_14 ?_
  refine lv_iload_n hx hb nd_House_pass_17 rfl (lv_at hl 1 rfl) ?_
  obtain ⟨u2_0, u2_1, u2_2, e2, hR⟩ := q_b3 hR
  refine k_wVV (wr := [oc_House qa0 qinside qwalls qgoods qmachines, aJ qwaterBooks ca 5 u1_3, oc_Goods qgoods qrows kilograms_ load_, oc_Steps qrows qlevels qamounts size_, aI qamounts ca n_rows amounts_, aI qlevels ca n_rows levels_, oc_Machines qmachines qlows qhighs qrates qtold qrunning, aZ qtold ca 4 told_, aI qlows ca 4 lows_, aI qhighs ca 4 highs_, aZ qrunning ca 4 running_, aI qrates ca 4 rates_]) (w2 := [oc_House qa0 qinside qwalls qgoods qmachines, oc_Interior qinside qheatBooks qwaterBooks volume_ share_ u2_1 u1_2, aJ qheatBooks ca 5 u2_2, aJ qwaterBooks ca 5 u1_3, oc_Walls qwalls qconductances qcapacities qheats layers_, aJ qheats ca 5 u2_0, aI qconductances ca 5 conductances_, aI qcapacities ca 5 capacities_, oc_Goods qgoods qrows kilograms_ load_, oc_Steps qrows qlevels qamounts size_, aI qamounts ca n_rows amounts_, aI qlevels ca n_rows levels_, oc_Machines qmachines qlows qhighs qrates qtold qrunning, aZ qtold ca 4 told_, aI qlows ca 4 lows_, aI qhighs ca 4 highs_, aZ qrunning ca 4 running_, aI qrates ca 4 rates_]) (As := [.ref qinside, .int x1]) (rest := []) hx hb hml hown hts (cn_Walls_conduct l D ca qwalls qconductances qcapacities qheats qinside qheatBooks qwaterBooks layers_ heats_ conductances_ capacities_ volume_ share_ u1_0 u1_2 u1_1 x1 u2_0 u2_1 u2_2 e2 _) kc_Walls_conduct kv_Walls_conduct tt_467 ⟨by decide, by decide⟩ rfl rfl hP hK hD hS hA [4, 5, 6, 7, 1, 2] [0, 3, 8, 9, 10, 11, 12, 13, 14, 15, 16, 17] [0, 16, 17, 1, 12, 13, 14, 15, 2, 3, 4, 5, 6, 7, 8, 9, 10, 11] rfl (by decide) rfl (by decide) (by decide) rfl (by decide) 0 rfl rfl rfl rfl hl.1 (Nat.le_of_ble_eq_true rfl) rfl nd_House_pass_18 ⟨Nat.zero_le _, Nat.zero_le _⟩ (fun H locs hP hD hS => ?_)
  refine lv_aload_n hx hb nd_House_pass_21 rfl (lv_at hl 0 rfl) ?_
  refine va_get (D := D) (ci := 2) (v := .ref qgoods) (C := nR_House) (T := nT_House) (N := 4) hx hb hts ni_House hown hK hP 0 rfl rfl 2 (by decide) (hts (.fieldLink nR_House 35 "RoomClimate$House" "goods" "LRoomClimate$Goods;") tt_153) (fun _ h9 => h9) rfl nd_House_pass_22 ?_
  refine lv_aload_n hx hb nd_House_pass_25 rfl (lv_at hl 0 rfl) ?_
  refine va_get (D := D) (ci := 2) (v := .ref qinside) (C := nR_House) (T := nT_House) (N := 4) hx hb hts ni_House hown hK hP 0 rfl rfl 0 (by decide) (hts (.fieldLink nR_House 10 "RoomClimate$House" "inside" "LRoomClimate$Interior;") tt_149) (fun _ h9 => h9) rfl nd_House_pass_26 ?_
  obtain ⟨u3_0, u3_1, u3_2, e3, hR⟩ := q_b3 hR
  refine k_wVV (wr := [oc_House qa0 qinside qwalls qgoods qmachines, aJ qheatBooks ca 5 u2_2, oc_Walls qwalls qconductances qcapacities qheats layers_, aJ qheats ca 5 u2_0, aI qconductances ca 5 conductances_, aI qcapacities ca 5 capacities_, oc_Machines qmachines qlows qhighs qrates qtold qrunning, aZ qtold ca 4 told_, aI qlows ca 4 lows_, aI qhighs ca 4 highs_, aZ qrunning ca 4 running_, aI qrates ca 4 rates_]) (w2 := [oc_House qa0 qinside qwalls qgoods qmachines, oc_Interior qinside qheatBooks qwaterBooks volume_ share_ u2_1 u3_1, aJ qheatBooks ca 5 u2_2, aJ qwaterBooks ca 5 u3_2, oc_Walls qwalls qconductances qcapacities qheats layers_, aJ qheats ca 5 u2_0, aI qconductances ca 5 conductances_, aI qcapacities ca 5 capacities_, oc_Goods qgoods qrows kilograms_ u3_0, oc_Steps qrows qlevels qamounts size_, aI qamounts ca n_rows amounts_, aI qlevels ca n_rows levels_, oc_Machines qmachines qlows qhighs qrates qtold qrunning, aZ qtold ca 4 told_, aI qlows ca 4 lows_, aI qhighs ca 4 highs_, aZ qrunning ca 4 running_, aI qrates ca 4 rates_]) (As := [.ref qinside]) (rest := []) hx hb hml hown hts (cn_Goods_soak l D ca qgoods qrows qinside qheatBooks qwaterBooks qlevels qamounts kilograms_ load_ volume_ share_ u2_1 u1_2 size_ amounts_ levels_ u1_3 n_rows u3_0 u3_1 u3_2 e3 _) kc_Goods_soak kv_Goods_soak tt_479 ⟨by decide, by decide⟩ rfl rfl hP hK hD hS hA [8, 1, 9, 10, 11, 3] [0, 2, 4, 5, 6, 7, 12, 13, 14, 15, 16, 17] [0, 13, 1, 17, 2, 3, 4, 5, 12, 14, 15, 16, 6, 7, 8, 9, 10, 11] rfl (by decide) rfl (by decide) (by decide) rfl (by decide) 0 rfl rfl rfl rfl hl.1 (Nat.le_of_ble_eq_true rfl) rfl nd_House_pass_29 ⟨Nat.zero_le _, Nat.zero_le _⟩ (fun H locs hP hD hS => ?_)
  refine lv_aload_n hx hb nd_House_pass_32 rfl (lv_at hl 0 rfl) ?_
  refine va_get (D := D) (ci := 2) (v := .ref qinside) (C := nR_House) (T := nT_House) (N := 4) hx hb hts ni_House hown hK hP 0 rfl rfl 0 (by decide) (hts (.fieldLink nR_House 10 "RoomClimate$House" "inside" "LRoomClimate$Interior;") tt_149) (fun _ h9 => h9) rfl nd_House_pass_33 ?_
  refine lv_iload_n hx hb nd_House_pass_36 rfl (lv_at hl 3 rfl) ?_
  obtain ⟨u4_0, u4_1, u4_2, u4_3, e4, hR⟩ := q_b4 hR
  refine k_wVV (wr := [oc_House qa0 qinside qwalls qgoods qmachines, oc_Walls qwalls qconductances qcapacities qheats layers_, aJ qheats ca 5 u2_0, aI qconductances ca 5 conductances_, aI qcapacities ca 5 capacities_, oc_Goods qgoods qrows kilograms_ u3_0, oc_Steps qrows qlevels qamounts size_, aI qamounts ca n_rows amounts_, aI qlevels ca n_rows levels_, oc_Machines qmachines qlows qhighs qrates qtold qrunning, aZ qtold ca 4 told_, aI qlows ca 4 lows_, aI qhighs ca 4 highs_, aZ qrunning ca 4 running_, aI qrates ca 4 rates_]) (w2 := [oc_House qa0 qinside qwalls qgoods qmachines, oc_Interior qinside qheatBooks qwaterBooks volume_ share_ u4_0 u4_2, aJ qheatBooks ca 5 u4_1, aJ qwaterBooks ca 5 u4_3, oc_Walls qwalls qconductances qcapacities qheats layers_, aJ qheats ca 5 u2_0, aI qconductances ca 5 conductances_, aI qcapacities ca 5 capacities_, oc_Goods qgoods qrows kilograms_ u3_0, oc_Steps qrows qlevels qamounts size_, aI qamounts ca n_rows amounts_, aI qlevels ca n_rows levels_, oc_Machines qmachines qlows qhighs qrates qtold qrunning, aZ qtold ca 4 told_, aI qlows ca 4 lows_, aI qhighs ca 4 highs_, aZ qrunning ca 4 running_, aI qrates ca 4 rates_]) (As := [.int x3]) (rest := []) hx hb hml hown hts (cn_Interior_receive l D ca qinside qheatBooks qwaterBooks volume_ share_ u2_1 u3_1 u2_2 u3_2 x3 u4_0 u4_1 u4_2 u4_3 e4 _) kc_Interior_receive kv_Interior_receive tt_494 ⟨by decide, by decide⟩ rfl rfl hP hK hD hS hA [1, 2, 3] [0, 4, 5, 6, 7, 8, 9, 10, 11, 12, 13, 14, 15, 16, 17] [0, 15, 16, 17, 1, 2, 3, 4, 5, 6, 7, 8, 9, 10, 11, 12, 13, 14] rfl (by decide) rfl (by decide) (by decide) rfl (by decide) 0 rfl rfl rfl rfl hl.1 (Nat.le_of_ble_eq_true rfl) rfl nd_House_pass_37 ⟨Nat.zero_le _, Nat.zero_le _⟩ (fun H locs hP hD hS => ?_)
  refine lv_aload_n hx hb nd_House_pass_40 rfl (lv_at hl 0 rfl) ?_
  refine va_get (D := D) (ci := 2) (v := .ref qmachines) (C := nR_House) (T := nT_House) (N := 4) hx hb hts ni_House hown hK hP 0 rfl rfl 3 (by decide) (hts (.fieldLink nR_House 26 "RoomClimate$House" "machines" "LRoomClimate$Machines;") tt_155) (fun _ h9 => h9) rfl nd_House_pass_41 ?_
  refine lv_aload_n hx hb nd_House_pass_44 rfl (lv_at hl 0 rfl) ?_
  refine va_get (D := D) (ci := 2) (v := .ref qinside) (C := nR_House) (T := nT_House) (N := 4) hx hb hts ni_House hown hK hP 0 rfl rfl 0 (by decide) (hts (.fieldLink nR_House 10 "RoomClimate$House" "inside" "LRoomClimate$Interior;") tt_149) (fun _ h9 => h9) rfl nd_House_pass_45 ?_
  obtain ⟨u5_0, u5_1, u5_2, u5_3, u5_4, e5, hR⟩ := q_b5 hR
  refine k_wVV (wr := [oc_House qa0 qinside qwalls qgoods qmachines, oc_Walls qwalls qconductances qcapacities qheats layers_, aJ qheats ca 5 u2_0, aI qconductances ca 5 conductances_, aI qcapacities ca 5 capacities_, oc_Goods qgoods qrows kilograms_ u3_0, oc_Steps qrows qlevels qamounts size_, aI qamounts ca n_rows amounts_, aI qlevels ca n_rows levels_]) (w2 := [oc_House qa0 qinside qwalls qgoods qmachines, oc_Interior qinside qheatBooks qwaterBooks volume_ share_ u5_1 u5_3, aJ qheatBooks ca 5 u5_2, aJ qwaterBooks ca 5 u5_4, oc_Walls qwalls qconductances qcapacities qheats layers_, aJ qheats ca 5 u2_0, aI qconductances ca 5 conductances_, aI qcapacities ca 5 capacities_, oc_Goods qgoods qrows kilograms_ u3_0, oc_Steps qrows qlevels qamounts size_, aI qamounts ca n_rows amounts_, aI qlevels ca n_rows levels_, oc_Machines qmachines qlows qhighs qrates qtold qrunning, aZ qtold ca 4 told_, aI qlows ca 4 lows_, aI qhighs ca 4 highs_, aZ qrunning ca 4 u5_0, aI qrates ca 4 rates_]) (As := [.ref qinside]) (rest := []) hx hb hml hown hts (cn_Machines_work l D ca qinside qheatBooks qwaterBooks qmachines qlows qhighs qrates qtold qrunning volume_ share_ u4_0 u4_2 told_ lows_ highs_ running_ rates_ u4_1 u4_3 u5_0 u5_1 u5_2 u5_3 u5_4 e5 _) kc_Machines_work kv_Machines_work tt_500 ⟨by decide, by decide⟩ rfl rfl hP hK hD hS hA [1, 12, 13, 14, 15, 16, 17, 2, 3] [0, 4, 5, 6, 7, 8, 9, 10, 11] [0, 9, 16, 17, 1, 2, 3, 4, 5, 6, 7, 8, 10, 11, 12, 13, 14, 15] rfl (by decide) rfl (by decide) (by decide) rfl (by decide) 1 rfl rfl rfl rfl hl.1 (Nat.le_of_ble_eq_true rfl) rfl nd_House_pass_48 ⟨Nat.zero_le _, Nat.zero_le _⟩ (fun H locs hP hD hS => ?_)
  exact hret (u5_1, u5_2, u5_3, u5_4, u2_0, u3_0, u5_0) _ _ _ _ nd_House_pass_51 hR hP hD hS
def rm_Interior_copyFrom : Room := { frames := 0, cells := 0, slots := 0, locals := 0 }
theorem kc_Interior_copyFrom : k_cal nY_Interior_copyFrom nC_Interior_copyFrom 2 none 1 := ⟨tt_682, tt_4, by decide +kernel⟩
theorem kv_Interior_copyFrom : k_vir nY_Interior_copyFrom := ⟨tt_680, tt_681⟩
set_option maxHeartbeats 4000000 in
set_option maxRecDepth 100000 in
theorem cn_Interior_copyFrom (l : Launch) (D : va_G) (ca : Nat → ClassId) (qa1 qheatBooks qwaterBooks qa0 qheatBooks2 qwaterBooks2 : Nat) (volume_ : Int32) (share_ : Int32) (heat_ : Int64) (water_ : Int64) (volume_2 : Int32) (share_2 : Int32) (heat_2 : Int64) (water_2 : Int64) (R0 : Int32) (R1 : Int32) (R2 : Int64) (R3 : Int64) (hR : fn_Interior_copyFrom volume_ share_ heat_ water_ = some (R0, R1, R2, R3)) (sz : Nat) : Met l nY_Interior_copyFrom (Cond.code nY_Interior_copyFrom nC_Interior_copyFrom 2 none :: TT) rm_Interior_copyFrom (wr_P [.ref qa0, .ref qa1] D ca [oc_Interior qa1 qheatBooks qwaterBooks volume_ share_ heat_ water_, oc_Interior qa0 qheatBooks2 qwaterBooks2 volume_2 share_2 heat_2 water_2] sz) (va_Qv (fun (_ : Unit) => True) (wr_B D [oc_Interior qa1 qheatBooks qwaterBooks volume_ share_ heat_ water_, oc_Interior qa0 qheatBooks2 qwaterBooks2 volume_2 share_2 heat_2 water_2] sz [oc_Interior qa1 qheatBooks qwaterBooks volume_ share_ heat_ water_, oc_Interior qa0 qheatBooks2 qwaterBooks2 R0 R1 R2 R3]) (va_A [oc_Interior qa1 qheatBooks qwaterBooks volume_ share_ heat_ water_, oc_Interior qa0 qheatBooks2 qwaterBooks2 volume_2 share_2 heat_2 water_2] sz)) 0 0 (va_A [oc_Interior qa1 qheatBooks qwaterBooks volume_ share_ heat_ water_, oc_Interior qa0 qheatBooks2 qwaterBooks2 volume_2 share_2 heat_2 water_2] sz) := by
  refine wr_ofV (R := (R0, R1, R2, R3)) (w1 := fun r : Int32 × Int32 × Int64 × Int64 => [oc_Interior qa1 qheatBooks qwaterBooks volume_ share_ heat_ water_, oc_Interior qa0 qheatBooks2 qwaterBooks2 r.1 r.2.1 r.2.2.1 r.2.2.2]) (by decide +kernel) (Nat.le_of_ble_eq_true rfl) ?_
  intro p e s m below meth c Q ar ls hx hb hml hts hown hP hK A hD hA hl hret
  have hS : va_S A s.heap s.heap [] := va_S.rf
  have hown : s.vm.findClass nR_Interior = some m.cls := hown
  have hl : lv_has ls 2 [(0, .ref qa0), (1, .ref qa1)] := hl
  unfold fn_Interior_copyFrom at hR
  refine lv_aload_n hx hb nd_Interior_copyFrom_0 rfl (lv_at hl 0 rfl) ?_
  refine lv_aload_n hx hb nd_Interior_copyFrom_1 rfl (lv_at hl 1 rfl) ?_
  refine va_get (D := D) (ci := 3) (v := .int volume_) (C := nR_Interior) (T := nT_Interior) (N := 6) hx hb hts ni_Interior hown hK hP 0 rfl rfl 2 (by decide) (hts (.fieldLink nR_Interior 18 "RoomClimate$Interior" "volume" "I") tt_62) (fun _ h9 => h9) rfl nd_Interior_copyFrom_2 ?_
  refine va_put (D := D) (ci := 3) (v := .int volume_) (ty := .int) (C := nR_Interior) (T := nT_Interior) (N := 6) hx hb hts ni_Interior nt_Interior nt_Interior_ok nn_Interior hown hK hP hD hS 1 rfl rfl 2 (by decide) (hts (.fieldLink nR_Interior 18 "RoomClimate$Interior" "volume" "I") tt_62) (fun _ h9 => h9) rfl (by decide +kernel) rfl rfl (Nat.le_of_ble_eq_true rfl) nd_Interior_copyFrom_5 (fun H locs hP hD hS => ?_)
  have hP : va_P D vwCl [oc_Interior qa1 qheatBooks qwaterBooks volume_ share_ heat_ water_, oc_Interior qa0 qheatBooks2 qwaterBooks2 volume_ share_2 heat_2 water_2] H := hP
  have hD : va_D A [oc_Interior qa1 qheatBooks qwaterBooks volume_ share_ heat_ water_, oc_Interior qa0 qheatBooks2 qwaterBooks2 volume_ share_2 heat_2 water_2] := hD
  refine lv_aload_n hx hb nd_Interior_copyFrom_8 rfl (lv_at hl 0 rfl) ?_
  refine lv_aload_n hx hb nd_Interior_copyFrom_9 rfl (lv_at hl 1 rfl) ?_
  refine va_get (D := D) (ci := 3) (v := .int share_) (C := nR_Interior) (T := nT_Interior) (N := 6) hx hb hts ni_Interior hown hK hP 0 rfl rfl 3 (by decide) (hts (.fieldLink nR_Interior 22 "RoomClimate$Interior" "share" "I") tt_64) (fun _ h9 => h9) rfl nd_Interior_copyFrom_10 ?_
  refine va_put (D := D) (ci := 3) (v := .int share_) (ty := .int) (C := nR_Interior) (T := nT_Interior) (N := 6) hx hb hts ni_Interior nt_Interior nt_Interior_ok nn_Interior hown hK hP hD hS 1 rfl rfl 3 (by decide) (hts (.fieldLink nR_Interior 22 "RoomClimate$Interior" "share" "I") tt_64) (fun _ h9 => h9) rfl (by decide +kernel) rfl rfl (Nat.le_of_ble_eq_true rfl) nd_Interior_copyFrom_13 (fun H locs hP hD hS => ?_)
  have hP : va_P D vwCl [oc_Interior qa1 qheatBooks qwaterBooks volume_ share_ heat_ water_, oc_Interior qa0 qheatBooks2 qwaterBooks2 volume_ share_ heat_2 water_2] H := hP
  have hD : va_D A [oc_Interior qa1 qheatBooks qwaterBooks volume_ share_ heat_ water_, oc_Interior qa0 qheatBooks2 qwaterBooks2 volume_ share_ heat_2 water_2] := hD
  refine lv_aload_n hx hb nd_Interior_copyFrom_16 rfl (lv_at hl 0 rfl) ?_
  refine lv_aload_n hx hb nd_Interior_copyFrom_17 rfl (lv_at hl 1 rfl) ?_
  refine va_get (D := D) (ci := 3) (v := .long heat_) (C := nR_Interior) (T := nT_Interior) (N := 6) hx hb hts ni_Interior hown hK hP 0 rfl rfl 4 (by decide) (hts (.fieldLink nR_Interior 27 "RoomClimate$Interior" "heat" "J") tt_66) (fun _ h9 => h9) rfl nd_Interior_copyFrom_18 ?_
  refine va_put (D := D) (ci := 3) (v := .long heat_) (ty := .long) (C := nR_Interior) (T := nT_Interior) (N := 6) hx hb hts ni_Interior nt_Interior nt_Interior_ok nn_Interior hown hK hP hD hS 1 rfl rfl 4 (by decide) (hts (.fieldLink nR_Interior 27 "RoomClimate$Interior" "heat" "J") tt_66) (fun _ h9 => h9) rfl (by decide +kernel) rfl rfl (Nat.le_of_ble_eq_true rfl) nd_Interior_copyFrom_21 (fun H locs hP hD hS => ?_)
  have hP : va_P D vwCl [oc_Interior qa1 qheatBooks qwaterBooks volume_ share_ heat_ water_, oc_Interior qa0 qheatBooks2 qwaterBooks2 volume_ share_ heat_ water_2] H := hP
  have hD : va_D A [oc_Interior qa1 qheatBooks qwaterBooks volume_ share_ heat_ water_, oc_Interior qa0 qheatBooks2 qwaterBooks2 volume_ share_ heat_ water_2] := hD
  refine lv_aload_n hx hb nd_Interior_copyFrom_24 rfl (lv_at hl 0 rfl) ?_
  refine lv_aload_n hx hb nd_Interior_copyFrom_25 rfl (lv_at hl 1 rfl) ?_
  refine va_get (D := D) (ci := 3) (v := .long water_) (C := nR_Interior) (T := nT_Interior) (N := 6) hx hb hts ni_Interior hown hK hP 0 rfl rfl 5 (by decide) (hts (.fieldLink nR_Interior 33 "RoomClimate$Interior" "water" "J") tt_68) (fun _ h9 => h9) rfl nd_Interior_copyFrom_26 ?_
  refine va_put (D := D) (ci := 3) (v := .long water_) (ty := .long) (C := nR_Interior) (T := nT_Interior) (N := 6) hx hb hts ni_Interior nt_Interior nt_Interior_ok nn_Interior hown hK hP hD hS 1 rfl rfl 5 (by decide) (hts (.fieldLink nR_Interior 33 "RoomClimate$Interior" "water" "J") tt_68) (fun _ h9 => h9) rfl (by decide +kernel) rfl rfl (Nat.le_of_ble_eq_true rfl) nd_Interior_copyFrom_29 (fun H locs hP hD hS => ?_)
  have hP : va_P D vwCl [oc_Interior qa1 qheatBooks qwaterBooks volume_ share_ heat_ water_, oc_Interior qa0 qheatBooks2 qwaterBooks2 volume_ share_ heat_ water_] H := hP
  have hD : va_D A [oc_Interior qa1 qheatBooks qwaterBooks volume_ share_ heat_ water_, oc_Interior qa0 qheatBooks2 qwaterBooks2 volume_ share_ heat_ water_] := hD
  exact hret (volume_, share_, heat_, water_) _ _ _ _ nd_Interior_copyFrom_32 hR hP hD hS
def rm_Walls_copyFrom : Room := { frames := 0, cells := 0, slots := 0, locals := 0 }
theorem kc_Walls_copyFrom : k_cal nY_Walls_copyFrom nC_Walls_copyFrom 3 none 1 := ⟨tt_686, tt_5, by decide +kernel⟩
theorem kv_Walls_copyFrom : k_vir nY_Walls_copyFrom := ⟨tt_684, tt_685⟩
set_option maxHeartbeats 4000000 in
set_option maxRecDepth 100000 in
theorem cn_Walls_copyFrom (l : Launch) (D : va_G) (ca : Nat → ClassId) (qa1 qconductances qcapacities qheats qa0 qconductances2 qcapacities2 qheats2 : Nat) (layers_ : Int32) (layers_2 : Int32) (conductances_ : Nat → Int32) (conductances_2 : Nat → Int32) (capacities_ : Nat → Int32) (capacities_2 : Nat → Int32) (heats_ : Nat → Int64) (heats_2 : Nat → Int64) (R0 : Int32) (R1 : Nat → Int32) (R2 : Nat → Int32) (R3 : Nat → Int64) (hR : fn_Walls_copyFrom layers_ conductances_ conductances_2 capacities_ capacities_2 heats_ heats_2 = some (R0, R1, R2, R3)) (sz : Nat) : Met l nY_Walls_copyFrom (Cond.code nY_Walls_copyFrom nC_Walls_copyFrom 3 none :: TT) rm_Walls_copyFrom (wr_P [.ref qa0, .ref qa1] D ca [oc_Walls qa1 qconductances qcapacities qheats layers_, oc_Walls qa0 qconductances2 qcapacities2 qheats2 layers_2, aI qconductances ca 5 conductances_, aI qconductances2 ca 5 conductances_2, aI qcapacities ca 5 capacities_, aI qcapacities2 ca 5 capacities_2, aJ qheats ca 5 heats_, aJ qheats2 ca 5 heats_2] sz) (va_Qv (fun (_ : Unit) => True) (wr_B D [oc_Walls qa1 qconductances qcapacities qheats layers_, oc_Walls qa0 qconductances2 qcapacities2 qheats2 layers_2, aI qconductances ca 5 conductances_, aI qconductances2 ca 5 conductances_2, aI qcapacities ca 5 capacities_, aI qcapacities2 ca 5 capacities_2, aJ qheats ca 5 heats_, aJ qheats2 ca 5 heats_2] sz [oc_Walls qa1 qconductances qcapacities qheats layers_, oc_Walls qa0 qconductances2 qcapacities2 qheats2 R0, aI qconductances ca 5 conductances_, aI qconductances2 ca 5 R1, aI qcapacities ca 5 capacities_, aI qcapacities2 ca 5 R2, aJ qheats ca 5 heats_, aJ qheats2 ca 5 R3]) (va_A [oc_Walls qa1 qconductances qcapacities qheats layers_, oc_Walls qa0 qconductances2 qcapacities2 qheats2 layers_2, aI qconductances ca 5 conductances_, aI qconductances2 ca 5 conductances_2, aI qcapacities ca 5 capacities_, aI qcapacities2 ca 5 capacities_2, aJ qheats ca 5 heats_, aJ qheats2 ca 5 heats_2] sz)) 0 0 (va_A [oc_Walls qa1 qconductances qcapacities qheats layers_, oc_Walls qa0 qconductances2 qcapacities2 qheats2 layers_2, aI qconductances ca 5 conductances_, aI qconductances2 ca 5 conductances_2, aI qcapacities ca 5 capacities_, aI qcapacities2 ca 5 capacities_2, aJ qheats ca 5 heats_, aJ qheats2 ca 5 heats_2] sz) := by
  refine wr_ofV (R := (R0, R1, R2, R3)) (w1 := fun r : Int32 × (Nat → Int32) × (Nat → Int32) × (Nat → Int64) => [oc_Walls qa1 qconductances qcapacities qheats layers_, oc_Walls qa0 qconductances2 qcapacities2 qheats2 r.1, aI qconductances ca 5 conductances_, aI qconductances2 ca 5 r.2.1, aI qcapacities ca 5 capacities_, aI qcapacities2 ca 5 r.2.2.1, aJ qheats ca 5 heats_, aJ qheats2 ca 5 r.2.2.2]) (by decide +kernel) (Nat.le_of_ble_eq_true rfl) ?_
  intro p e s m below meth c Q ar ls hx hb hml hts hown hP hK A hD hA hl hret
  have hS : va_S A s.heap s.heap [] := va_S.rf
  have hown : s.vm.findClass nR_Walls = some m.cls := hown
  have hl : lv_has ls 3 [(0, .ref qa0), (1, .ref qa1)] := hl
  unfold fn_Walls_copyFrom at hR
  refine lv_aload_n hx hb nd_Walls_copyFrom_0 rfl (lv_at hl 0 rfl) ?_
  refine lv_aload_n hx hb nd_Walls_copyFrom_1 rfl (lv_at hl 1 rfl) ?_
  refine va_get (D := D) (ci := 7) (v := .int layers_) (C := nR_Walls) (T := nT_Walls) (N := 4) hx hb hts ni_Walls hown hK hP 0 rfl rfl 3 (by decide) (hts (.fieldLink nR_Walls 22 "RoomClimate$Walls" "layers" "I") tt_95) (fun _ h9 => h9) rfl nd_Walls_copyFrom_2 ?_
  refine va_put (D := D) (ci := 7) (v := .int layers_) (ty := .int) (C := nR_Walls) (T := nT_Walls) (N := 4) hx hb hts ni_Walls nt_Walls nt_Walls_ok nn_Walls hown hK hP hD hS 1 rfl rfl 3 (by decide) (hts (.fieldLink nR_Walls 22 "RoomClimate$Walls" "layers" "I") tt_95) (fun _ h9 => h9) rfl (by decide +kernel) rfl rfl (Nat.le_of_ble_eq_true rfl) nd_Walls_copyFrom_5 (fun H locs hP hD hS => ?_)
  have hP : va_P D vwCl [oc_Walls qa1 qconductances qcapacities qheats layers_, oc_Walls qa0 qconductances2 qcapacities2 qheats2 layers_, aI qconductances ca 5 conductances_, aI qconductances2 ca 5 conductances_2, aI qcapacities ca 5 capacities_, aI qcapacities2 ca 5 capacities_2, aJ qheats ca 5 heats_, aJ qheats2 ca 5 heats_2] H := hP
  have hD : va_D A [oc_Walls qa1 qconductances qcapacities qheats layers_, oc_Walls qa0 qconductances2 qcapacities2 qheats2 layers_, aI qconductances ca 5 conductances_, aI qconductances2 ca 5 conductances_2, aI qcapacities ca 5 capacities_, aI qcapacities2 ca 5 capacities_2, aJ qheats ca 5 heats_, aJ qheats2 ca 5 heats_2] := hD
  refine lv_iconst (v := 0) hx hb nd_Walls_copyFrom_8 (by decide) ?_
  refine lv_istore_n (lv' := [(2, .int (0 : Int32)), (0, .ref qa0), (1, .ref qa1)]) hx hb nd_Walls_copyFrom_9 rfl hl (by decide) rfl (fun ls hl => ?_)
  have hL10 : ∀ (n10 : Nat) (i2_10 : Int32) (conductances_2L10 : Nat → Int32) (capacities_2L10 : Nat → Int32) (heats_2L10 : Nat → Int64) (H : Heap) (locs : List Loc) (ls : Array Slot), fn_Walls_copyFrom_L10 layers_ conductances_ capacities_ heats_ n10 i2_10 conductances_2L10 capacities_2L10 heats_2L10 = some (R0, R1, R2, R3) → va_P D vwCl [oc_Walls qa1 qconductances qcapacities qheats layers_, oc_Walls qa0 qconductances2 qcapacities2 qheats2 layers_, aI qconductances ca 5 conductances_, aI qconductances2 ca 5 conductances_2L10, aI qcapacities ca 5 capacities_, aI qcapacities2 ca 5 capacities_2L10, aJ qheats ca 5 heats_, aJ qheats2 ca 5 heats_2L10] H → va_D A [oc_Walls qa1 qconductances qcapacities qheats layers_, oc_Walls qa0 qconductances2 qcapacities2 qheats2 layers_, aI qconductances ca 5 conductances_, aI qconductances2 ca 5 conductances_2L10, aI qcapacities ca 5 capacities_, aI qcapacities2 ca 5 capacities_2L10, aJ qheats ca 5 heats_, aJ qheats2 ca 5 heats_2L10] → va_S A s.heap H locs → lv_has ls 3 [(0, .ref qa0), (1, .ref qa1), (2, .int i2_10)] → W p l e rm_Walls_copyFrom s m ar below meth c H locs 0 0 Q (F0 m 10 ls []) := by
    intro n10
    induction n10 with
    | zero => intro i2_10 conductances_2L10 capacities_2L10 heats_2L10 H locs ls hR; exact nomatch hR
    | succ n10 ih10 =>
      intro i2_10 conductances_2L10 capacities_2L10 heats_2L10 H locs ls hR hP hD hS hl
      rw [fn_Walls_copyFrom_L10] at hR
      refine lv_iload_n hx hb nd_Walls_copyFrom_10 rfl (lv_at hl 2 rfl) ?_
      refine lv_aload_n hx hb nd_Walls_copyFrom_11 rfl (lv_at hl 0 rfl) ?_
      refine va_get (D := D) (ci := 7) (v := .int layers_) (C := nR_Walls) (T := nT_Walls) (N := 4) hx hb hts ni_Walls hown hK hP 1 rfl rfl 3 (by decide) (hts (.fieldLink nR_Walls 22 "RoomClimate$Walls" "layers" "I") tt_95) (fun _ h9 => h9) rfl nd_Walls_copyFrom_12 ?_
      refine lv_icmp_ge (tgt := 60) hx hb nd_Walls_copyFrom_15 (by decide) (fun c1 => ?_) (fun c1 => ?_)
      · replace hR := q_p c1 hR
        exact hret (layers_, conductances_2L10, capacities_2L10, heats_2L10) _ _ _ _ nd_Walls_copyFrom_60 hR hP hD hS
      · replace hR := q_n c1 hR
        refine lv_aload_n hx hb nd_Walls_copyFrom_18 rfl (lv_at hl 0 rfl) ?_
        refine va_get (D := D) (ci := 7) (v := .ref qconductances2) (C := nR_Walls) (T := nT_Walls) (N := 4) hx hb hts ni_Walls hown hK hP 1 rfl rfl 0 (by decide) (hts (.fieldLink nR_Walls 9 "RoomClimate$Walls" "conductances" "[I") tt_92) (fun _ h9 => h9) rfl nd_Walls_copyFrom_19 ?_
        refine lv_iload_n hx hb nd_Walls_copyFrom_22 rfl (lv_at hl 2 rfl) ?_
        refine lv_aload_n hx hb nd_Walls_copyFrom_23 rfl (lv_at hl 1 rfl) ?_
        refine va_get (D := D) (ci := 7) (v := .ref qconductances) (C := nR_Walls) (T := nT_Walls) (N := 4) hx hb hts ni_Walls hown hK hP 0 rfl rfl 0 (by decide) (hts (.fieldLink nR_Walls 9 "RoomClimate$Walls" "conductances" "[I") tt_92) (fun _ h9 => h9) rfl nd_Walls_copyFrom_24 ?_
        refine lv_iload_n hx hb nd_Walls_copyFrom_27 rfl (lv_at hl 2 rfl) ?_
        obtain ⟨h2, hR⟩ := q_ix hR
        refine va_iald hx hb hK hP 2 0 rfl rfl h2 nd_Walls_copyFrom_28 ?_
        refine va_iast hx hb hK hP hD hS 3 0 rfl rfl h2 nd_Walls_copyFrom_29 (fun H locs hP hD hS => ?_)
        have hP : va_P D vwCl [oc_Walls qa1 qconductances qcapacities qheats layers_, oc_Walls qa0 qconductances2 qcapacities2 qheats2 layers_, aI qconductances ca 5 conductances_, aI qconductances2 ca 5 (upd conductances_2L10 i2_10.toNatClampNeg (conductances_ i2_10.toNatClampNeg)), aI qcapacities ca 5 capacities_, aI qcapacities2 ca 5 capacities_2L10, aJ qheats ca 5 heats_, aJ qheats2 ca 5 heats_2L10] H := hP
        have hD : va_D A [oc_Walls qa1 qconductances qcapacities qheats layers_, oc_Walls qa0 qconductances2 qcapacities2 qheats2 layers_, aI qconductances ca 5 conductances_, aI qconductances2 ca 5 (upd conductances_2L10 i2_10.toNatClampNeg (conductances_ i2_10.toNatClampNeg)), aI qcapacities ca 5 capacities_, aI qcapacities2 ca 5 capacities_2L10, aJ qheats ca 5 heats_, aJ qheats2 ca 5 heats_2L10] := hD
        refine lv_aload_n hx hb nd_Walls_copyFrom_30 rfl (lv_at hl 0 rfl) ?_
        refine va_get (D := D) (ci := 7) (v := .ref qcapacities2) (C := nR_Walls) (T := nT_Walls) (N := 4) hx hb hts ni_Walls hown hK hP 1 rfl rfl 1 (by decide) (hts (.fieldLink nR_Walls 15 "RoomClimate$Walls" "capacities" "[I") tt_93) (fun _ h9 => h9) rfl nd_Walls_copyFrom_31 ?_
        refine lv_iload_n hx hb nd_Walls_copyFrom_34 rfl (lv_at hl 2 rfl) ?_
        refine lv_aload_n hx hb nd_Walls_copyFrom_35 rfl (lv_at hl 1 rfl) ?_
        refine va_get (D := D) (ci := 7) (v := .ref qcapacities) (C := nR_Walls) (T := nT_Walls) (N := 4) hx hb hts ni_Walls hown hK hP 0 rfl rfl 1 (by decide) (hts (.fieldLink nR_Walls 15 "RoomClimate$Walls" "capacities" "[I") tt_93) (fun _ h9 => h9) rfl nd_Walls_copyFrom_36 ?_
        refine lv_iload_n hx hb nd_Walls_copyFrom_39 rfl (lv_at hl 2 rfl) ?_
        refine va_iald hx hb hK hP 4 0 rfl rfl h2 nd_Walls_copyFrom_40 ?_
        refine va_iast hx hb hK hP hD hS 5 0 rfl rfl h2 nd_Walls_copyFrom_41 (fun H locs hP hD hS => ?_)
        have hP : va_P D vwCl [oc_Walls qa1 qconductances qcapacities qheats layers_, oc_Walls qa0 qconductances2 qcapacities2 qheats2 layers_, aI qconductances ca 5 conductances_, aI qconductances2 ca 5 (upd conductances_2L10 i2_10.toNatClampNeg (conductances_ i2_10.toNatClampNeg)), aI qcapacities ca 5 capacities_, aI qcapacities2 ca 5 (upd capacities_2L10 i2_10.toNatClampNeg (capacities_ i2_10.toNatClampNeg)), aJ qheats ca 5 heats_, aJ qheats2 ca 5 heats_2L10] H := hP
        have hD : va_D A [oc_Walls qa1 qconductances qcapacities qheats layers_, oc_Walls qa0 qconductances2 qcapacities2 qheats2 layers_, aI qconductances ca 5 conductances_, aI qconductances2 ca 5 (upd conductances_2L10 i2_10.toNatClampNeg (conductances_ i2_10.toNatClampNeg)), aI qcapacities ca 5 capacities_, aI qcapacities2 ca 5 (upd capacities_2L10 i2_10.toNatClampNeg (capacities_ i2_10.toNatClampNeg)), aJ qheats ca 5 heats_, aJ qheats2 ca 5 heats_2L10] := hD
        refine lv_aload_n hx hb nd_Walls_copyFrom_42 rfl (lv_at hl 0 rfl) ?_
        refine va_get (D := D) (ci := 7) (v := .ref qheats2) (C := nR_Walls) (T := nT_Walls) (N := 4) hx hb hts ni_Walls hown hK hP 1 rfl rfl 2 (by decide) (hts (.fieldLink nR_Walls 18 "RoomClimate$Walls" "heats" "[J") tt_94) (fun _ h9 => h9) rfl nd_Walls_copyFrom_43 ?_
        refine lv_iload_n hx hb nd_Walls_copyFrom_46 rfl (lv_at hl 2 rfl) ?_
        refine lv_aload_n hx hb nd_Walls_copyFrom_47 rfl (lv_at hl 1 rfl) ?_
        refine va_get (D := D) (ci := 7) (v := .ref qheats) (C := nR_Walls) (T := nT_Walls) (N := 4) hx hb hts ni_Walls hown hK hP 0 rfl rfl 2 (by decide) (hts (.fieldLink nR_Walls 18 "RoomClimate$Walls" "heats" "[J") tt_94) (fun _ h9 => h9) rfl nd_Walls_copyFrom_48 ?_
        refine lv_iload_n hx hb nd_Walls_copyFrom_51 rfl (lv_at hl 2 rfl) ?_
        refine va_lald hx hb hK hP 6 1 rfl rfl h2 nd_Walls_copyFrom_52 ?_
        refine va_last hx hb hK hP hD hS 7 1 rfl rfl h2 nd_Walls_copyFrom_53 (fun H locs hP hD hS => ?_)
        have hP : va_P D vwCl [oc_Walls qa1 qconductances qcapacities qheats layers_, oc_Walls qa0 qconductances2 qcapacities2 qheats2 layers_, aI qconductances ca 5 conductances_, aI qconductances2 ca 5 (upd conductances_2L10 i2_10.toNatClampNeg (conductances_ i2_10.toNatClampNeg)), aI qcapacities ca 5 capacities_, aI qcapacities2 ca 5 (upd capacities_2L10 i2_10.toNatClampNeg (capacities_ i2_10.toNatClampNeg)), aJ qheats ca 5 heats_, aJ qheats2 ca 5 (vp_updL heats_2L10 i2_10.toNatClampNeg (heats_ i2_10.toNatClampNeg))] H := hP
        have hD : va_D A [oc_Walls qa1 qconductances qcapacities qheats layers_, oc_Walls qa0 qconductances2 qcapacities2 qheats2 layers_, aI qconductances ca 5 conductances_, aI qconductances2 ca 5 (upd conductances_2L10 i2_10.toNatClampNeg (conductances_ i2_10.toNatClampNeg)), aI qcapacities ca 5 capacities_, aI qcapacities2 ca 5 (upd capacities_2L10 i2_10.toNatClampNeg (capacities_ i2_10.toNatClampNeg)), aJ qheats ca 5 heats_, aJ qheats2 ca 5 (vp_updL heats_2L10 i2_10.toNatClampNeg (heats_ i2_10.toNatClampNeg))] := hD
        refine lv_iinc (v := i2_10 + 1) (lv' := [(2, .int (i2_10 + 1)), (0, .ref qa0), (1, .ref qa1)]) hx hb nd_Walls_copyFrom_54 hl (k := 2) rfl (by first | rfl | decide) (by decide) rfl (fun ls hl => ?_)
        refine lv_goto (tgt := 10) hx hb nd_Walls_copyFrom_57 (by decide) ?_
        exact ih10 (i2_10 + 1) (upd conductances_2L10 i2_10.toNatClampNeg (conductances_ i2_10.toNatClampNeg)) (upd capacities_2L10 i2_10.toNatClampNeg (capacities_ i2_10.toNatClampNeg)) (vp_updL heats_2L10 i2_10.toNatClampNeg (heats_ i2_10.toNatClampNeg)) _ _ _ hR hP hD hS (lv_sub hl [1, 2, 0] rfl)
  exact hL10 400 (0 : Int32) conductances_2 capacities_2 heats_2 _ _ _ hR hP hD hS (lv_sub hl [1, 2, 0] rfl)
def rm_Machines_copyFrom : Room := { frames := 0, cells := 0, slots := 0, locals := 0 }
theorem kc_Machines_copyFrom : k_cal nY_Machines_copyFrom nC_Machines_copyFrom 3 none 1 := ⟨tt_694, tt_6, by decide +kernel⟩
theorem kv_Machines_copyFrom : k_vir nY_Machines_copyFrom := ⟨tt_692, tt_693⟩
set_option maxHeartbeats 4000000 in
set_option maxRecDepth 100000 in
theorem cn_Machines_copyFrom (l : Launch) (D : va_G) (ca : Nat → ClassId) (qa0 qlows qhighs qrates qtold qrunning qa1 qlows2 qhighs2 qrates2 qtold2 qrunning2 : Nat) (lows_ : Nat → Int32) (lows_2 : Nat → Int32) (highs_ : Nat → Int32) (highs_2 : Nat → Int32) (rates_ : Nat → Int32) (rates_2 : Nat → Int32) (told_ : Nat → Int32) (told_2 : Nat → Int32) (running_ : Nat → Int32) (running_2 : Nat → Int32) (R0 : Nat → Int32) (R1 : Nat → Int32) (R2 : Nat → Int32) (R3 : Nat → Int32) (R4 : Nat → Int32) (hR : fn_Machines_copyFrom lows_ lows_2 highs_ highs_2 rates_ rates_2 told_ told_2 running_ running_2 = some (R0, R1, R2, R3, R4)) (sz : Nat) : Met l nY_Machines_copyFrom (Cond.code nY_Machines_copyFrom nC_Machines_copyFrom 3 none :: TT) rm_Machines_copyFrom (wr_P [.ref qa0, .ref qa1] D ca [oc_Machines qa0 qlows qhighs qrates qtold qrunning, oc_Machines qa1 qlows2 qhighs2 qrates2 qtold2 qrunning2, aI qlows2 ca 4 lows_, aI qlows ca 4 lows_2, aI qhighs2 ca 4 highs_, aI qhighs ca 4 highs_2, aI qrates2 ca 4 rates_, aI qrates ca 4 rates_2, aZ qtold2 ca 4 told_, aZ qtold ca 4 told_2, aZ qrunning2 ca 4 running_, aZ qrunning ca 4 running_2] sz) (va_Qv (fun (_ : Unit) => True) (wr_B D [oc_Machines qa0 qlows qhighs qrates qtold qrunning, oc_Machines qa1 qlows2 qhighs2 qrates2 qtold2 qrunning2, aI qlows2 ca 4 lows_, aI qlows ca 4 lows_2, aI qhighs2 ca 4 highs_, aI qhighs ca 4 highs_2, aI qrates2 ca 4 rates_, aI qrates ca 4 rates_2, aZ qtold2 ca 4 told_, aZ qtold ca 4 told_2, aZ qrunning2 ca 4 running_, aZ qrunning ca 4 running_2] sz [oc_Machines qa0 qlows qhighs qrates qtold qrunning, oc_Machines qa1 qlows2 qhighs2 qrates2 qtold2 qrunning2, aI qlows2 ca 4 lows_, aI qlows ca 4 R0, aI qhighs2 ca 4 highs_, aI qhighs ca 4 R1, aI qrates2 ca 4 rates_, aI qrates ca 4 R2, aZ qtold2 ca 4 told_, aZ qtold ca 4 R3, aZ qrunning2 ca 4 running_, aZ qrunning ca 4 R4]) (va_A [oc_Machines qa0 qlows qhighs qrates qtold qrunning, oc_Machines qa1 qlows2 qhighs2 qrates2 qtold2 qrunning2, aI qlows2 ca 4 lows_, aI qlows ca 4 lows_2, aI qhighs2 ca 4 highs_, aI qhighs ca 4 highs_2, aI qrates2 ca 4 rates_, aI qrates ca 4 rates_2, aZ qtold2 ca 4 told_, aZ qtold ca 4 told_2, aZ qrunning2 ca 4 running_, aZ qrunning ca 4 running_2] sz)) 0 0 (va_A [oc_Machines qa0 qlows qhighs qrates qtold qrunning, oc_Machines qa1 qlows2 qhighs2 qrates2 qtold2 qrunning2, aI qlows2 ca 4 lows_, aI qlows ca 4 lows_2, aI qhighs2 ca 4 highs_, aI qhighs ca 4 highs_2, aI qrates2 ca 4 rates_, aI qrates ca 4 rates_2, aZ qtold2 ca 4 told_, aZ qtold ca 4 told_2, aZ qrunning2 ca 4 running_, aZ qrunning ca 4 running_2] sz) := by
  refine wr_ofV (R := (R0, R1, R2, R3, R4)) (w1 := fun r : (Nat → Int32) × (Nat → Int32) × (Nat → Int32) × (Nat → Int32) × (Nat → Int32) => [oc_Machines qa0 qlows qhighs qrates qtold qrunning, oc_Machines qa1 qlows2 qhighs2 qrates2 qtold2 qrunning2, aI qlows2 ca 4 lows_, aI qlows ca 4 r.1, aI qhighs2 ca 4 highs_, aI qhighs ca 4 r.2.1, aI qrates2 ca 4 rates_, aI qrates ca 4 r.2.2.1, aZ qtold2 ca 4 told_, aZ qtold ca 4 r.2.2.2.1, aZ qrunning2 ca 4 running_, aZ qrunning ca 4 r.2.2.2.2]) (by decide +kernel) (Nat.le_of_ble_eq_true rfl) ?_
  intro p e s m below meth c Q ar ls hx hb hml hts hown hP hK A hD hA hl hret
  have hS : va_S A s.heap s.heap [] := va_S.rf
  have hown : s.vm.findClass nR_Machines = some m.cls := hown
  have hl : lv_has ls 3 [(0, .ref qa0), (1, .ref qa1)] := hl
  unfold fn_Machines_copyFrom at hR
  refine lv_iconst (v := 0) hx hb nd_Machines_copyFrom_0 (by decide) ?_
  refine lv_istore_n (lv' := [(2, .int (0 : Int32)), (0, .ref qa0), (1, .ref qa1)]) hx hb nd_Machines_copyFrom_1 rfl hl (by decide) rfl (fun ls hl => ?_)
  have hL2 : ∀ (n2 : Nat) (i2_2 : Int32) (lows_2L2 : Nat → Int32) (highs_2L2 : Nat → Int32) (rates_2L2 : Nat → Int32) (told_2L2 : Nat → Int32) (running_2L2 : Nat → Int32) (H : Heap) (locs : List Loc) (ls : Array Slot), fn_Machines_copyFrom_L2 lows_ highs_ rates_ told_ running_ n2 i2_2 lows_2L2 highs_2L2 rates_2L2 told_2L2 running_2L2 = some (R0, R1, R2, R3, R4) → va_P D vwCl [oc_Machines qa0 qlows qhighs qrates qtold qrunning, oc_Machines qa1 qlows2 qhighs2 qrates2 qtold2 qrunning2, aI qlows2 ca 4 lows_, aI qlows ca 4 lows_2L2, aI qhighs2 ca 4 highs_, aI qhighs ca 4 highs_2L2, aI qrates2 ca 4 rates_, aI qrates ca 4 rates_2L2, aZ qtold2 ca 4 told_, aZ qtold ca 4 told_2L2, aZ qrunning2 ca 4 running_, aZ qrunning ca 4 running_2L2] H → va_D A [oc_Machines qa0 qlows qhighs qrates qtold qrunning, oc_Machines qa1 qlows2 qhighs2 qrates2 qtold2 qrunning2, aI qlows2 ca 4 lows_, aI qlows ca 4 lows_2L2, aI qhighs2 ca 4 highs_, aI qhighs ca 4 highs_2L2, aI qrates2 ca 4 rates_, aI qrates ca 4 rates_2L2, aZ qtold2 ca 4 told_, aZ qtold ca 4 told_2L2, aZ qrunning2 ca 4 running_, aZ qrunning ca 4 running_2L2] → va_S A s.heap H locs → lv_has ls 3 [(0, .ref qa0), (1, .ref qa1), (2, .int i2_2)] → W p l e rm_Machines_copyFrom s m ar below meth c H locs 0 0 Q (F0 m 2 ls []) := by
    intro n2
    induction n2 with
    | zero => intro i2_2 lows_2L2 highs_2L2 rates_2L2 told_2L2 running_2L2 H locs ls hR; exact nomatch hR
    | succ n2 ih2 =>
      intro i2_2 lows_2L2 highs_2L2 rates_2L2 told_2L2 running_2L2 H locs ls hR hP hD hS hl
      rw [fn_Machines_copyFrom_L2] at hR
      refine lv_iload_n hx hb nd_Machines_copyFrom_2 rfl (lv_at hl 2 rfl) ?_
      refine lv_iconst (v := 4) hx hb nd_Machines_copyFrom_3 (by decide) ?_
      refine lv_icmp_ge (tgt := 73) hx hb nd_Machines_copyFrom_4 (by decide) (fun c1 => ?_) (fun c1 => ?_)
      · replace hR := q_p c1 hR
        exact hret (lows_2L2, highs_2L2, rates_2L2, told_2L2, running_2L2) _ _ _ _ nd_Machines_copyFrom_73 hR hP hD hS
      · replace hR := q_n c1 hR
        refine lv_aload_n hx hb nd_Machines_copyFrom_7 rfl (lv_at hl 0 rfl) ?_
        refine va_get (D := D) (ci := 4) (v := .ref qlows) (C := nR_Machines) (T := nT_Machines) (N := 5) hx hb hts ni_Machines hown hK hP 0 rfl rfl 0 (by decide) (hts (.fieldLink nR_Machines 9 "RoomClimate$Machines" "lows" "[I") tt_112) (fun _ h9 => h9) rfl nd_Machines_copyFrom_8 ?_
        refine lv_iload_n hx hb nd_Machines_copyFrom_11 rfl (lv_at hl 2 rfl) ?_
        refine lv_aload_n hx hb nd_Machines_copyFrom_12 rfl (lv_at hl 1 rfl) ?_
        refine va_get (D := D) (ci := 4) (v := .ref qlows2) (C := nR_Machines) (T := nT_Machines) (N := 5) hx hb hts ni_Machines hown hK hP 1 rfl rfl 0 (by decide) (hts (.fieldLink nR_Machines 9 "RoomClimate$Machines" "lows" "[I") tt_112) (fun _ h9 => h9) rfl nd_Machines_copyFrom_13 ?_
        refine lv_iload_n hx hb nd_Machines_copyFrom_16 rfl (lv_at hl 2 rfl) ?_
        obtain ⟨h2, hR⟩ := q_ix hR
        refine va_iald hx hb hK hP 2 0 rfl rfl h2 nd_Machines_copyFrom_17 ?_
        refine va_iast hx hb hK hP hD hS 3 0 rfl rfl h2 nd_Machines_copyFrom_18 (fun H locs hP hD hS => ?_)
        have hP : va_P D vwCl [oc_Machines qa0 qlows qhighs qrates qtold qrunning, oc_Machines qa1 qlows2 qhighs2 qrates2 qtold2 qrunning2, aI qlows2 ca 4 lows_, aI qlows ca 4 (upd lows_2L2 i2_2.toNatClampNeg (lows_ i2_2.toNatClampNeg)), aI qhighs2 ca 4 highs_, aI qhighs ca 4 highs_2L2, aI qrates2 ca 4 rates_, aI qrates ca 4 rates_2L2, aZ qtold2 ca 4 told_, aZ qtold ca 4 told_2L2, aZ qrunning2 ca 4 running_, aZ qrunning ca 4 running_2L2] H := hP
        have hD : va_D A [oc_Machines qa0 qlows qhighs qrates qtold qrunning, oc_Machines qa1 qlows2 qhighs2 qrates2 qtold2 qrunning2, aI qlows2 ca 4 lows_, aI qlows ca 4 (upd lows_2L2 i2_2.toNatClampNeg (lows_ i2_2.toNatClampNeg)), aI qhighs2 ca 4 highs_, aI qhighs ca 4 highs_2L2, aI qrates2 ca 4 rates_, aI qrates ca 4 rates_2L2, aZ qtold2 ca 4 told_, aZ qtold ca 4 told_2L2, aZ qrunning2 ca 4 running_, aZ qrunning ca 4 running_2L2] := hD
        refine lv_aload_n hx hb nd_Machines_copyFrom_19 rfl (lv_at hl 0 rfl) ?_
        refine va_get (D := D) (ci := 4) (v := .ref qhighs) (C := nR_Machines) (T := nT_Machines) (N := 5) hx hb hts ni_Machines hown hK hP 0 rfl rfl 1 (by decide) (hts (.fieldLink nR_Machines 15 "RoomClimate$Machines" "highs" "[I") tt_113) (fun _ h9 => h9) rfl nd_Machines_copyFrom_20 ?_
        refine lv_iload_n hx hb nd_Machines_copyFrom_23 rfl (lv_at hl 2 rfl) ?_
        refine lv_aload_n hx hb nd_Machines_copyFrom_24 rfl (lv_at hl 1 rfl) ?_
        refine va_get (D := D) (ci := 4) (v := .ref qhighs2) (C := nR_Machines) (T := nT_Machines) (N := 5) hx hb hts ni_Machines hown hK hP 1 rfl rfl 1 (by decide) (hts (.fieldLink nR_Machines 15 "RoomClimate$Machines" "highs" "[I") tt_113) (fun _ h9 => h9) rfl nd_Machines_copyFrom_25 ?_
        refine lv_iload_n hx hb nd_Machines_copyFrom_28 rfl (lv_at hl 2 rfl) ?_
        refine va_iald hx hb hK hP 4 0 rfl rfl h2 nd_Machines_copyFrom_29 ?_
        refine va_iast hx hb hK hP hD hS 5 0 rfl rfl h2 nd_Machines_copyFrom_30 (fun H locs hP hD hS => ?_)
        have hP : va_P D vwCl [oc_Machines qa0 qlows qhighs qrates qtold qrunning, oc_Machines qa1 qlows2 qhighs2 qrates2 qtold2 qrunning2, aI qlows2 ca 4 lows_, aI qlows ca 4 (upd lows_2L2 i2_2.toNatClampNeg (lows_ i2_2.toNatClampNeg)), aI qhighs2 ca 4 highs_, aI qhighs ca 4 (upd highs_2L2 i2_2.toNatClampNeg (highs_ i2_2.toNatClampNeg)), aI qrates2 ca 4 rates_, aI qrates ca 4 rates_2L2, aZ qtold2 ca 4 told_, aZ qtold ca 4 told_2L2, aZ qrunning2 ca 4 running_, aZ qrunning ca 4 running_2L2] H := hP
        have hD : va_D A [oc_Machines qa0 qlows qhighs qrates qtold qrunning, oc_Machines qa1 qlows2 qhighs2 qrates2 qtold2 qrunning2, aI qlows2 ca 4 lows_, aI qlows ca 4 (upd lows_2L2 i2_2.toNatClampNeg (lows_ i2_2.toNatClampNeg)), aI qhighs2 ca 4 highs_, aI qhighs ca 4 (upd highs_2L2 i2_2.toNatClampNeg (highs_ i2_2.toNatClampNeg)), aI qrates2 ca 4 rates_, aI qrates ca 4 rates_2L2, aZ qtold2 ca 4 told_, aZ qtold ca 4 told_2L2, aZ qrunning2 ca 4 running_, aZ qrunning ca 4 running_2L2] := hD
        refine lv_aload_n hx hb nd_Machines_copyFrom_31 rfl (lv_at hl 0 rfl) ?_
        refine va_get (D := D) (ci := 4) (v := .ref qrates) (C := nR_Machines) (T := nT_Machines) (N := 5) hx hb hts ni_Machines hown hK hP 0 rfl rfl 2 (by decide) (hts (.fieldLink nR_Machines 18 "RoomClimate$Machines" "rates" "[I") tt_114) (fun _ h9 => h9) rfl nd_Machines_copyFrom_32 ?_
        refine lv_iload_n hx hb nd_Machines_copyFrom_35 rfl (lv_at hl 2 rfl) ?_
        refine lv_aload_n hx hb nd_Machines_copyFrom_36 rfl (lv_at hl 1 rfl) ?_
        refine va_get (D := D) (ci := 4) (v := .ref qrates2) (C := nR_Machines) (T := nT_Machines) (N := 5) hx hb hts ni_Machines hown hK hP 1 rfl rfl 2 (by decide) (hts (.fieldLink nR_Machines 18 "RoomClimate$Machines" "rates" "[I") tt_114) (fun _ h9 => h9) rfl nd_Machines_copyFrom_37 ?_
        refine lv_iload_n hx hb nd_Machines_copyFrom_40 rfl (lv_at hl 2 rfl) ?_
        refine va_iald hx hb hK hP 6 0 rfl rfl h2 nd_Machines_copyFrom_41 ?_
        refine va_iast hx hb hK hP hD hS 7 0 rfl rfl h2 nd_Machines_copyFrom_42 (fun H locs hP hD hS => ?_)
        have hP : va_P D vwCl [oc_Machines qa0 qlows qhighs qrates qtold qrunning, oc_Machines qa1 qlows2 qhighs2 qrates2 qtold2 qrunning2, aI qlows2 ca 4 lows_, aI qlows ca 4 (upd lows_2L2 i2_2.toNatClampNeg (lows_ i2_2.toNatClampNeg)), aI qhighs2 ca 4 highs_, aI qhighs ca 4 (upd highs_2L2 i2_2.toNatClampNeg (highs_ i2_2.toNatClampNeg)), aI qrates2 ca 4 rates_, aI qrates ca 4 (upd rates_2L2 i2_2.toNatClampNeg (rates_ i2_2.toNatClampNeg)), aZ qtold2 ca 4 told_, aZ qtold ca 4 told_2L2, aZ qrunning2 ca 4 running_, aZ qrunning ca 4 running_2L2] H := hP
        have hD : va_D A [oc_Machines qa0 qlows qhighs qrates qtold qrunning, oc_Machines qa1 qlows2 qhighs2 qrates2 qtold2 qrunning2, aI qlows2 ca 4 lows_, aI qlows ca 4 (upd lows_2L2 i2_2.toNatClampNeg (lows_ i2_2.toNatClampNeg)), aI qhighs2 ca 4 highs_, aI qhighs ca 4 (upd highs_2L2 i2_2.toNatClampNeg (highs_ i2_2.toNatClampNeg)), aI qrates2 ca 4 rates_, aI qrates ca 4 (upd rates_2L2 i2_2.toNatClampNeg (rates_ i2_2.toNatClampNeg)), aZ qtold2 ca 4 told_, aZ qtold ca 4 told_2L2, aZ qrunning2 ca 4 running_, aZ qrunning ca 4 running_2L2] := hD
        refine lv_aload_n hx hb nd_Machines_copyFrom_43 rfl (lv_at hl 0 rfl) ?_
        refine va_get (D := D) (ci := 4) (v := .ref qtold) (C := nR_Machines) (T := nT_Machines) (N := 5) hx hb hts ni_Machines hown hK hP 0 rfl rfl 3 (by decide) (hts (.fieldLink nR_Machines 21 "RoomClimate$Machines" "told" "[Z") tt_115) (fun _ h9 => h9) rfl nd_Machines_copyFrom_44 ?_
        refine lv_iload_n hx hb nd_Machines_copyFrom_47 rfl (lv_at hl 2 rfl) ?_
        refine lv_aload_n hx hb nd_Machines_copyFrom_48 rfl (lv_at hl 1 rfl) ?_
        refine va_get (D := D) (ci := 4) (v := .ref qtold2) (C := nR_Machines) (T := nT_Machines) (N := 5) hx hb hts ni_Machines hown hK hP 1 rfl rfl 3 (by decide) (hts (.fieldLink nR_Machines 21 "RoomClimate$Machines" "told" "[Z") tt_115) (fun _ h9 => h9) rfl nd_Machines_copyFrom_49 ?_
        refine lv_iload_n hx hb nd_Machines_copyFrom_52 rfl (lv_at hl 2 rfl) ?_
        refine va_zald hx hb hK hP 8 2 rfl rfl h2 nd_Machines_copyFrom_53 ?_
        refine va_zast hx hb hK hP hD hS 9 2 rfl rfl h2 nd_Machines_copyFrom_54 (fun H locs hP hD hS => ?_)
        have hP : va_P D vwCl [oc_Machines qa0 qlows qhighs qrates qtold qrunning, oc_Machines qa1 qlows2 qhighs2 qrates2 qtold2 qrunning2, aI qlows2 ca 4 lows_, aI qlows ca 4 (upd lows_2L2 i2_2.toNatClampNeg (lows_ i2_2.toNatClampNeg)), aI qhighs2 ca 4 highs_, aI qhighs ca 4 (upd highs_2L2 i2_2.toNatClampNeg (highs_ i2_2.toNatClampNeg)), aI qrates2 ca 4 rates_, aI qrates ca 4 (upd rates_2L2 i2_2.toNatClampNeg (rates_ i2_2.toNatClampNeg)), aZ qtold2 ca 4 told_, aZ qtold ca 4 (upd told_2L2 i2_2.toNatClampNeg (vp_nar .boolean (told_ i2_2.toNatClampNeg))), aZ qrunning2 ca 4 running_, aZ qrunning ca 4 running_2L2] H := hP
        have hD : va_D A [oc_Machines qa0 qlows qhighs qrates qtold qrunning, oc_Machines qa1 qlows2 qhighs2 qrates2 qtold2 qrunning2, aI qlows2 ca 4 lows_, aI qlows ca 4 (upd lows_2L2 i2_2.toNatClampNeg (lows_ i2_2.toNatClampNeg)), aI qhighs2 ca 4 highs_, aI qhighs ca 4 (upd highs_2L2 i2_2.toNatClampNeg (highs_ i2_2.toNatClampNeg)), aI qrates2 ca 4 rates_, aI qrates ca 4 (upd rates_2L2 i2_2.toNatClampNeg (rates_ i2_2.toNatClampNeg)), aZ qtold2 ca 4 told_, aZ qtold ca 4 (upd told_2L2 i2_2.toNatClampNeg (vp_nar .boolean (told_ i2_2.toNatClampNeg))), aZ qrunning2 ca 4 running_, aZ qrunning ca 4 running_2L2] := hD
        refine lv_aload_n hx hb nd_Machines_copyFrom_55 rfl (lv_at hl 0 rfl) ?_
        refine va_get (D := D) (ci := 4) (v := .ref qrunning) (C := nR_Machines) (T := nT_Machines) (N := 5) hx hb hts ni_Machines hown hK hP 0 rfl rfl 4 (by decide) (hts (.fieldLink nR_Machines 25 "RoomClimate$Machines" "running" "[Z") tt_116) (fun _ h9 => h9) rfl nd_Machines_copyFrom_56 ?_
        refine lv_iload_n hx hb nd_Machines_copyFrom_59 rfl (lv_at hl 2 rfl) ?_
        refine lv_aload_n hx hb nd_Machines_copyFrom_60 rfl (lv_at hl 1 rfl) ?_
        refine va_get (D := D) (ci := 4) (v := .ref qrunning2) (C := nR_Machines) (T := nT_Machines) (N := 5) hx hb hts ni_Machines hown hK hP 1 rfl rfl 4 (by decide) (hts (.fieldLink nR_Machines 25 "RoomClimate$Machines" "running" "[Z") tt_116) (fun _ h9 => h9) rfl nd_Machines_copyFrom_61 ?_
        refine lv_iload_n hx hb nd_Machines_copyFrom_64 rfl (lv_at hl 2 rfl) ?_
        refine va_zald hx hb hK hP 10 2 rfl rfl h2 nd_Machines_copyFrom_65 ?_
        refine va_zast hx hb hK hP hD hS 11 2 rfl rfl h2 nd_Machines_copyFrom_66 (fun H locs hP hD hS => ?_)
        have hP : va_P D vwCl [oc_Machines qa0 qlows qhighs qrates qtold qrunning, oc_Machines qa1 qlows2 qhighs2 qrates2 qtold2 qrunning2, aI qlows2 ca 4 lows_, aI qlows ca 4 (upd lows_2L2 i2_2.toNatClampNeg (lows_ i2_2.toNatClampNeg)), aI qhighs2 ca 4 highs_, aI qhighs ca 4 (upd highs_2L2 i2_2.toNatClampNeg (highs_ i2_2.toNatClampNeg)), aI qrates2 ca 4 rates_, aI qrates ca 4 (upd rates_2L2 i2_2.toNatClampNeg (rates_ i2_2.toNatClampNeg)), aZ qtold2 ca 4 told_, aZ qtold ca 4 (upd told_2L2 i2_2.toNatClampNeg (vp_nar .boolean (told_ i2_2.toNatClampNeg))), aZ qrunning2 ca 4 running_, aZ qrunning ca 4 (upd running_2L2 i2_2.toNatClampNeg (vp_nar .boolean (running_ i2_2.toNatClampNeg)))] H := hP
        have hD : va_D A [oc_Machines qa0 qlows qhighs qrates qtold qrunning, oc_Machines qa1 qlows2 qhighs2 qrates2 qtold2 qrunning2, aI qlows2 ca 4 lows_, aI qlows ca 4 (upd lows_2L2 i2_2.toNatClampNeg (lows_ i2_2.toNatClampNeg)), aI qhighs2 ca 4 highs_, aI qhighs ca 4 (upd highs_2L2 i2_2.toNatClampNeg (highs_ i2_2.toNatClampNeg)), aI qrates2 ca 4 rates_, aI qrates ca 4 (upd rates_2L2 i2_2.toNatClampNeg (rates_ i2_2.toNatClampNeg)), aZ qtold2 ca 4 told_, aZ qtold ca 4 (upd told_2L2 i2_2.toNatClampNeg (vp_nar .boolean (told_ i2_2.toNatClampNeg))), aZ qrunning2 ca 4 running_, aZ qrunning ca 4 (upd running_2L2 i2_2.toNatClampNeg (vp_nar .boolean (running_ i2_2.toNatClampNeg)))] := hD
        refine lv_iinc (v := i2_2 + 1) (lv' := [(2, .int (i2_2 + 1)), (0, .ref qa0), (1, .ref qa1)]) hx hb nd_Machines_copyFrom_67 hl (k := 2) rfl (by first | rfl | decide) (by decide) rfl (fun ls hl => ?_)
        refine lv_goto (tgt := 2) hx hb nd_Machines_copyFrom_70 (by decide) ?_
        exact ih2 (i2_2 + 1) (upd lows_2L2 i2_2.toNatClampNeg (lows_ i2_2.toNatClampNeg)) (upd highs_2L2 i2_2.toNatClampNeg (highs_ i2_2.toNatClampNeg)) (upd rates_2L2 i2_2.toNatClampNeg (rates_ i2_2.toNatClampNeg)) (upd told_2L2 i2_2.toNatClampNeg (vp_nar .boolean (told_ i2_2.toNatClampNeg))) (upd running_2L2 i2_2.toNatClampNeg (vp_nar .boolean (running_ i2_2.toNatClampNeg))) _ _ _ hR hP hD hS (lv_sub hl [1, 2, 0] rfl)
  exact hL2 400 (0 : Int32) lows_2 highs_2 rates_2 told_2 running_2 _ _ _ hR hP hD hS (lv_sub hl [1, 2, 0] rfl)
def rm_House_copyFrom : Room := { frames := 1, cells := 0, slots := 0, locals := 22 }
theorem kc_House_copyFrom : k_cal nY_House_copyFrom nC_House_copyFrom 2 none 1 := ⟨tt_678, tt_3, by decide +kernel⟩
theorem kv_House_copyFrom : k_vir nY_House_copyFrom := ⟨tt_676, tt_677⟩
set_option maxHeartbeats 4000000 in
set_option maxRecDepth 100000 in
theorem cn_House_copyFrom (l : Launch) (D : va_G) (ca : Nat → ClassId) (qa0 qinside qwalls qgoods qmachines qa1 qinside2 qwalls2 qgoods2 qmachines2 qheatBooks qwaterBooks qheatBooks2 qwaterBooks2 qconductances qcapacities qheats qconductances2 qcapacities2 qheats2 qrows qrows2 qlows qhighs qrates qtold qrunning qlows2 qhighs2 qrates2 qtold2 qrunning2 : Nat) (volume_ : Int32) (share_ : Int32) (heat_ : Int64) (water_ : Int64) (volume_2 : Int32) (share_2 : Int32) (heat_2 : Int64) (water_2 : Int64) (layers_ : Int32) (layers_2 : Int32) (conductances_ : Nat → Int32) (conductances_2 : Nat → Int32) (capacities_ : Nat → Int32) (capacities_2 : Nat → Int32) (heats_ : Nat → Int64) (heats_2 : Nat → Int64) (kilograms_ : Int32) (load_ : Int64) (kilograms_2 : Int32) (load_2 : Int64) (lows_ : Nat → Int32) (lows_2 : Nat → Int32) (highs_ : Nat → Int32) (highs_2 : Nat → Int32) (rates_ : Nat → Int32) (rates_2 : Nat → Int32) (told_ : Nat → Int32) (told_2 : Nat → Int32) (running_ : Nat → Int32) (running_2 : Nat → Int32) (R0 : Int32) (R1 : Int32) (R2 : Int64) (R3 : Int64) (R4 : Int32) (R5 : Nat → Int32) (R6 : Nat → Int32) (R7 : Nat → Int64) (R8 : Int32) (R9 : Int64) (R10 : Nat → Int32) (R11 : Nat → Int32) (R12 : Nat → Int32) (R13 : Nat → Int32) (R14 : Nat → Int32) (hR : fn_House_copyFrom volume_ share_ heat_ water_ layers_ conductances_ conductances_2 capacities_ capacities_2 heats_ heats_2 kilograms_ load_ lows_ lows_2 highs_ highs_2 rates_ rates_2 told_ told_2 running_ running_2 = some (R0, R1, R2, R3, R4, R5, R6, R7, R8, R9, R10, R11, R12, R13, R14)) (sz : Nat) : Met l nY_House_copyFrom (Cond.code nY_House_copyFrom nC_House_copyFrom 2 none :: TT) rm_House_copyFrom (wr_P [.ref qa0, .ref qa1] D ca [oc_House qa0 qinside qwalls qgoods qmachines, oc_House qa1 qinside2 qwalls2 qgoods2 qmachines2, oc_Interior qinside2 qheatBooks qwaterBooks volume_ share_ heat_ water_, oc_Interior qinside qheatBooks2 qwaterBooks2 volume_2 share_2 heat_2 water_2, oc_Walls qwalls2 qconductances qcapacities qheats layers_, oc_Walls qwalls qconductances2 qcapacities2 qheats2 layers_2, aI qconductances ca 5 conductances_, aI qconductances2 ca 5 conductances_2, aI qcapacities ca 5 capacities_, aI qcapacities2 ca 5 capacities_2, aJ qheats ca 5 heats_, aJ qheats2 ca 5 heats_2, oc_Goods qgoods2 qrows kilograms_ load_, oc_Goods qgoods qrows2 kilograms_2 load_2, oc_Machines qmachines qlows qhighs qrates qtold qrunning, oc_Machines qmachines2 qlows2 qhighs2 qrates2 qtold2 qrunning2, aI qlows2 ca 4 lows_, aI qlows ca 4 lows_2, aI qhighs2 ca 4 highs_, aI qhighs ca 4 highs_2, aI qrates2 ca 4 rates_, aI qrates ca 4 rates_2, aZ qtold2 ca 4 told_, aZ qtold ca 4 told_2, aZ qrunning2 ca 4 running_, aZ qrunning ca 4 running_2] sz) (va_Qv (fun (_ : Unit) => True) (wr_B D [oc_House qa0 qinside qwalls qgoods qmachines, oc_House qa1 qinside2 qwalls2 qgoods2 qmachines2, oc_Interior qinside2 qheatBooks qwaterBooks volume_ share_ heat_ water_, oc_Interior qinside qheatBooks2 qwaterBooks2 volume_2 share_2 heat_2 water_2, oc_Walls qwalls2 qconductances qcapacities qheats layers_, oc_Walls qwalls qconductances2 qcapacities2 qheats2 layers_2, aI qconductances ca 5 conductances_, aI qconductances2 ca 5 conductances_2, aI qcapacities ca 5 capacities_, aI qcapacities2 ca 5 capacities_2, aJ qheats ca 5 heats_, aJ qheats2 ca 5 heats_2, oc_Goods qgoods2 qrows kilograms_ load_, oc_Goods qgoods qrows2 kilograms_2 load_2, oc_Machines qmachines qlows qhighs qrates qtold qrunning, oc_Machines qmachines2 qlows2 qhighs2 qrates2 qtold2 qrunning2, aI qlows2 ca 4 lows_, aI qlows ca 4 lows_2, aI qhighs2 ca 4 highs_, aI qhighs ca 4 highs_2, aI qrates2 ca 4 rates_, aI qrates ca 4 rates_2, aZ qtold2 ca 4 told_, aZ qtold ca 4 told_2, aZ qrunning2 ca 4 running_, aZ qrunning ca 4 running_2] sz [oc_House qa0 qinside qwalls qgoods qmachines, oc_House qa1 qinside2 qwalls2 qgoods2 qmachines2, oc_Interior qinside2 qheatBooks qwaterBooks volume_ share_ heat_ water_, oc_Interior qinside qheatBooks2 qwaterBooks2 R0 R1 R2 R3, oc_Walls qwalls2 qconductances qcapacities qheats layers_, oc_Walls qwalls qconductances2 qcapacities2 qheats2 R4, aI qconductances ca 5 conductances_, aI qconductances2 ca 5 R5, aI qcapacities ca 5 capacities_, aI qcapacities2 ca 5 R6, aJ qheats ca 5 heats_, aJ qheats2 ca 5 R7, oc_Goods qgoods2 qrows kilograms_ load_, oc_Goods qgoods qrows2 R8 R9, oc_Machines qmachines qlows qhighs qrates qtold qrunning, oc_Machines qmachines2 qlows2 qhighs2 qrates2 qtold2 qrunning2, aI qlows2 ca 4 lows_, aI qlows ca 4 R10, aI qhighs2 ca 4 highs_, aI qhighs ca 4 R11, aI qrates2 ca 4 rates_, aI qrates ca 4 R12, aZ qtold2 ca 4 told_, aZ qtold ca 4 R13, aZ qrunning2 ca 4 running_, aZ qrunning ca 4 R14]) (va_A [oc_House qa0 qinside qwalls qgoods qmachines, oc_House qa1 qinside2 qwalls2 qgoods2 qmachines2, oc_Interior qinside2 qheatBooks qwaterBooks volume_ share_ heat_ water_, oc_Interior qinside qheatBooks2 qwaterBooks2 volume_2 share_2 heat_2 water_2, oc_Walls qwalls2 qconductances qcapacities qheats layers_, oc_Walls qwalls qconductances2 qcapacities2 qheats2 layers_2, aI qconductances ca 5 conductances_, aI qconductances2 ca 5 conductances_2, aI qcapacities ca 5 capacities_, aI qcapacities2 ca 5 capacities_2, aJ qheats ca 5 heats_, aJ qheats2 ca 5 heats_2, oc_Goods qgoods2 qrows kilograms_ load_, oc_Goods qgoods qrows2 kilograms_2 load_2, oc_Machines qmachines qlows qhighs qrates qtold qrunning, oc_Machines qmachines2 qlows2 qhighs2 qrates2 qtold2 qrunning2, aI qlows2 ca 4 lows_, aI qlows ca 4 lows_2, aI qhighs2 ca 4 highs_, aI qhighs ca 4 highs_2, aI qrates2 ca 4 rates_, aI qrates ca 4 rates_2, aZ qtold2 ca 4 told_, aZ qtold ca 4 told_2, aZ qrunning2 ca 4 running_, aZ qrunning ca 4 running_2] sz)) 0 0 (va_A [oc_House qa0 qinside qwalls qgoods qmachines, oc_House qa1 qinside2 qwalls2 qgoods2 qmachines2, oc_Interior qinside2 qheatBooks qwaterBooks volume_ share_ heat_ water_, oc_Interior qinside qheatBooks2 qwaterBooks2 volume_2 share_2 heat_2 water_2, oc_Walls qwalls2 qconductances qcapacities qheats layers_, oc_Walls qwalls qconductances2 qcapacities2 qheats2 layers_2, aI qconductances ca 5 conductances_, aI qconductances2 ca 5 conductances_2, aI qcapacities ca 5 capacities_, aI qcapacities2 ca 5 capacities_2, aJ qheats ca 5 heats_, aJ qheats2 ca 5 heats_2, oc_Goods qgoods2 qrows kilograms_ load_, oc_Goods qgoods qrows2 kilograms_2 load_2, oc_Machines qmachines qlows qhighs qrates qtold qrunning, oc_Machines qmachines2 qlows2 qhighs2 qrates2 qtold2 qrunning2, aI qlows2 ca 4 lows_, aI qlows ca 4 lows_2, aI qhighs2 ca 4 highs_, aI qhighs ca 4 highs_2, aI qrates2 ca 4 rates_, aI qrates ca 4 rates_2, aZ qtold2 ca 4 told_, aZ qtold ca 4 told_2, aZ qrunning2 ca 4 running_, aZ qrunning ca 4 running_2] sz) := by
  refine wr_ofV (R := (R0, R1, R2, R3, R4, R5, R6, R7, R8, R9, R10, R11, R12, R13, R14)) (w1 := fun r : Int32 × Int32 × Int64 × Int64 × Int32 × (Nat → Int32) × (Nat → Int32) × (Nat → Int64) × Int32 × Int64 × (Nat → Int32) × (Nat → Int32) × (Nat → Int32) × (Nat → Int32) × (Nat → Int32) => [oc_House qa0 qinside qwalls qgoods qmachines, oc_House qa1 qinside2 qwalls2 qgoods2 qmachines2, oc_Interior qinside2 qheatBooks qwaterBooks volume_ share_ heat_ water_, oc_Interior qinside qheatBooks2 qwaterBooks2 r.1 r.2.1 r.2.2.1 r.2.2.2.1, oc_Walls qwalls2 qconductances qcapacities qheats layers_, oc_Walls qwalls qconductances2 qcapacities2 qheats2 r.2.2.2.2.1, aI qconductances ca 5 conductances_, aI qconductances2 ca 5 r.2.2.2.2.2.1, aI qcapacities ca 5 capacities_, aI qcapacities2 ca 5 r.2.2.2.2.2.2.1, aJ qheats ca 5 heats_, aJ qheats2 ca 5 r.2.2.2.2.2.2.2.1, oc_Goods qgoods2 qrows kilograms_ load_, oc_Goods qgoods qrows2 r.2.2.2.2.2.2.2.2.1 r.2.2.2.2.2.2.2.2.2.1, oc_Machines qmachines qlows qhighs qrates qtold qrunning, oc_Machines qmachines2 qlows2 qhighs2 qrates2 qtold2 qrunning2, aI qlows2 ca 4 lows_, aI qlows ca 4 r.2.2.2.2.2.2.2.2.2.2.1, aI qhighs2 ca 4 highs_, aI qhighs ca 4 r.2.2.2.2.2.2.2.2.2.2.2.1, aI qrates2 ca 4 rates_, aI qrates ca 4 r.2.2.2.2.2.2.2.2.2.2.2.2.1, aZ qtold2 ca 4 told_, aZ qtold ca 4 r.2.2.2.2.2.2.2.2.2.2.2.2.2.1, aZ qrunning2 ca 4 running_, aZ qrunning ca 4 r.2.2.2.2.2.2.2.2.2.2.2.2.2.2]) (by decide +kernel) (Nat.le_of_ble_eq_true rfl) ?_
  intro p e s m below meth c Q ar ls hx hb hml hts hown hP hK A hD hA hl hret
  have hS : va_S A s.heap s.heap [] := va_S.rf
  have hown : s.vm.findClass nR_House = some m.cls := hown
  have hl : lv_has ls 2 [(0, .ref qa0), (1, .ref qa1)] := hl
  unfold fn_House_copyFrom at hR
  refine lv_aload_n hx hb nd_House_copyFrom_0 rfl (lv_at hl 0 rfl) ?_
  refine va_get (D := D) (ci := 2) (v := .ref qinside) (C := nR_House) (T := nT_House) (N := 4) hx hb hts ni_House hown hK hP 0 rfl rfl 0 (by decide) (hts (.fieldLink nR_House 10 "RoomClimate$House" "inside" "LRoomClimate$Interior;") tt_149) (fun _ h9 => h9) rfl nd_House_copyFrom_1 ?_
  refine lv_aload_n hx hb nd_House_copyFrom_4 rfl (lv_at hl 1 rfl) ?_
  refine va_get (D := D) (ci := 2) (v := .ref qinside2) (C := nR_House) (T := nT_House) (N := 4) hx hb hts ni_House hown hK hP 1 rfl rfl 0 (by decide) (hts (.fieldLink nR_House 10 "RoomClimate$House" "inside" "LRoomClimate$Interior;") tt_149) (fun _ h9 => h9) rfl nd_House_copyFrom_5 ?_
  obtain ⟨u1_0, u1_1, u1_2, u1_3, e1, hR⟩ := q_b4 hR
  refine k_wVV (wr := [oc_House qa0 qinside qwalls qgoods qmachines, oc_House qa1 qinside2 qwalls2 qgoods2 qmachines2, oc_Walls qwalls2 qconductances qcapacities qheats layers_, oc_Walls qwalls qconductances2 qcapacities2 qheats2 layers_2, aI qconductances ca 5 conductances_, aI qconductances2 ca 5 conductances_2, aI qcapacities ca 5 capacities_, aI qcapacities2 ca 5 capacities_2, aJ qheats ca 5 heats_, aJ qheats2 ca 5 heats_2, oc_Goods qgoods2 qrows kilograms_ load_, oc_Goods qgoods qrows2 kilograms_2 load_2, oc_Machines qmachines qlows qhighs qrates qtold qrunning, oc_Machines qmachines2 qlows2 qhighs2 qrates2 qtold2 qrunning2, aI qlows2 ca 4 lows_, aI qlows ca 4 lows_2, aI qhighs2 ca 4 highs_, aI qhighs ca 4 highs_2, aI qrates2 ca 4 rates_, aI qrates ca 4 rates_2, aZ qtold2 ca 4 told_, aZ qtold ca 4 told_2, aZ qrunning2 ca 4 running_, aZ qrunning ca 4 running_2]) (w2 := [oc_House qa0 qinside qwalls qgoods qmachines, oc_House qa1 qinside2 qwalls2 qgoods2 qmachines2, oc_Interior qinside2 qheatBooks qwaterBooks volume_ share_ heat_ water_, oc_Interior qinside qheatBooks2 qwaterBooks2 u1_0 u1_1 u1_2 u1_3, oc_Walls qwalls2 qconductances qcapacities qheats layers_, oc_Walls qwalls qconductances2 qcapacities2 qheats2 layers_2, aI qconductances ca 5 conductances_, aI qconductances2 ca 5 conductances_2, aI qcapacities ca 5 capacities_, aI qcapacities2 ca 5 capacities_2, aJ qheats ca 5 heats_, aJ qheats2 ca 5 heats_2, oc_Goods qgoods2 qrows kilograms_ load_, oc_Goods qgoods qrows2 kilograms_2 load_2, oc_Machines qmachines qlows qhighs qrates qtold qrunning, oc_Machines qmachines2 qlows2 qhighs2 qrates2 qtold2 qrunning2, aI qlows2 ca 4 lows_, aI qlows ca 4 lows_2, aI qhighs2 ca 4 highs_, aI qhighs ca 4 highs_2, aI qrates2 ca 4 rates_, aI qrates ca 4 rates_2, aZ qtold2 ca 4 told_, aZ qtold ca 4 told_2, aZ qrunning2 ca 4 running_, aZ qrunning ca 4 running_2]) (As := [.ref qinside2]) (rest := []) hx hb hml hown hts (cn_Interior_copyFrom l D ca qinside2 qheatBooks qwaterBooks qinside qheatBooks2 qwaterBooks2 volume_ share_ heat_ water_ volume_2 share_2 heat_2 water_2 u1_0 u1_1 u1_2 u1_3 e1 _) kc_Interior_copyFrom kv_Interior_copyFrom tt_679 ⟨by decide, by decide⟩ rfl rfl hP hK hD hS hA [2, 3] [0, 1, 4, 5, 6, 7, 8, 9, 10, 11, 12, 13, 14, 15, 16, 17, 18, 19, 20, 21, 22, 23, 24, 25] [0, 1, 24, 25, 2, 3, 4, 5, 6, 7, 8, 9, 10, 11, 12, 13, 14, 15, 16, 17, 18, 19, 20, 21, 22, 23] rfl (by decide) rfl (by decide) (by decide) rfl (by decide) 1 rfl rfl rfl rfl hl.1 (Nat.le_of_ble_eq_true rfl) rfl nd_House_copyFrom_8 ⟨Nat.zero_le _, Nat.zero_le _⟩ (fun H locs hP hD hS => ?_)
  refine lv_aload_n hx hb nd_House_copyFrom_11 rfl (lv_at hl 0 rfl) ?_
  refine va_get (D := D) (ci := 2) (v := .ref qwalls) (C := nR_House) (T := nT_House) (N := 4) hx hb hts ni_House hown hK hP 0 rfl rfl 1 (by decide) (hts (.fieldLink nR_House 19 "RoomClimate$House" "walls" "LRoomClimate$Walls;") tt_151) (fun _ h9 => h9) rfl nd_House_copyFrom_12 ?_
  refine lv_aload_n hx hb nd_House_copyFrom_15 rfl (lv_at hl 1 rfl) ?_
  refine va_get (D := D) (ci := 2) (v := .ref qwalls2) (C := nR_House) (T := nT_House) (N := 4) hx hb hts ni_House hown hK hP 1 rfl rfl 1 (by decide) (hts (.fieldLink nR_House 19 "RoomClimate$House" "walls" "LRoomClimate$Walls;") tt_151) (fun _ h9 => h9) rfl nd_House_copyFrom_16 ?_
  obtain ⟨u2_0, u2_1, u2_2, u2_3, e2, hR⟩ := q_b4 hR
  refine k_wVV (wr := [oc_House qa0 qinside qwalls qgoods qmachines, oc_House qa1 qinside2 qwalls2 qgoods2 qmachines2, oc_Interior qinside2 qheatBooks qwaterBooks volume_ share_ heat_ water_, oc_Interior qinside qheatBooks2 qwaterBooks2 u1_0 u1_1 u1_2 u1_3, oc_Goods qgoods2 qrows kilograms_ load_, oc_Goods qgoods qrows2 kilograms_2 load_2, oc_Machines qmachines qlows qhighs qrates qtold qrunning, oc_Machines qmachines2 qlows2 qhighs2 qrates2 qtold2 qrunning2, aI qlows2 ca 4 lows_, aI qlows ca 4 lows_2, aI qhighs2 ca 4 highs_, aI qhighs ca 4 highs_2, aI qrates2 ca 4 rates_, aI qrates ca 4 rates_2, aZ qtold2 ca 4 told_, aZ qtold ca 4 told_2, aZ qrunning2 ca 4 running_, aZ qrunning ca 4 running_2]) (w2 := [oc_House qa0 qinside qwalls qgoods qmachines, oc_House qa1 qinside2 qwalls2 qgoods2 qmachines2, oc_Interior qinside2 qheatBooks qwaterBooks volume_ share_ heat_ water_, oc_Interior qinside qheatBooks2 qwaterBooks2 u1_0 u1_1 u1_2 u1_3, oc_Walls qwalls2 qconductances qcapacities qheats layers_, oc_Walls qwalls qconductances2 qcapacities2 qheats2 u2_0, aI qconductances ca 5 conductances_, aI qconductances2 ca 5 u2_1, aI qcapacities ca 5 capacities_, aI qcapacities2 ca 5 u2_2, aJ qheats ca 5 heats_, aJ qheats2 ca 5 u2_3, oc_Goods qgoods2 qrows kilograms_ load_, oc_Goods qgoods qrows2 kilograms_2 load_2, oc_Machines qmachines qlows qhighs qrates qtold qrunning, oc_Machines qmachines2 qlows2 qhighs2 qrates2 qtold2 qrunning2, aI qlows2 ca 4 lows_, aI qlows ca 4 lows_2, aI qhighs2 ca 4 highs_, aI qhighs ca 4 highs_2, aI qrates2 ca 4 rates_, aI qrates ca 4 rates_2, aZ qtold2 ca 4 told_, aZ qtold ca 4 told_2, aZ qrunning2 ca 4 running_, aZ qrunning ca 4 running_2]) (As := [.ref qwalls2]) (rest := []) hx hb hml hown hts (cn_Walls_copyFrom l D ca qwalls2 qconductances qcapacities qheats qwalls qconductances2 qcapacities2 qheats2 layers_ layers_2 conductances_ conductances_2 capacities_ capacities_2 heats_ heats_2 u2_0 u2_1 u2_2 u2_3 e2 _) kc_Walls_copyFrom kv_Walls_copyFrom tt_683 ⟨by decide, by decide⟩ rfl rfl hP hK hD hS hA [4, 5, 6, 7, 8, 9, 10, 11] [0, 1, 2, 3, 12, 13, 14, 15, 16, 17, 18, 19, 20, 21, 22, 23, 24, 25] [0, 1, 2, 3, 18, 19, 20, 21, 22, 23, 24, 25, 4, 5, 6, 7, 8, 9, 10, 11, 12, 13, 14, 15, 16, 17] rfl (by decide) rfl (by decide) (by decide) rfl (by decide) 1 rfl rfl rfl rfl hl.1 (Nat.le_of_ble_eq_true rfl) rfl nd_House_copyFrom_19 ⟨Nat.zero_le _, Nat.zero_le _⟩ (fun H locs hP hD hS => ?_)
  refine lv_aload_n hx hb nd_House_copyFrom_22 rfl (lv_at hl 0 rfl) ?_
  refine va_get (D := D) (ci := 2) (v := .ref qgoods) (C := nR_House) (T := nT_House) (N := 4) hx hb hts ni_House hown hK hP 0 rfl rfl 2 (by decide) (hts (.fieldLink nR_House 35 "RoomClimate$House" "goods" "LRoomClimate$Goods;") tt_153) (fun _ h9 => h9) rfl nd_House_copyFrom_23 ?_
  refine lv_aload_n hx hb nd_House_copyFrom_26 rfl (lv_at hl 1 rfl) ?_
  refine va_get (D := D) (ci := 2) (v := .ref qgoods2) (C := nR_House) (T := nT_House) (N := 4) hx hb hts ni_House hown hK hP 1 rfl rfl 2 (by decide) (hts (.fieldLink nR_House 35 "RoomClimate$House" "goods" "LRoomClimate$Goods;") tt_153) (fun _ h9 => h9) rfl nd_House_copyFrom_27 ?_
  obtain ⟨u3_0, u3_1, e3, hR⟩ := q_b2 hR
  refine k_wVV (wr := [oc_House qa0 qinside qwalls qgoods qmachines, oc_House qa1 qinside2 qwalls2 qgoods2 qmachines2, oc_Interior qinside2 qheatBooks qwaterBooks volume_ share_ heat_ water_, oc_Interior qinside qheatBooks2 qwaterBooks2 u1_0 u1_1 u1_2 u1_3, oc_Walls qwalls2 qconductances qcapacities qheats layers_, oc_Walls qwalls qconductances2 qcapacities2 qheats2 u2_0, aI qconductances ca 5 conductances_, aI qconductances2 ca 5 u2_1, aI qcapacities ca 5 capacities_, aI qcapacities2 ca 5 u2_2, aJ qheats ca 5 heats_, aJ qheats2 ca 5 u2_3, oc_Machines qmachines qlows qhighs qrates qtold qrunning, oc_Machines qmachines2 qlows2 qhighs2 qrates2 qtold2 qrunning2, aI qlows2 ca 4 lows_, aI qlows ca 4 lows_2, aI qhighs2 ca 4 highs_, aI qhighs ca 4 highs_2, aI qrates2 ca 4 rates_, aI qrates ca 4 rates_2, aZ qtold2 ca 4 told_, aZ qtold ca 4 told_2, aZ qrunning2 ca 4 running_, aZ qrunning ca 4 running_2]) (w2 := [oc_House qa0 qinside qwalls qgoods qmachines, oc_House qa1 qinside2 qwalls2 qgoods2 qmachines2, oc_Interior qinside2 qheatBooks qwaterBooks volume_ share_ heat_ water_, oc_Interior qinside qheatBooks2 qwaterBooks2 u1_0 u1_1 u1_2 u1_3, oc_Walls qwalls2 qconductances qcapacities qheats layers_, oc_Walls qwalls qconductances2 qcapacities2 qheats2 u2_0, aI qconductances ca 5 conductances_, aI qconductances2 ca 5 u2_1, aI qcapacities ca 5 capacities_, aI qcapacities2 ca 5 u2_2, aJ qheats ca 5 heats_, aJ qheats2 ca 5 u2_3, oc_Goods qgoods2 qrows kilograms_ load_, oc_Goods qgoods qrows2 u3_0 u3_1, oc_Machines qmachines qlows qhighs qrates qtold qrunning, oc_Machines qmachines2 qlows2 qhighs2 qrates2 qtold2 qrunning2, aI qlows2 ca 4 lows_, aI qlows ca 4 lows_2, aI qhighs2 ca 4 highs_, aI qhighs ca 4 highs_2, aI qrates2 ca 4 rates_, aI qrates ca 4 rates_2, aZ qtold2 ca 4 told_, aZ qtold ca 4 told_2, aZ qrunning2 ca 4 running_, aZ qrunning ca 4 running_2]) (As := [.ref qgoods2]) (rest := []) hx hb hml hown hts (cn_Goods_copyFrom l D ca qgoods2 qrows qgoods qrows2 kilograms_ load_ kilograms_2 load_2 u3_0 u3_1 e3 _) kc_Goods_copyFrom kv_Goods_copyFrom tt_687 ⟨by decide, by decide⟩ rfl rfl hP hK hD hS hA [12, 13] [0, 1, 2, 3, 4, 5, 6, 7, 8, 9, 10, 11, 14, 15, 16, 17, 18, 19, 20, 21, 22, 23, 24, 25] [0, 1, 2, 3, 4, 5, 6, 7, 8, 9, 10, 11, 24, 25, 12, 13, 14, 15, 16, 17, 18, 19, 20, 21, 22, 23] rfl (by decide) rfl (by decide) (by decide) rfl (by decide) 1 rfl rfl rfl rfl hl.1 (Nat.le_of_ble_eq_true rfl) rfl nd_House_copyFrom_30 ⟨Nat.zero_le _, Nat.zero_le _⟩ (fun H locs hP hD hS => ?_)
  refine lv_aload_n hx hb nd_House_copyFrom_33 rfl (lv_at hl 0 rfl) ?_
  refine va_get (D := D) (ci := 2) (v := .ref qmachines) (C := nR_House) (T := nT_House) (N := 4) hx hb hts ni_House hown hK hP 0 rfl rfl 3 (by decide) (hts (.fieldLink nR_House 26 "RoomClimate$House" "machines" "LRoomClimate$Machines;") tt_155) (fun _ h9 => h9) rfl nd_House_copyFrom_34 ?_
  refine lv_aload_n hx hb nd_House_copyFrom_37 rfl (lv_at hl 1 rfl) ?_
  refine va_get (D := D) (ci := 2) (v := .ref qmachines2) (C := nR_House) (T := nT_House) (N := 4) hx hb hts ni_House hown hK hP 1 rfl rfl 3 (by decide) (hts (.fieldLink nR_House 26 "RoomClimate$House" "machines" "LRoomClimate$Machines;") tt_155) (fun _ h9 => h9) rfl nd_House_copyFrom_38 ?_
  obtain ⟨u4_0, u4_1, u4_2, u4_3, u4_4, e4, hR⟩ := q_b5 hR
  refine k_wVV (wr := [oc_House qa0 qinside qwalls qgoods qmachines, oc_House qa1 qinside2 qwalls2 qgoods2 qmachines2, oc_Interior qinside2 qheatBooks qwaterBooks volume_ share_ heat_ water_, oc_Interior qinside qheatBooks2 qwaterBooks2 u1_0 u1_1 u1_2 u1_3, oc_Walls qwalls2 qconductances qcapacities qheats layers_, oc_Walls qwalls qconductances2 qcapacities2 qheats2 u2_0, aI qconductances ca 5 conductances_, aI qconductances2 ca 5 u2_1, aI qcapacities ca 5 capacities_, aI qcapacities2 ca 5 u2_2, aJ qheats ca 5 heats_, aJ qheats2 ca 5 u2_3, oc_Goods qgoods2 qrows kilograms_ load_, oc_Goods qgoods qrows2 u3_0 u3_1]) (w2 := [oc_House qa0 qinside qwalls qgoods qmachines, oc_House qa1 qinside2 qwalls2 qgoods2 qmachines2, oc_Interior qinside2 qheatBooks qwaterBooks volume_ share_ heat_ water_, oc_Interior qinside qheatBooks2 qwaterBooks2 u1_0 u1_1 u1_2 u1_3, oc_Walls qwalls2 qconductances qcapacities qheats layers_, oc_Walls qwalls qconductances2 qcapacities2 qheats2 u2_0, aI qconductances ca 5 conductances_, aI qconductances2 ca 5 u2_1, aI qcapacities ca 5 capacities_, aI qcapacities2 ca 5 u2_2, aJ qheats ca 5 heats_, aJ qheats2 ca 5 u2_3, oc_Goods qgoods2 qrows kilograms_ load_, oc_Goods qgoods qrows2 u3_0 u3_1, oc_Machines qmachines qlows qhighs qrates qtold qrunning, oc_Machines qmachines2 qlows2 qhighs2 qrates2 qtold2 qrunning2, aI qlows2 ca 4 lows_, aI qlows ca 4 u4_0, aI qhighs2 ca 4 highs_, aI qhighs ca 4 u4_1, aI qrates2 ca 4 rates_, aI qrates ca 4 u4_2, aZ qtold2 ca 4 told_, aZ qtold ca 4 u4_3, aZ qrunning2 ca 4 running_, aZ qrunning ca 4 u4_4]) (As := [.ref qmachines2]) (rest := []) hx hb hml hown hts (cn_Machines_copyFrom l D ca qmachines qlows qhighs qrates qtold qrunning qmachines2 qlows2 qhighs2 qrates2 qtold2 qrunning2 lows_ lows_2 highs_ highs_2 rates_ rates_2 told_ told_2 running_ running_2 u4_0 u4_1 u4_2 u4_3 u4_4 e4 _) kc_Machines_copyFrom kv_Machines_copyFrom tt_691 ⟨by decide, by decide⟩ rfl rfl hP hK hD hS hA [14, 15, 16, 17, 18, 19, 20, 21, 22, 23, 24, 25] [0, 1, 2, 3, 4, 5, 6, 7, 8, 9, 10, 11, 12, 13] [0, 1, 2, 3, 4, 5, 6, 7, 8, 9, 10, 11, 12, 13, 14, 15, 16, 17, 18, 19, 20, 21, 22, 23, 24, 25] rfl (by decide) rfl (by decide) (by decide) rfl (by decide) 0 rfl rfl rfl rfl hl.1 (Nat.le_of_ble_eq_true rfl) rfl nd_House_copyFrom_41 ⟨Nat.zero_le _, Nat.zero_le _⟩ (fun H locs hP hD hS => ?_)
  exact hret (u1_0, u1_1, u1_2, u1_3, u2_0, u2_1, u2_2, u2_3, u3_0, u3_1, u4_0, u4_1, u4_2, u4_3, u4_4) _ _ _ _ nd_House_copyFrom_44 hR hP hD hS
def rm_Machines_install : Room := { frames := 0, cells := 0, slots := 0, locals := 0 }
theorem kc_Machines_install : k_cal nY_Machines_install nC_Machines_install 5 none 4 := ⟨tt_440, tt_6, by decide +kernel⟩
theorem kv_Machines_install : k_vir nY_Machines_install := ⟨tt_438, tt_439⟩
set_option maxHeartbeats 4000000 in
set_option maxRecDepth 100000 in
theorem cn_Machines_install (l : Launch) (D : va_G) (ca : Nat → ClassId) (qa0 qlows qhighs qrates qtold qrunning : Nat) (lows_ : Nat → Int32) (highs_ : Nat → Int32) (rates_ : Nat → Int32) (told_ : Nat → Int32) (running_ : Nat → Int32) (x1 : Int32) (x2 : Int32) (x3 : Int32) (x4 : Int32) (R0 : Nat → Int32) (R1 : Nat → Int32) (R2 : Nat → Int32) (R3 : Nat → Int32) (R4 : Nat → Int32) (hR : fn_Machines_install lows_ highs_ rates_ told_ running_ x1 x2 x3 x4 = some (R0, R1, R2, R3, R4)) (sz : Nat) : Met l nY_Machines_install (Cond.code nY_Machines_install nC_Machines_install 5 none :: TT) rm_Machines_install (wr_P [.ref qa0, .int x1, .int x2, .int x3, .int x4] D ca [oc_Machines qa0 qlows qhighs qrates qtold qrunning, aI qlows ca 4 lows_, aI qhighs ca 4 highs_, aI qrates ca 4 rates_, aZ qtold ca 4 told_, aZ qrunning ca 4 running_] sz) (va_Qv (fun (_ : Unit) => True) (wr_B D [oc_Machines qa0 qlows qhighs qrates qtold qrunning, aI qlows ca 4 lows_, aI qhighs ca 4 highs_, aI qrates ca 4 rates_, aZ qtold ca 4 told_, aZ qrunning ca 4 running_] sz [oc_Machines qa0 qlows qhighs qrates qtold qrunning, aI qlows ca 4 R0, aI qhighs ca 4 R1, aI qrates ca 4 R2, aZ qtold ca 4 R3, aZ qrunning ca 4 R4]) (va_A [oc_Machines qa0 qlows qhighs qrates qtold qrunning, aI qlows ca 4 lows_, aI qhighs ca 4 highs_, aI qrates ca 4 rates_, aZ qtold ca 4 told_, aZ qrunning ca 4 running_] sz)) 0 0 (va_A [oc_Machines qa0 qlows qhighs qrates qtold qrunning, aI qlows ca 4 lows_, aI qhighs ca 4 highs_, aI qrates ca 4 rates_, aZ qtold ca 4 told_, aZ qrunning ca 4 running_] sz) := by
  refine wr_ofV (R := (R0, R1, R2, R3, R4)) (w1 := fun r : (Nat → Int32) × (Nat → Int32) × (Nat → Int32) × (Nat → Int32) × (Nat → Int32) => [oc_Machines qa0 qlows qhighs qrates qtold qrunning, aI qlows ca 4 r.1, aI qhighs ca 4 r.2.1, aI qrates ca 4 r.2.2.1, aZ qtold ca 4 r.2.2.2.1, aZ qrunning ca 4 r.2.2.2.2]) (by decide +kernel) (Nat.le_of_ble_eq_true rfl) ?_
  intro p e s m below meth c Q ar ls hx hb hml hts hown hP hK A hD hA hl hret
  have hS : va_S A s.heap s.heap [] := va_S.rf
  have hown : s.vm.findClass nR_Machines = some m.cls := hown
  have hl : lv_has ls 5 [(0, .ref qa0), (1, .int x1), (2, .int x2), (3, .int x3), (4, .int x4)] := hl
  unfold fn_Machines_install at hR
  refine lv_aload_n hx hb nd_Machines_install_0 rfl (lv_at hl 0 rfl) ?_
  refine va_get (D := D) (ci := 4) (v := .ref qlows) (C := nR_Machines) (T := nT_Machines) (N := 5) hx hb hts ni_Machines hown hK hP 0 rfl rfl 0 (by decide) (hts (.fieldLink nR_Machines 9 "RoomClimate$Machines" "lows" "[I") tt_112) (fun _ h9 => h9) rfl nd_Machines_install_1 ?_
  refine lv_iload_n hx hb nd_Machines_install_4 rfl (lv_at hl 1 rfl) ?_
  refine lv_iload_n hx hb nd_Machines_install_5 rfl (lv_at hl 2 rfl) ?_
  obtain ⟨h1, hR⟩ := q_ix hR
  refine va_iast hx hb hK hP hD hS 1 0 rfl rfl h1 nd_Machines_install_6 (fun H locs hP hD hS => ?_)
  have hP : va_P D vwCl [oc_Machines qa0 qlows qhighs qrates qtold qrunning, aI qlows ca 4 (upd lows_ x1.toNatClampNeg x2), aI qhighs ca 4 highs_, aI qrates ca 4 rates_, aZ qtold ca 4 told_, aZ qrunning ca 4 running_] H := hP
  have hD : va_D A [oc_Machines qa0 qlows qhighs qrates qtold qrunning, aI qlows ca 4 (upd lows_ x1.toNatClampNeg x2), aI qhighs ca 4 highs_, aI qrates ca 4 rates_, aZ qtold ca 4 told_, aZ qrunning ca 4 running_] := hD
  refine lv_aload_n hx hb nd_Machines_install_7 rfl (lv_at hl 0 rfl) ?_
  refine va_get (D := D) (ci := 4) (v := .ref qhighs) (C := nR_Machines) (T := nT_Machines) (N := 5) hx hb hts ni_Machines hown hK hP 0 rfl rfl 1 (by decide) (hts (.fieldLink nR_Machines 15 "RoomClimate$Machines" "highs" "[I") tt_113) (fun _ h9 => h9) rfl nd_Machines_install_8 ?_
  refine lv_iload_n hx hb nd_Machines_install_11 rfl (lv_at hl 1 rfl) ?_
  refine lv_iload_n hx hb nd_Machines_install_12 rfl (lv_at hl 3 rfl) ?_
  refine va_iast hx hb hK hP hD hS 2 0 rfl rfl h1 nd_Machines_install_13 (fun H locs hP hD hS => ?_)
  have hP : va_P D vwCl [oc_Machines qa0 qlows qhighs qrates qtold qrunning, aI qlows ca 4 (upd lows_ x1.toNatClampNeg x2), aI qhighs ca 4 (upd highs_ x1.toNatClampNeg x3), aI qrates ca 4 rates_, aZ qtold ca 4 told_, aZ qrunning ca 4 running_] H := hP
  have hD : va_D A [oc_Machines qa0 qlows qhighs qrates qtold qrunning, aI qlows ca 4 (upd lows_ x1.toNatClampNeg x2), aI qhighs ca 4 (upd highs_ x1.toNatClampNeg x3), aI qrates ca 4 rates_, aZ qtold ca 4 told_, aZ qrunning ca 4 running_] := hD
  refine lv_aload_n hx hb nd_Machines_install_14 rfl (lv_at hl 0 rfl) ?_
  refine va_get (D := D) (ci := 4) (v := .ref qrates) (C := nR_Machines) (T := nT_Machines) (N := 5) hx hb hts ni_Machines hown hK hP 0 rfl rfl 2 (by decide) (hts (.fieldLink nR_Machines 18 "RoomClimate$Machines" "rates" "[I") tt_114) (fun _ h9 => h9) rfl nd_Machines_install_15 ?_
  refine lv_iload_n hx hb nd_Machines_install_18 rfl (lv_at hl 1 rfl) ?_
  refine lv_iload hx hb nd_Machines_install_19 (lv_at hl 4 rfl) ?_
  refine va_iast hx hb hK hP hD hS 3 0 rfl rfl h1 nd_Machines_install_21 (fun H locs hP hD hS => ?_)
  have hP : va_P D vwCl [oc_Machines qa0 qlows qhighs qrates qtold qrunning, aI qlows ca 4 (upd lows_ x1.toNatClampNeg x2), aI qhighs ca 4 (upd highs_ x1.toNatClampNeg x3), aI qrates ca 4 (upd rates_ x1.toNatClampNeg x4), aZ qtold ca 4 told_, aZ qrunning ca 4 running_] H := hP
  have hD : va_D A [oc_Machines qa0 qlows qhighs qrates qtold qrunning, aI qlows ca 4 (upd lows_ x1.toNatClampNeg x2), aI qhighs ca 4 (upd highs_ x1.toNatClampNeg x3), aI qrates ca 4 (upd rates_ x1.toNatClampNeg x4), aZ qtold ca 4 told_, aZ qrunning ca 4 running_] := hD
  refine lv_aload_n hx hb nd_Machines_install_22 rfl (lv_at hl 0 rfl) ?_
  refine va_get (D := D) (ci := 4) (v := .ref qtold) (C := nR_Machines) (T := nT_Machines) (N := 5) hx hb hts ni_Machines hown hK hP 0 rfl rfl 3 (by decide) (hts (.fieldLink nR_Machines 21 "RoomClimate$Machines" "told" "[Z") tt_115) (fun _ h9 => h9) rfl nd_Machines_install_23 ?_
  refine lv_iload_n hx hb nd_Machines_install_26 rfl (lv_at hl 1 rfl) ?_
  refine lv_iconst (v := 1) hx hb nd_Machines_install_27 (by decide) ?_
  refine va_zast hx hb hK hP hD hS 4 2 rfl rfl h1 nd_Machines_install_28 (fun H locs hP hD hS => ?_)
  have hP : va_P D vwCl [oc_Machines qa0 qlows qhighs qrates qtold qrunning, aI qlows ca 4 (upd lows_ x1.toNatClampNeg x2), aI qhighs ca 4 (upd highs_ x1.toNatClampNeg x3), aI qrates ca 4 (upd rates_ x1.toNatClampNeg x4), aZ qtold ca 4 (upd told_ x1.toNatClampNeg (vp_nar .boolean (1 : Int32))), aZ qrunning ca 4 running_] H := hP
  have hD : va_D A [oc_Machines qa0 qlows qhighs qrates qtold qrunning, aI qlows ca 4 (upd lows_ x1.toNatClampNeg x2), aI qhighs ca 4 (upd highs_ x1.toNatClampNeg x3), aI qrates ca 4 (upd rates_ x1.toNatClampNeg x4), aZ qtold ca 4 (upd told_ x1.toNatClampNeg (vp_nar .boolean (1 : Int32))), aZ qrunning ca 4 running_] := hD
  refine lv_aload_n hx hb nd_Machines_install_29 rfl (lv_at hl 0 rfl) ?_
  refine va_get (D := D) (ci := 4) (v := .ref qrunning) (C := nR_Machines) (T := nT_Machines) (N := 5) hx hb hts ni_Machines hown hK hP 0 rfl rfl 4 (by decide) (hts (.fieldLink nR_Machines 25 "RoomClimate$Machines" "running" "[Z") tt_116) (fun _ h9 => h9) rfl nd_Machines_install_30 ?_
  refine lv_iload_n hx hb nd_Machines_install_33 rfl (lv_at hl 1 rfl) ?_
  refine lv_iconst (v := 0) hx hb nd_Machines_install_34 (by decide) ?_
  refine va_zast hx hb hK hP hD hS 5 2 rfl rfl h1 nd_Machines_install_35 (fun H locs hP hD hS => ?_)
  have hP : va_P D vwCl [oc_Machines qa0 qlows qhighs qrates qtold qrunning, aI qlows ca 4 (upd lows_ x1.toNatClampNeg x2), aI qhighs ca 4 (upd highs_ x1.toNatClampNeg x3), aI qrates ca 4 (upd rates_ x1.toNatClampNeg x4), aZ qtold ca 4 (upd told_ x1.toNatClampNeg (vp_nar .boolean (1 : Int32))), aZ qrunning ca 4 (upd running_ x1.toNatClampNeg (vp_nar .boolean (0 : Int32)))] H := hP
  have hD : va_D A [oc_Machines qa0 qlows qhighs qrates qtold qrunning, aI qlows ca 4 (upd lows_ x1.toNatClampNeg x2), aI qhighs ca 4 (upd highs_ x1.toNatClampNeg x3), aI qrates ca 4 (upd rates_ x1.toNatClampNeg x4), aZ qtold ca 4 (upd told_ x1.toNatClampNeg (vp_nar .boolean (1 : Int32))), aZ qrunning ca 4 (upd running_ x1.toNatClampNeg (vp_nar .boolean (0 : Int32)))] := hD
  exact hret (upd lows_ x1.toNatClampNeg x2, upd highs_ x1.toNatClampNeg x3, upd rates_ x1.toNatClampNeg x4, upd told_ x1.toNatClampNeg (vp_nar .boolean (1 : Int32)), upd running_ x1.toNatClampNeg (vp_nar .boolean (0 : Int32))) _ _ _ _ nd_Machines_install_36 hR hP hD hS
def rm_Machines_rateOr : Room := { frames := 0, cells := 0, slots := 0, locals := 0 }
theorem kc_Machines_rateOr : k_cal nY_Machines_rateOr nC_Machines_rateOr 3 (some .int) 2 := ⟨tt_698, tt_6, by decide +kernel⟩
theorem kv_Machines_rateOr : k_vir nY_Machines_rateOr := ⟨tt_696, tt_697⟩
set_option maxHeartbeats 4000000 in
set_option maxRecDepth 100000 in
theorem cn_Machines_rateOr (l : Launch) (D : va_G) (ca : Nat → ClassId) (qa0 qlows qhighs qrates qtold qrunning : Nat) (told_ : Nat → Int32) (rates_ : Nat → Int32) (x1 : Int32) (x2 : Int32) (R0 : Int32) (hR : fn_Machines_rateOr told_ rates_ x1 x2 = some R0) : Met l nY_Machines_rateOr (Cond.code nY_Machines_rateOr nC_Machines_rateOr 3 (some .int) :: TT) rm_Machines_rateOr (rd_P [.ref qa0, .int x1, .int x2] D ca [oc_Machines qa0 qlows qhighs qrates qtold qrunning, aZ qtold ca 4 told_, aI qrates ca 4 rates_]) (vp_Si (fun x => x = R0)) 0 0 (fun _ => False) := by
  refine rd_ofI (by decide +kernel) (Nat.le_of_ble_eq_true rfl) ?_
  intro p e s m below meth c Q ar ls hx hb hml hts hown hP hK hl hret
  have hown : s.vm.findClass nR_Machines = some m.cls := hown
  have hl : lv_has ls 3 [(0, .ref qa0), (1, .int x1), (2, .int x2)] := hl
  unfold fn_Machines_rateOr at hR
  refine lv_aload_n hx hb nd_Machines_rateOr_0 rfl (lv_at hl 0 rfl) ?_
  refine va_get (D := D) (ci := 4) (v := .ref qtold) (C := nR_Machines) (T := nT_Machines) (N := 5) hx hb hts ni_Machines hown hK hP 0 rfl rfl 3 (by decide) (hts (.fieldLink nR_Machines 21 "RoomClimate$Machines" "told" "[Z") tt_115) (fun _ h9 => h9) rfl nd_Machines_rateOr_1 ?_
  refine lv_iload_n hx hb nd_Machines_rateOr_4 rfl (lv_at hl 1 rfl) ?_
  obtain ⟨h1, hR⟩ := q_ix hR
  refine va_zald hx hb hK hP 1 2 rfl rfl h1 nd_Machines_rateOr_5 ?_
  obtain ⟨j3_0, hJ3, hR⟩ := q_b1 hR
  have hN3 : ∀ (ls : Array Slot), lv_has ls 3 [(0, .ref qa0), (1, .int x1), (2, .int x2)] → W p l e rm_Machines_rateOr s m ar below meth c s.heap [] 0 0 Q (F0 m 19 ls [.int j3_0]) := by
    intro ls  hl
    exact hret _ _ _ nd_Machines_rateOr_19 (Option.some.inj hR)
  refine lv_if_eq (tgt := 18) hx hb nd_Machines_rateOr_6 (by decide) (fun c2 => ?_) (fun c2 => ?_)
  · have hR := q_p c2 hJ3
    refine lv_iload_n hx hb nd_Machines_rateOr_18 rfl (lv_at hl 2 rfl) ?_
    cases hR
    exact hN3 _  (lv_sub hl [0, 1, 2] rfl)
  · have hR := q_n c2 hJ3
    refine lv_aload_n hx hb nd_Machines_rateOr_9 rfl (lv_at hl 0 rfl) ?_
    refine va_get (D := D) (ci := 4) (v := .ref qrates) (C := nR_Machines) (T := nT_Machines) (N := 5) hx hb hts ni_Machines hown hK hP 0 rfl rfl 2 (by decide) (hts (.fieldLink nR_Machines 18 "RoomClimate$Machines" "rates" "[I") tt_114) (fun _ h9 => h9) rfl nd_Machines_rateOr_10 ?_
    refine lv_iload_n hx hb nd_Machines_rateOr_13 rfl (lv_at hl 1 rfl) ?_
    refine va_iald hx hb hK hP 2 0 rfl rfl h1 nd_Machines_rateOr_14 ?_
    refine lv_goto (tgt := 19) hx hb nd_Machines_rateOr_15 (by decide) ?_
    cases hR
    exact hN3 _  (lv_sub hl [0, 1, 2] rfl)
def rm_Rules_append : Room := { frames := 0, cells := 0, slots := 0, locals := 0 }
theorem kc_Rules_append : k_cal nY_Rules_append nC_Rules_append 4 (some .int) 3 := ⟨tt_595, tt_8, by decide +kernel⟩
theorem kv_Rules_append : k_vir nY_Rules_append := ⟨tt_593, tt_594⟩
set_option maxHeartbeats 4000000 in
set_option maxRecDepth 100000 in
theorem cn_Rules_append (l : Launch) (D : va_G) (ca : Nat → ClassId) (qa0 qkinds qlevels qholds qalarmCounts qalarmHours : Nat) (size_ : Int32) (kinds_ : Nat → Int32) (levels_ : Nat → Int32) (holds_ : Nat → Int32) (x1 : Int32) (x2 : Int32) (x3 : Int32) (R0 : Int32) (R1 : Nat → Int32) (R2 : Nat → Int32) (R3 : Nat → Int32) (R4 : Int32) (hR : fn_Rules_append size_ kinds_ levels_ holds_ x1 x2 x3 = some (R0, R1, R2, R3, R4)) (sz : Nat) : Met l nY_Rules_append (Cond.code nY_Rules_append nC_Rules_append 4 (some .int) :: TT) rm_Rules_append (wr_P [.ref qa0, .int x1, .int x2, .int x3] D ca [oc_Rules qa0 qkinds qlevels qholds qalarmCounts qalarmHours size_, aI qkinds ca 4 kinds_, aI qlevels ca 4 levels_, aI qholds ca 4 holds_] sz) (va_Qi (fun x (_ : Unit) => x = R0) (wr_B D [oc_Rules qa0 qkinds qlevels qholds qalarmCounts qalarmHours size_, aI qkinds ca 4 kinds_, aI qlevels ca 4 levels_, aI qholds ca 4 holds_] sz [oc_Rules qa0 qkinds qlevels qholds qalarmCounts qalarmHours R4, aI qkinds ca 4 R1, aI qlevels ca 4 R2, aI qholds ca 4 R3]) (va_A [oc_Rules qa0 qkinds qlevels qholds qalarmCounts qalarmHours size_, aI qkinds ca 4 kinds_, aI qlevels ca 4 levels_, aI qholds ca 4 holds_] sz)) 0 0 (va_A [oc_Rules qa0 qkinds qlevels qholds qalarmCounts qalarmHours size_, aI qkinds ca 4 kinds_, aI qlevels ca 4 levels_, aI qholds ca 4 holds_] sz) := by
  refine wr_ofI (R := (R0, R1, R2, R3, R4)) (val := fun r => r.1) (w1 := fun r : Int32 × (Nat → Int32) × (Nat → Int32) × (Nat → Int32) × Int32 => [oc_Rules qa0 qkinds qlevels qholds qalarmCounts qalarmHours r.2.2.2.2, aI qkinds ca 4 r.2.1, aI qlevels ca 4 r.2.2.1, aI qholds ca 4 r.2.2.2.1]) (by decide +kernel) (Nat.le_of_ble_eq_true rfl) ?_
  intro p e s m below meth c Q ar ls hx hb hml hts hown hP hK A hD hA hl hret
  have hS : va_S A s.heap s.heap [] := va_S.rf
  have hown : s.vm.findClass nR_Rules = some m.cls := hown
  have hl : lv_has ls 4 [(0, .ref qa0), (1, .int x1), (2, .int x2), (3, .int x3)] := hl
  unfold fn_Rules_append at hR
  refine lv_aload_n hx hb nd_Rules_append_0 rfl (lv_at hl 0 rfl) ?_
  refine va_get (D := D) (ci := 5) (v := .ref qkinds) (C := nR_Rules) (T := nT_Rules) (N := 6) hx hb hts ni_Rules hown hK hP 0 rfl rfl 0 (by decide) (hts (.fieldLink nR_Rules 9 "RoomClimate$Rules" "kinds" "[I") tt_175) (fun _ h9 => h9) rfl nd_Rules_append_1 ?_
  refine lv_aload_n hx hb nd_Rules_append_4 rfl (lv_at hl 0 rfl) ?_
  refine va_get (D := D) (ci := 5) (v := .int size_) (C := nR_Rules) (T := nT_Rules) (N := 6) hx hb hts ni_Rules hown hK hP 0 rfl rfl 5 (by decide) (hts (.fieldLink nR_Rules 29 "RoomClimate$Rules" "size" "I") tt_182) (fun _ h9 => h9) rfl nd_Rules_append_5 ?_
  refine lv_iload_n hx hb nd_Rules_append_8 rfl (lv_at hl 1 rfl) ?_
  obtain ⟨h1, hR⟩ := q_ix hR
  refine va_iast hx hb hK hP hD hS 1 0 rfl rfl h1 nd_Rules_append_9 (fun H locs hP hD hS => ?_)
  have hP : va_P D vwCl [oc_Rules qa0 qkinds qlevels qholds qalarmCounts qalarmHours size_, aI qkinds ca 4 (upd kinds_ size_.toNatClampNeg x1), aI qlevels ca 4 levels_, aI qholds ca 4 holds_] H := hP
  have hD : va_D A [oc_Rules qa0 qkinds qlevels qholds qalarmCounts qalarmHours size_, aI qkinds ca 4 (upd kinds_ size_.toNatClampNeg x1), aI qlevels ca 4 levels_, aI qholds ca 4 holds_] := hD
  refine lv_aload_n hx hb nd_Rules_append_10 rfl (lv_at hl 0 rfl) ?_
  refine va_get (D := D) (ci := 5) (v := .ref qlevels) (C := nR_Rules) (T := nT_Rules) (N := 6) hx hb hts ni_Rules hown hK hP 0 rfl rfl 1 (by decide) (hts (.fieldLink nR_Rules 15 "RoomClimate$Rules" "levels" "[I") tt_176) (fun _ h9 => h9) rfl nd_Rules_append_11 ?_
  refine lv_aload_n hx hb nd_Rules_append_14 rfl (lv_at hl 0 rfl) ?_
  refine va_get (D := D) (ci := 5) (v := .int size_) (C := nR_Rules) (T := nT_Rules) (N := 6) hx hb hts ni_Rules hown hK hP 0 rfl rfl 5 (by decide) (hts (.fieldLink nR_Rules 29 "RoomClimate$Rules" "size" "I") tt_182) (fun _ h9 => h9) rfl nd_Rules_append_15 ?_
  refine lv_iload_n hx hb nd_Rules_append_18 rfl (lv_at hl 2 rfl) ?_
  refine va_iast hx hb hK hP hD hS 2 0 rfl rfl h1 nd_Rules_append_19 (fun H locs hP hD hS => ?_)
  have hP : va_P D vwCl [oc_Rules qa0 qkinds qlevels qholds qalarmCounts qalarmHours size_, aI qkinds ca 4 (upd kinds_ size_.toNatClampNeg x1), aI qlevels ca 4 (upd levels_ size_.toNatClampNeg x2), aI qholds ca 4 holds_] H := hP
  have hD : va_D A [oc_Rules qa0 qkinds qlevels qholds qalarmCounts qalarmHours size_, aI qkinds ca 4 (upd kinds_ size_.toNatClampNeg x1), aI qlevels ca 4 (upd levels_ size_.toNatClampNeg x2), aI qholds ca 4 holds_] := hD
  refine lv_aload_n hx hb nd_Rules_append_20 rfl (lv_at hl 0 rfl) ?_
  refine va_get (D := D) (ci := 5) (v := .ref qholds) (C := nR_Rules) (T := nT_Rules) (N := 6) hx hb hts ni_Rules hown hK hP 0 rfl rfl 2 (by decide) (hts (.fieldLink nR_Rules 18 "RoomClimate$Rules" "holds" "[I") tt_177) (fun _ h9 => h9) rfl nd_Rules_append_21 ?_
  refine lv_aload_n hx hb nd_Rules_append_24 rfl (lv_at hl 0 rfl) ?_
  refine va_get (D := D) (ci := 5) (v := .int size_) (C := nR_Rules) (T := nT_Rules) (N := 6) hx hb hts ni_Rules hown hK hP 0 rfl rfl 5 (by decide) (hts (.fieldLink nR_Rules 29 "RoomClimate$Rules" "size" "I") tt_182) (fun _ h9 => h9) rfl nd_Rules_append_25 ?_
  refine lv_iload_n hx hb nd_Rules_append_28 rfl (lv_at hl 3 rfl) ?_
  refine va_iast hx hb hK hP hD hS 3 0 rfl rfl h1 nd_Rules_append_29 (fun H locs hP hD hS => ?_)
  have hP : va_P D vwCl [oc_Rules qa0 qkinds qlevels qholds qalarmCounts qalarmHours size_, aI qkinds ca 4 (upd kinds_ size_.toNatClampNeg x1), aI qlevels ca 4 (upd levels_ size_.toNatClampNeg x2), aI qholds ca 4 (upd holds_ size_.toNatClampNeg x3)] H := hP
  have hD : va_D A [oc_Rules qa0 qkinds qlevels qholds qalarmCounts qalarmHours size_, aI qkinds ca 4 (upd kinds_ size_.toNatClampNeg x1), aI qlevels ca 4 (upd levels_ size_.toNatClampNeg x2), aI qholds ca 4 (upd holds_ size_.toNatClampNeg x3)] := hD
  refine lv_aload_n hx hb nd_Rules_append_30 rfl (lv_at hl 0 rfl) ?_
  refine lv_dup hx hb nd_Rules_append_31 rfl ?_
  refine va_get (D := D) (ci := 5) (v := .int size_) (C := nR_Rules) (T := nT_Rules) (N := 6) hx hb hts ni_Rules hown hK hP 0 rfl rfl 5 (by decide) (hts (.fieldLink nR_Rules 29 "RoomClimate$Rules" "size" "I") tt_182) (fun _ h9 => h9) rfl nd_Rules_append_32 ?_
  refine lv_iconst (v := 1) hx hb nd_Rules_append_35 (by decide) ?_
  refine lv_iadd hx hb nd_Rules_append_36 ?_
  refine va_put (D := D) (ci := 5) (v := .int (size_ + (1 : Int32))) (ty := .int) (C := nR_Rules) (T := nT_Rules) (N := 6) hx hb hts ni_Rules nt_Rules nt_Rules_ok nn_Rules hown hK hP hD hS 0 rfl rfl 5 (by decide) (hts (.fieldLink nR_Rules 29 "RoomClimate$Rules" "size" "I") tt_182) (fun _ h9 => h9) rfl (by decide +kernel) rfl rfl (Nat.le_of_ble_eq_true rfl) nd_Rules_append_37 (fun H locs hP hD hS => ?_)
  have hP : va_P D vwCl [oc_Rules qa0 qkinds qlevels qholds qalarmCounts qalarmHours (size_ + (1 : Int32)), aI qkinds ca 4 (upd kinds_ size_.toNatClampNeg x1), aI qlevels ca 4 (upd levels_ size_.toNatClampNeg x2), aI qholds ca 4 (upd holds_ size_.toNatClampNeg x3)] H := hP
  have hD : va_D A [oc_Rules qa0 qkinds qlevels qholds qalarmCounts qalarmHours (size_ + (1 : Int32)), aI qkinds ca 4 (upd kinds_ size_.toNatClampNeg x1), aI qlevels ca 4 (upd levels_ size_.toNatClampNeg x2), aI qholds ca 4 (upd holds_ size_.toNatClampNeg x3)] := hD
  refine lv_aload_n hx hb nd_Rules_append_40 rfl (lv_at hl 0 rfl) ?_
  refine va_get (D := D) (ci := 5) (v := .int (size_ + (1 : Int32))) (C := nR_Rules) (T := nT_Rules) (N := 6) hx hb hts ni_Rules hown hK hP 0 rfl rfl 5 (by decide) (hts (.fieldLink nR_Rules 29 "RoomClimate$Rules" "size" "I") tt_182) (fun _ h9 => h9) rfl nd_Rules_append_41 ?_
  refine lv_iconst (v := 1) hx hb nd_Rules_append_44 (by decide) ?_
  refine lv_isub hx hb nd_Rules_append_45 ?_
  exact hret ((size_ + (1 : Int32)) - (1 : Int32), upd kinds_ size_.toNatClampNeg x1, upd levels_ size_.toNatClampNeg x2, upd holds_ size_.toNatClampNeg x3, size_ + (1 : Int32)) _ _ _ _ nd_Rules_append_46 hR hP hD hS
def rm_Rules_isBroken : Room := { frames := 3, cells := 0, slots := 0, locals := 68 }
theorem kc_Rules_isBroken : k_cal nY_Rules_isBroken nC_Rules_isBroken 3 (some .boolean) 2 := ⟨tt_532, tt_8, by decide +kernel⟩
theorem kv_Rules_isBroken : k_vir nY_Rules_isBroken := ⟨tt_531, tp_3⟩
set_option maxHeartbeats 4000000 in
set_option maxRecDepth 100000 in
theorem cn_Rules_isBroken (l : Launch) (D : va_G) (ca : Nat → ClassId) (qa0 qkinds qlevels qholds qalarmCounts qalarmHours qa2 qheatBooks qwaterBooks : Nat) (size_ : Int32) (kinds_ : Nat → Int32) (volume_ : Int32) (share_ : Int32) (heat_ : Int64) (water_ : Int64) (levels_ : Nat → Int32) (x1 : Int32) (R0 : Int32) (hR : fn_Rules_isBroken kinds_ volume_ heat_ water_ levels_ x1 = some R0) : Met l nY_Rules_isBroken (Cond.code nY_Rules_isBroken nC_Rules_isBroken 3 (some .boolean) :: TT) rm_Rules_isBroken (rd_P [.ref qa0, .int x1, .ref qa2] D ca [oc_Rules qa0 qkinds qlevels qholds qalarmCounts qalarmHours size_, aI qkinds ca 4 kinds_, oc_Interior qa2 qheatBooks qwaterBooks volume_ share_ heat_ water_, aI qlevels ca 4 levels_]) (vp_Si (fun x => x = R0)) 0 0 (fun _ => False) := by
  refine rd_ofZ (by decide +kernel) (Nat.le_of_ble_eq_true rfl) ?_
  intro p e s m below meth c Q ar ls hx hb hml hts hown hP hK hl hret
  have hown : s.vm.findClass nR_Rules = some m.cls := hown
  have hl : lv_has ls 3 [(0, .ref qa0), (1, .int x1), (2, .ref qa2)] := hl
  unfold fn_Rules_isBroken at hR
  refine lv_aload_n hx hb nd_Rules_isBroken_0 rfl (lv_at hl 0 rfl) ?_
  refine va_get (D := D) (ci := 5) (v := .ref qkinds) (C := nR_Rules) (T := nT_Rules) (N := 6) hx hb hts ni_Rules hown hK hP 0 rfl rfl 0 (by decide) (hts (.fieldLink nR_Rules 9 "RoomClimate$Rules" "kinds" "[I") tt_175) (fun _ h9 => h9) rfl nd_Rules_isBroken_1 ?_
  refine lv_iload_n hx hb nd_Rules_isBroken_4 rfl (lv_at hl 1 rfl) ?_
  obtain ⟨h1, hR⟩ := q_ix hR
  refine va_iald hx hb hK hP 1 0 rfl rfl h1 nd_Rules_isBroken_5 ?_
  by_cases c2 : (kinds_ x1.toNatClampNeg) = 0
  · replace hR := q_p c2 hR; refine lv_tableIn (tgt := 36) hx hb nd_Rules_isBroken_6 (by rw [c2]; decide) (by rw [c2]; decide) (by rw [c2]; rfl) (by decide) ?_
    refine lv_aload_n hx hb nd_Rules_isBroken_36 rfl (lv_at hl 2 rfl) ?_
    obtain ⟨r3, e3, hR⟩ := q_b1 hR
    refine k_rVJ (As := []) (rest := []) (r := r3) hx hb hml hown hts (cn_Interior_warmth l D ca qa2 qheatBooks qwaterBooks volume_ share_ heat_ water_ r3 e3) kc_Interior_warmth kv_Interior_warmth tt_533 ⟨by decide, by decide⟩ rfl rfl hP hK [2] rfl 0 rfl rfl rfl rfl hl.1 (Nat.le_of_ble_eq_true rfl) rfl nd_Rules_isBroken_37 ⟨Nat.zero_le _, Nat.zero_le _⟩ ?_
    refine lv_aload_n hx hb nd_Rules_isBroken_40 rfl (lv_at hl 0 rfl) ?_
    refine va_get (D := D) (ci := 5) (v := .ref qlevels) (C := nR_Rules) (T := nT_Rules) (N := 6) hx hb hts ni_Rules hown hK hP 0 rfl rfl 1 (by decide) (hts (.fieldLink nR_Rules 15 "RoomClimate$Rules" "levels" "[I") tt_176) (fun _ h9 => h9) rfl nd_Rules_isBroken_41 ?_
    refine lv_iload_n hx hb nd_Rules_isBroken_44 rfl (lv_at hl 1 rfl) ?_
    refine va_iald hx hb hK hP 3 0 rfl rfl h1 nd_Rules_isBroken_45 ?_
    refine lv_i2l hx hb nd_Rules_isBroken_46 rfl ?_
    refine W.lcmp hx hb nd_Rules_isBroken_47 ?_
    obtain ⟨j5_0, hJ5, hR⟩ := q_b1 hR
    have hN5 : ∀ (ls : Array Slot), lv_has ls 3 [(0, .ref qa0), (1, .int x1), (2, .ref qa2)] → W p l e rm_Rules_isBroken s m ar below meth c s.heap [] 0 0 Q (F0 m 56 ls [.int j5_0]) := by
      intro ls  hl
      obtain ⟨h6, hR⟩ := q_bz hR
      exact hret _ _ _ nd_Rules_isBroken_56 h6 (Option.some.inj hR)
    refine lv_if_le (tgt := 55) hx hb nd_Rules_isBroken_48 (by decide) (fun c4 => ?_) (fun c4 => ?_)
    · have hR := q_p c4 hJ5
      refine lv_iconst (v := 0) hx hb nd_Rules_isBroken_55 (by decide) ?_
      cases hR
      exact hN5 _  (lv_sub hl [0, 1, 2] rfl)
    · have hR := q_n c4 hJ5
      refine lv_iconst (v := 1) hx hb nd_Rules_isBroken_51 (by decide) ?_
      refine lv_goto (tgt := 56) hx hb nd_Rules_isBroken_52 (by decide) ?_
      cases hR
      exact hN5 _  (lv_sub hl [0, 1, 2] rfl)
  replace hR := q_n c2 hR
  by_cases c7 : (kinds_ x1.toNatClampNeg) = 1
  · replace hR := q_p c7 hR; refine lv_tableIn (tgt := 57) hx hb nd_Rules_isBroken_6 (by rw [c7]; decide) (by rw [c7]; decide) (by rw [c7]; rfl) (by decide) ?_
    refine lv_aload_n hx hb nd_Rules_isBroken_57 rfl (lv_at hl 2 rfl) ?_
    obtain ⟨r8, e8, hR⟩ := q_b1 hR
    refine k_rVJ (As := []) (rest := []) (r := r8) hx hb hml hown hts (cn_Interior_warmth l D ca qa2 qheatBooks qwaterBooks volume_ share_ heat_ water_ r8 e8) kc_Interior_warmth kv_Interior_warmth tt_533 ⟨by decide, by decide⟩ rfl rfl hP hK [2] rfl 0 rfl rfl rfl rfl hl.1 (Nat.le_of_ble_eq_true rfl) rfl nd_Rules_isBroken_58 ⟨Nat.zero_le _, Nat.zero_le _⟩ ?_
    refine lv_aload_n hx hb nd_Rules_isBroken_61 rfl (lv_at hl 0 rfl) ?_
    refine va_get (D := D) (ci := 5) (v := .ref qlevels) (C := nR_Rules) (T := nT_Rules) (N := 6) hx hb hts ni_Rules hown hK hP 0 rfl rfl 1 (by decide) (hts (.fieldLink nR_Rules 15 "RoomClimate$Rules" "levels" "[I") tt_176) (fun _ h9 => h9) rfl nd_Rules_isBroken_62 ?_
    refine lv_iload_n hx hb nd_Rules_isBroken_65 rfl (lv_at hl 1 rfl) ?_
    refine va_iald hx hb hK hP 3 0 rfl rfl h1 nd_Rules_isBroken_66 ?_
    refine lv_i2l hx hb nd_Rules_isBroken_67 rfl ?_
    refine W.lcmp hx hb nd_Rules_isBroken_68 ?_
    obtain ⟨j10_0, hJ10, hR⟩ := q_b1 hR
    have hN10 : ∀ (ls : Array Slot), lv_has ls 3 [(0, .ref qa0), (1, .int x1), (2, .ref qa2)] → W p l e rm_Rules_isBroken s m ar below meth c s.heap [] 0 0 Q (F0 m 77 ls [.int j10_0]) := by
      intro ls  hl
      obtain ⟨h11, hR⟩ := q_bz hR
      exact hret _ _ _ nd_Rules_isBroken_77 h11 (Option.some.inj hR)
    refine lv_if_ge (tgt := 76) hx hb nd_Rules_isBroken_69 (by decide) (fun c9 => ?_) (fun c9 => ?_)
    · have hR := q_p c9 hJ10
      refine lv_iconst (v := 0) hx hb nd_Rules_isBroken_76 (by decide) ?_
      cases hR
      exact hN10 _  (lv_sub hl [0, 1, 2] rfl)
    · have hR := q_n c9 hJ10
      refine lv_iconst (v := 1) hx hb nd_Rules_isBroken_72 (by decide) ?_
      refine lv_goto (tgt := 77) hx hb nd_Rules_isBroken_73 (by decide) ?_
      cases hR
      exact hN10 _  (lv_sub hl [0, 1, 2] rfl)
  replace hR := q_n c7 hR
  by_cases c12 : (kinds_ x1.toNatClampNeg) = 2
  · replace hR := q_p c12 hR; refine lv_tableIn (tgt := 78) hx hb nd_Rules_isBroken_6 (by rw [c12]; decide) (by rw [c12]; decide) (by rw [c12]; rfl) (by decide) ?_
    refine lv_aload_n hx hb nd_Rules_isBroken_78 rfl (lv_at hl 2 rfl) ?_
    obtain ⟨r13, e13, hR⟩ := q_b1 hR
    refine k_rVJ (As := []) (rest := []) (r := r13) hx hb hml hown hts (cn_Interior_moisture l D ca qa2 qheatBooks qwaterBooks volume_ share_ heat_ water_ r13 e13) kc_Interior_moisture kv_Interior_moisture tt_534 ⟨by decide, by decide⟩ rfl rfl hP hK [2] rfl 0 rfl rfl rfl rfl hl.1 (Nat.le_of_ble_eq_true rfl) rfl nd_Rules_isBroken_79 ⟨Nat.zero_le _, Nat.zero_le _⟩ ?_
    refine lv_aload_n hx hb nd_Rules_isBroken_82 rfl (lv_at hl 0 rfl) ?_
    refine va_get (D := D) (ci := 5) (v := .ref qlevels) (C := nR_Rules) (T := nT_Rules) (N := 6) hx hb hts ni_Rules hown hK hP 0 rfl rfl 1 (by decide) (hts (.fieldLink nR_Rules 15 "RoomClimate$Rules" "levels" "[I") tt_176) (fun _ h9 => h9) rfl nd_Rules_isBroken_83 ?_
    refine lv_iload_n hx hb nd_Rules_isBroken_86 rfl (lv_at hl 1 rfl) ?_
    refine va_iald hx hb hK hP 3 0 rfl rfl h1 nd_Rules_isBroken_87 ?_
    refine lv_i2l hx hb nd_Rules_isBroken_88 rfl ?_
    refine W.lcmp hx hb nd_Rules_isBroken_89 ?_
    obtain ⟨j15_0, hJ15, hR⟩ := q_b1 hR
    have hN15 : ∀ (ls : Array Slot), lv_has ls 3 [(0, .ref qa0), (1, .int x1), (2, .ref qa2)] → W p l e rm_Rules_isBroken s m ar below meth c s.heap [] 0 0 Q (F0 m 98 ls [.int j15_0]) := by
      intro ls  hl
      obtain ⟨h16, hR⟩ := q_bz hR
      exact hret _ _ _ nd_Rules_isBroken_98 h16 (Option.some.inj hR)
    refine lv_if_le (tgt := 97) hx hb nd_Rules_isBroken_90 (by decide) (fun c14 => ?_) (fun c14 => ?_)
    · have hR := q_p c14 hJ15
      refine lv_iconst (v := 0) hx hb nd_Rules_isBroken_97 (by decide) ?_
      cases hR
      exact hN15 _  (lv_sub hl [0, 1, 2] rfl)
    · have hR := q_n c14 hJ15
      refine lv_iconst (v := 1) hx hb nd_Rules_isBroken_93 (by decide) ?_
      refine lv_goto (tgt := 98) hx hb nd_Rules_isBroken_94 (by decide) ?_
      cases hR
      exact hN15 _  (lv_sub hl [0, 1, 2] rfl)
  replace hR := q_n c12 hR
  by_cases c17 : (kinds_ x1.toNatClampNeg) = 3
  · replace hR := q_p c17 hR; refine lv_tableIn (tgt := 99) hx hb nd_Rules_isBroken_6 (by rw [c17]; decide) (by rw [c17]; decide) (by rw [c17]; rfl) (by decide) ?_
    refine lv_aload_n hx hb nd_Rules_isBroken_99 rfl (lv_at hl 2 rfl) ?_
    obtain ⟨r18, e18, hR⟩ := q_b1 hR
    refine k_rVJ (As := []) (rest := []) (r := r18) hx hb hml hown hts (cn_Interior_moisture l D ca qa2 qheatBooks qwaterBooks volume_ share_ heat_ water_ r18 e18) kc_Interior_moisture kv_Interior_moisture tt_534 ⟨by decide, by decide⟩ rfl rfl hP hK [2] rfl 0 rfl rfl rfl rfl hl.1 (Nat.le_of_ble_eq_true rfl) rfl nd_Rules_isBroken_100 ⟨Nat.zero_le _, Nat.zero_le _⟩ ?_
    refine lv_aload_n hx hb nd_Rules_isBroken_103 rfl (lv_at hl 0 rfl) ?_
    refine va_get (D := D) (ci := 5) (v := .ref qlevels) (C := nR_Rules) (T := nT_Rules) (N := 6) hx hb hts ni_Rules hown hK hP 0 rfl rfl 1 (by decide) (hts (.fieldLink nR_Rules 15 "RoomClimate$Rules" "levels" "[I") tt_176) (fun _ h9 => h9) rfl nd_Rules_isBroken_104 ?_
    refine lv_iload_n hx hb nd_Rules_isBroken_107 rfl (lv_at hl 1 rfl) ?_
    refine va_iald hx hb hK hP 3 0 rfl rfl h1 nd_Rules_isBroken_108 ?_
    refine lv_i2l hx hb nd_Rules_isBroken_109 rfl ?_
    refine W.lcmp hx hb nd_Rules_isBroken_110 ?_
    obtain ⟨j20_0, hJ20, hR⟩ := q_b1 hR
    have hN20 : ∀ (ls : Array Slot), lv_has ls 3 [(0, .ref qa0), (1, .int x1), (2, .ref qa2)] → W p l e rm_Rules_isBroken s m ar below meth c s.heap [] 0 0 Q (F0 m 119 ls [.int j20_0]) := by
      intro ls  hl
      obtain ⟨h21, hR⟩ := q_bz hR
      exact hret _ _ _ nd_Rules_isBroken_119 h21 (Option.some.inj hR)
    refine lv_if_ge (tgt := 118) hx hb nd_Rules_isBroken_111 (by decide) (fun c19 => ?_) (fun c19 => ?_)
    · have hR := q_p c19 hJ20
      refine lv_iconst (v := 0) hx hb nd_Rules_isBroken_118 (by decide) ?_
      cases hR
      exact hN20 _  (lv_sub hl [0, 1, 2] rfl)
    · have hR := q_n c19 hJ20
      refine lv_iconst (v := 1) hx hb nd_Rules_isBroken_114 (by decide) ?_
      refine lv_goto (tgt := 119) hx hb nd_Rules_isBroken_115 (by decide) ?_
      cases hR
      exact hN20 _  (lv_sub hl [0, 1, 2] rfl)
  replace hR := q_n c17 hR
  refine lv_tableOut (tgt := 120) hx hb nd_Rules_isBroken_6 (k_out4 0 c2 c7 c12 c17) (by decide) ?_
  refine lv_iconst (v := 0) hx hb nd_Rules_isBroken_120 (by decide) ?_
  exact hret _ _ _ nd_Rules_isBroken_121 (q_bzn (Or.inl rfl)) (Option.some.inj hR)
def rm_Rules_isHeld : Room := { frames := 0, cells := 0, slots := 0, locals := 0 }
theorem kc_Rules_isHeld : k_cal nY_Rules_isHeld nC_Rules_isHeld 4 (some .boolean) 2 := ⟨tt_538, tt_8, by decide +kernel⟩
theorem kv_Rules_isHeld : k_vir nY_Rules_isHeld := ⟨tt_537, tp_4⟩
set_option maxHeartbeats 4000000 in
set_option maxRecDepth 100000 in
theorem cn_Rules_isHeld (l : Launch) (D : va_G) (ca : Nat → ClassId) (qa0 qkinds qlevels qholds qalarmCounts qalarmHours qalarmHours0 qalarmHours1 qalarmHours2 qalarmHours3 : Nat) (size_ : Int32) (alarmCounts_ : Nat → Int32) (alarmHours0_ : Nat → Int32) (holds_ : Nat → Int32) (alarmHours1_ : Nat → Int32) (alarmHours2_ : Nat → Int32) (alarmHours3_ : Nat → Int32) (x1 : Int32) (x2 : Int32) (R0 : Int32) (hR : fn_Rules_isHeld alarmCounts_ alarmHours0_ holds_ alarmHours1_ alarmHours2_ alarmHours3_ x1 x2 = some R0) : Met l nY_Rules_isHeld (Cond.code nY_Rules_isHeld nC_Rules_isHeld 4 (some .boolean) :: TT) rm_Rules_isHeld (rd_P [.ref qa0, .int x1, .int x2] D ca [oc_Rules qa0 qkinds qlevels qholds qalarmCounts qalarmHours size_, aI qalarmCounts ca 4 alarmCounts_, aG qalarmHours ca (rq4 qalarmHours0 qalarmHours1 qalarmHours2 qalarmHours3), aI qalarmHours0 ca 300 alarmHours0_, aI qholds ca 4 holds_, aI qalarmHours1 ca 300 alarmHours1_, aI qalarmHours2 ca 300 alarmHours2_, aI qalarmHours3 ca 300 alarmHours3_]) (vp_Si (fun x => x = R0)) 0 0 (fun _ => False) := by
  refine rd_ofZ (by decide +kernel) (Nat.le_of_ble_eq_true rfl) ?_
  intro p e s m below meth c Q ar ls hx hb hml hts hown hP hK hl hret
  have hown : s.vm.findClass nR_Rules = some m.cls := hown
  have hl : lv_has ls 4 [(0, .ref qa0), (1, .int x1), (2, .int x2)] := hl
  unfold fn_Rules_isHeld at hR
  refine lv_aload_n hx hb nd_Rules_isHeld_0 rfl (lv_at hl 0 rfl) ?_
  refine va_get (D := D) (ci := 5) (v := .ref qalarmCounts) (C := nR_Rules) (T := nT_Rules) (N := 6) hx hb hts ni_Rules hown hK hP 0 rfl rfl 3 (by decide) (hts (.fieldLink nR_Rules 21 "RoomClimate$Rules" "alarmCounts" "[I") tt_178) (fun _ h9 => h9) rfl nd_Rules_isHeld_1 ?_
  refine lv_iload_n hx hb nd_Rules_isHeld_4 rfl (lv_at hl 1 rfl) ?_
  obtain ⟨h1, hR⟩ := q_ix hR
  refine va_iald hx hb hK hP 1 0 rfl rfl h1 nd_Rules_isHeld_5 ?_
  refine lv_istore_n (lv' := [(3, .int (alarmCounts_ x1.toNatClampNeg)), (0, .ref qa0), (1, .int x1), (2, .int x2)]) hx hb nd_Rules_isHeld_6 rfl hl (by decide) rfl (fun ls hl => ?_)
  refine lv_iload_n hx hb nd_Rules_isHeld_7 rfl (lv_at hl 0 rfl) ?_
  refine lv_if_le (tgt := 36) hx hb nd_Rules_isHeld_8 (by decide) (fun c2 => ?_) (fun c2 => ?_)
  · replace hR := q_p c2 hR
    refine lv_iconst (v := 0) hx hb nd_Rules_isHeld_36 (by decide) ?_
    exact hret _ _ _ nd_Rules_isHeld_37 (q_bzn (Or.inl rfl)) (Option.some.inj hR)
  · replace hR := q_n c2 hR
    refine lv_iload_n hx hb nd_Rules_isHeld_11 rfl (lv_at hl 3 rfl) ?_
    refine lv_aload_n hx hb nd_Rules_isHeld_12 rfl (lv_at hl 1 rfl) ?_
    refine va_get (D := D) (ci := 5) (v := .ref qalarmHours) (C := nR_Rules) (T := nT_Rules) (N := 6) hx hb hts ni_Rules hown hK hP 0 rfl rfl 4 (by decide) (hts (.fieldLink nR_Rules 26 "RoomClimate$Rules" "alarmHours" "[[I") tt_180) (fun _ h9 => h9) rfl nd_Rules_isHeld_13 ?_
    refine lv_iload_n hx hb nd_Rules_isHeld_16 rfl (lv_at hl 2 rfl) ?_
    by_cases c3 : x1 = 0
    · replace hR := q_p c3 hR
      refine k_aldqA (k := 0) hx hb hK hP 2 4 rfl rfl c3 (by decide) (by decide) rfl nd_Rules_isHeld_17 ?_
      refine lv_iload_n hx hb nd_Rules_isHeld_18 rfl (lv_at hl 0 rfl) ?_
      refine lv_iconst (v := 1) hx hb nd_Rules_isHeld_19 (by decide) ?_
      refine lv_isub hx hb nd_Rules_isHeld_20 ?_
      obtain ⟨h4, hR⟩ := q_ix hR
      refine va_iald hx hb hK hP 3 0 rfl rfl h4 nd_Rules_isHeld_21 ?_
      refine lv_isub hx hb nd_Rules_isHeld_22 ?_
      refine lv_aload_n hx hb nd_Rules_isHeld_23 rfl (lv_at hl 1 rfl) ?_
      refine va_get (D := D) (ci := 5) (v := .ref qholds) (C := nR_Rules) (T := nT_Rules) (N := 6) hx hb hts ni_Rules hown hK hP 0 rfl rfl 2 (by decide) (hts (.fieldLink nR_Rules 18 "RoomClimate$Rules" "holds" "[I") tt_177) (fun _ h9 => h9) rfl nd_Rules_isHeld_24 ?_
      refine lv_iload_n hx hb nd_Rules_isHeld_27 rfl (lv_at hl 2 rfl) ?_
      refine va_iald hx hb hK hP 4 0 rfl rfl h1 nd_Rules_isHeld_28 ?_
      obtain ⟨j6_0, hJ6, hR⟩ := q_b1 hR
      have hN6 : ∀ (ls : Array Slot), lv_has ls 4 [(0, .ref qa0), (1, .int x1), (2, .int x2), (3, .int (alarmCounts_ x1.toNatClampNeg))] → W p l e rm_Rules_isHeld s m ar below meth c s.heap [] 0 0 Q (F0 m 37 ls [.int j6_0]) := by
        intro ls  hl
        obtain ⟨h7, hR⟩ := q_bz hR
        exact hret _ _ _ nd_Rules_isHeld_37 h7 (Option.some.inj hR)
      refine lv_icmp_ge (tgt := 36) hx hb nd_Rules_isHeld_29 (by decide) (fun c5 => ?_) (fun c5 => ?_)
      · have hR := q_p c5 hJ6
        refine lv_iconst (v := 0) hx hb nd_Rules_isHeld_36 (by decide) ?_
        cases hR
        exact hN6 _  (lv_sub hl [1, 2, 3, 0] rfl)
      · have hR := q_n c5 hJ6
        refine lv_iconst (v := 1) hx hb nd_Rules_isHeld_32 (by decide) ?_
        refine lv_goto (tgt := 37) hx hb nd_Rules_isHeld_33 (by decide) ?_
        cases hR
        exact hN6 _  (lv_sub hl [1, 2, 3, 0] rfl)
    replace hR := q_n c3 hR
    by_cases c8 : x1 = 1
    · replace hR := q_p c8 hR
      refine k_aldqA (k := 1) hx hb hK hP 2 4 rfl rfl c8 (by decide) (by decide) rfl nd_Rules_isHeld_17 ?_
      refine lv_iload_n hx hb nd_Rules_isHeld_18 rfl (lv_at hl 0 rfl) ?_
      refine lv_iconst (v := 1) hx hb nd_Rules_isHeld_19 (by decide) ?_
      refine lv_isub hx hb nd_Rules_isHeld_20 ?_
      obtain ⟨h9, hR⟩ := q_ix hR
      refine va_iald hx hb hK hP 5 0 rfl rfl h9 nd_Rules_isHeld_21 ?_
      refine lv_isub hx hb nd_Rules_isHeld_22 ?_
      refine lv_aload_n hx hb nd_Rules_isHeld_23 rfl (lv_at hl 1 rfl) ?_
      refine va_get (D := D) (ci := 5) (v := .ref qholds) (C := nR_Rules) (T := nT_Rules) (N := 6) hx hb hts ni_Rules hown hK hP 0 rfl rfl 2 (by decide) (hts (.fieldLink nR_Rules 18 "RoomClimate$Rules" "holds" "[I") tt_177) (fun _ h9 => h9) rfl nd_Rules_isHeld_24 ?_
      refine lv_iload_n hx hb nd_Rules_isHeld_27 rfl (lv_at hl 2 rfl) ?_
      refine va_iald hx hb hK hP 4 0 rfl rfl h1 nd_Rules_isHeld_28 ?_
      obtain ⟨j11_0, hJ11, hR⟩ := q_b1 hR
      have hN11 : ∀ (ls : Array Slot), lv_has ls 4 [(0, .ref qa0), (1, .int x1), (2, .int x2), (3, .int (alarmCounts_ x1.toNatClampNeg))] → W p l e rm_Rules_isHeld s m ar below meth c s.heap [] 0 0 Q (F0 m 37 ls [.int j11_0]) := by
        intro ls  hl
        obtain ⟨h12, hR⟩ := q_bz hR
        exact hret _ _ _ nd_Rules_isHeld_37 h12 (Option.some.inj hR)
      refine lv_icmp_ge (tgt := 36) hx hb nd_Rules_isHeld_29 (by decide) (fun c10 => ?_) (fun c10 => ?_)
      · have hR := q_p c10 hJ11
        refine lv_iconst (v := 0) hx hb nd_Rules_isHeld_36 (by decide) ?_
        cases hR
        exact hN11 _  (lv_sub hl [1, 2, 3, 0] rfl)
      · have hR := q_n c10 hJ11
        refine lv_iconst (v := 1) hx hb nd_Rules_isHeld_32 (by decide) ?_
        refine lv_goto (tgt := 37) hx hb nd_Rules_isHeld_33 (by decide) ?_
        cases hR
        exact hN11 _  (lv_sub hl [1, 2, 3, 0] rfl)
    replace hR := q_n c8 hR
    by_cases c13 : x1 = 2
    · replace hR := q_p c13 hR
      refine k_aldqA (k := 2) hx hb hK hP 2 4 rfl rfl c13 (by decide) (by decide) rfl nd_Rules_isHeld_17 ?_
      refine lv_iload_n hx hb nd_Rules_isHeld_18 rfl (lv_at hl 0 rfl) ?_
      refine lv_iconst (v := 1) hx hb nd_Rules_isHeld_19 (by decide) ?_
      refine lv_isub hx hb nd_Rules_isHeld_20 ?_
      obtain ⟨h14, hR⟩ := q_ix hR
      refine va_iald hx hb hK hP 6 0 rfl rfl h14 nd_Rules_isHeld_21 ?_
      refine lv_isub hx hb nd_Rules_isHeld_22 ?_
      refine lv_aload_n hx hb nd_Rules_isHeld_23 rfl (lv_at hl 1 rfl) ?_
      refine va_get (D := D) (ci := 5) (v := .ref qholds) (C := nR_Rules) (T := nT_Rules) (N := 6) hx hb hts ni_Rules hown hK hP 0 rfl rfl 2 (by decide) (hts (.fieldLink nR_Rules 18 "RoomClimate$Rules" "holds" "[I") tt_177) (fun _ h9 => h9) rfl nd_Rules_isHeld_24 ?_
      refine lv_iload_n hx hb nd_Rules_isHeld_27 rfl (lv_at hl 2 rfl) ?_
      refine va_iald hx hb hK hP 4 0 rfl rfl h1 nd_Rules_isHeld_28 ?_
      obtain ⟨j16_0, hJ16, hR⟩ := q_b1 hR
      have hN16 : ∀ (ls : Array Slot), lv_has ls 4 [(0, .ref qa0), (1, .int x1), (2, .int x2), (3, .int (alarmCounts_ x1.toNatClampNeg))] → W p l e rm_Rules_isHeld s m ar below meth c s.heap [] 0 0 Q (F0 m 37 ls [.int j16_0]) := by
        intro ls  hl
        obtain ⟨h17, hR⟩ := q_bz hR
        exact hret _ _ _ nd_Rules_isHeld_37 h17 (Option.some.inj hR)
      refine lv_icmp_ge (tgt := 36) hx hb nd_Rules_isHeld_29 (by decide) (fun c15 => ?_) (fun c15 => ?_)
      · have hR := q_p c15 hJ16
        refine lv_iconst (v := 0) hx hb nd_Rules_isHeld_36 (by decide) ?_
        cases hR
        exact hN16 _  (lv_sub hl [1, 2, 3, 0] rfl)
      · have hR := q_n c15 hJ16
        refine lv_iconst (v := 1) hx hb nd_Rules_isHeld_32 (by decide) ?_
        refine lv_goto (tgt := 37) hx hb nd_Rules_isHeld_33 (by decide) ?_
        cases hR
        exact hN16 _  (lv_sub hl [1, 2, 3, 0] rfl)
    replace hR := q_n c13 hR
    by_cases c18 : x1 = 3
    · replace hR := q_p c18 hR
      refine k_aldqA (k := 3) hx hb hK hP 2 4 rfl rfl c18 (by decide) (by decide) rfl nd_Rules_isHeld_17 ?_
      refine lv_iload_n hx hb nd_Rules_isHeld_18 rfl (lv_at hl 0 rfl) ?_
      refine lv_iconst (v := 1) hx hb nd_Rules_isHeld_19 (by decide) ?_
      refine lv_isub hx hb nd_Rules_isHeld_20 ?_
      obtain ⟨h19, hR⟩ := q_ix hR
      refine va_iald hx hb hK hP 7 0 rfl rfl h19 nd_Rules_isHeld_21 ?_
      refine lv_isub hx hb nd_Rules_isHeld_22 ?_
      refine lv_aload_n hx hb nd_Rules_isHeld_23 rfl (lv_at hl 1 rfl) ?_
      refine va_get (D := D) (ci := 5) (v := .ref qholds) (C := nR_Rules) (T := nT_Rules) (N := 6) hx hb hts ni_Rules hown hK hP 0 rfl rfl 2 (by decide) (hts (.fieldLink nR_Rules 18 "RoomClimate$Rules" "holds" "[I") tt_177) (fun _ h9 => h9) rfl nd_Rules_isHeld_24 ?_
      refine lv_iload_n hx hb nd_Rules_isHeld_27 rfl (lv_at hl 2 rfl) ?_
      refine va_iald hx hb hK hP 4 0 rfl rfl h1 nd_Rules_isHeld_28 ?_
      obtain ⟨j21_0, hJ21, hR⟩ := q_b1 hR
      have hN21 : ∀ (ls : Array Slot), lv_has ls 4 [(0, .ref qa0), (1, .int x1), (2, .int x2), (3, .int (alarmCounts_ x1.toNatClampNeg))] → W p l e rm_Rules_isHeld s m ar below meth c s.heap [] 0 0 Q (F0 m 37 ls [.int j21_0]) := by
        intro ls  hl
        obtain ⟨h22, hR⟩ := q_bz hR
        exact hret _ _ _ nd_Rules_isHeld_37 h22 (Option.some.inj hR)
      refine lv_icmp_ge (tgt := 36) hx hb nd_Rules_isHeld_29 (by decide) (fun c20 => ?_) (fun c20 => ?_)
      · have hR := q_p c20 hJ21
        refine lv_iconst (v := 0) hx hb nd_Rules_isHeld_36 (by decide) ?_
        cases hR
        exact hN21 _  (lv_sub hl [1, 2, 3, 0] rfl)
      · have hR := q_n c20 hJ21
        refine lv_iconst (v := 1) hx hb nd_Rules_isHeld_32 (by decide) ?_
        refine lv_goto (tgt := 37) hx hb nd_Rules_isHeld_33 (by decide) ?_
        cases hR
        exact hN21 _  (lv_sub hl [1, 2, 3, 0] rfl)
    replace hR := q_n c18 hR
    exact nomatch hR
def rm_Rules_tell : Room := { frames := 4, cells := 0, slots := 0, locals := 90 }
theorem kc_Rules_tell : k_cal nY_Rules_tell nC_Rules_tell 4 none 2 := ⟨tt_528, tt_8, by decide +kernel⟩
theorem kv_Rules_tell : k_vir nY_Rules_tell := ⟨tt_526, tt_527⟩
set_option maxHeartbeats 4000000 in
set_option maxRecDepth 100000 in
theorem cn_Rules_tell (l : Launch) (D : va_G) (ca : Nat → ClassId) (qa0 qkinds qlevels qholds qalarmCounts qalarmHours qa2 qheatBooks qwaterBooks qalarmHours0 qalarmHours1 qalarmHours2 qalarmHours3 : Nat) (size_ : Int32) (kinds_ : Nat → Int32) (volume_ : Int32) (share_ : Int32) (heat_ : Int64) (water_ : Int64) (levels_ : Nat → Int32) (alarmCounts_ : Nat → Int32) (alarmHours0_ : Nat → Int32) (holds_ : Nat → Int32) (alarmHours1_ : Nat → Int32) (alarmHours2_ : Nat → Int32) (alarmHours3_ : Nat → Int32) (x1 : Int32) (R0 : Nat → Int32) (R1 : Nat → Int32) (R2 : Nat → Int32) (R3 : Nat → Int32) (R4 : Nat → Int32) (hR : fn_Rules_tell size_ kinds_ volume_ heat_ water_ levels_ alarmCounts_ alarmHours0_ holds_ alarmHours1_ alarmHours2_ alarmHours3_ x1 = some (R0, R1, R2, R3, R4)) (sz : Nat) : Met l nY_Rules_tell (Cond.code nY_Rules_tell nC_Rules_tell 4 none :: TT) rm_Rules_tell (wr_P [.ref qa0, .int x1, .ref qa2] D ca [oc_Rules qa0 qkinds qlevels qholds qalarmCounts qalarmHours size_, aI qkinds ca 4 kinds_, oc_Interior qa2 qheatBooks qwaterBooks volume_ share_ heat_ water_, aI qlevels ca 4 levels_, aI qalarmCounts ca 4 alarmCounts_, aG qalarmHours ca (rq4 qalarmHours0 qalarmHours1 qalarmHours2 qalarmHours3), aI qalarmHours0 ca 300 alarmHours0_, aI qholds ca 4 holds_, aI qalarmHours1 ca 300 alarmHours1_, aI qalarmHours2 ca 300 alarmHours2_, aI qalarmHours3 ca 300 alarmHours3_] sz) (va_Qv (fun (_ : Unit) => True) (wr_B D [oc_Rules qa0 qkinds qlevels qholds qalarmCounts qalarmHours size_, aI qkinds ca 4 kinds_, oc_Interior qa2 qheatBooks qwaterBooks volume_ share_ heat_ water_, aI qlevels ca 4 levels_, aI qalarmCounts ca 4 alarmCounts_, aG qalarmHours ca (rq4 qalarmHours0 qalarmHours1 qalarmHours2 qalarmHours3), aI qalarmHours0 ca 300 alarmHours0_, aI qholds ca 4 holds_, aI qalarmHours1 ca 300 alarmHours1_, aI qalarmHours2 ca 300 alarmHours2_, aI qalarmHours3 ca 300 alarmHours3_] sz [oc_Rules qa0 qkinds qlevels qholds qalarmCounts qalarmHours size_, aI qkinds ca 4 kinds_, oc_Interior qa2 qheatBooks qwaterBooks volume_ share_ heat_ water_, aI qlevels ca 4 levels_, aI qalarmCounts ca 4 R1, aG qalarmHours ca (rq4 qalarmHours0 qalarmHours1 qalarmHours2 qalarmHours3), aI qalarmHours0 ca 300 R0, aI qholds ca 4 holds_, aI qalarmHours1 ca 300 R2, aI qalarmHours2 ca 300 R3, aI qalarmHours3 ca 300 R4]) (va_A [oc_Rules qa0 qkinds qlevels qholds qalarmCounts qalarmHours size_, aI qkinds ca 4 kinds_, oc_Interior qa2 qheatBooks qwaterBooks volume_ share_ heat_ water_, aI qlevels ca 4 levels_, aI qalarmCounts ca 4 alarmCounts_, aG qalarmHours ca (rq4 qalarmHours0 qalarmHours1 qalarmHours2 qalarmHours3), aI qalarmHours0 ca 300 alarmHours0_, aI qholds ca 4 holds_, aI qalarmHours1 ca 300 alarmHours1_, aI qalarmHours2 ca 300 alarmHours2_, aI qalarmHours3 ca 300 alarmHours3_] sz)) 0 0 (va_A [oc_Rules qa0 qkinds qlevels qholds qalarmCounts qalarmHours size_, aI qkinds ca 4 kinds_, oc_Interior qa2 qheatBooks qwaterBooks volume_ share_ heat_ water_, aI qlevels ca 4 levels_, aI qalarmCounts ca 4 alarmCounts_, aG qalarmHours ca (rq4 qalarmHours0 qalarmHours1 qalarmHours2 qalarmHours3), aI qalarmHours0 ca 300 alarmHours0_, aI qholds ca 4 holds_, aI qalarmHours1 ca 300 alarmHours1_, aI qalarmHours2 ca 300 alarmHours2_, aI qalarmHours3 ca 300 alarmHours3_] sz) := by
  refine wr_ofV (R := (R0, R1, R2, R3, R4)) (w1 := fun r : (Nat → Int32) × (Nat → Int32) × (Nat → Int32) × (Nat → Int32) × (Nat → Int32) => [oc_Rules qa0 qkinds qlevels qholds qalarmCounts qalarmHours size_, aI qkinds ca 4 kinds_, oc_Interior qa2 qheatBooks qwaterBooks volume_ share_ heat_ water_, aI qlevels ca 4 levels_, aI qalarmCounts ca 4 r.2.1, aG qalarmHours ca (rq4 qalarmHours0 qalarmHours1 qalarmHours2 qalarmHours3), aI qalarmHours0 ca 300 r.1, aI qholds ca 4 holds_, aI qalarmHours1 ca 300 r.2.2.1, aI qalarmHours2 ca 300 r.2.2.2.1, aI qalarmHours3 ca 300 r.2.2.2.2]) (by decide +kernel) (Nat.le_of_ble_eq_true rfl) ?_
  intro p e s m below meth c Q ar ls hx hb hml hts hown hP hK A hD hA hl hret
  have hS : va_S A s.heap s.heap [] := va_S.rf
  have hown : s.vm.findClass nR_Rules = some m.cls := hown
  have hl : lv_has ls 4 [(0, .ref qa0), (1, .int x1), (2, .ref qa2)] := hl
  unfold fn_Rules_tell at hR
  refine lv_iconst (v := 0) hx hb nd_Rules_tell_0 (by decide) ?_
  refine lv_istore_n (lv' := [(3, .int (0 : Int32)), (0, .ref qa0), (1, .int x1), (2, .ref qa2)]) hx hb nd_Rules_tell_1 rfl hl (by decide) rfl (fun ls hl => ?_)
  have hL2 : ∀ (n2 : Nat) (i3_2 : Int32) (alarmHours0_L2 : Nat → Int32) (alarmCounts_L2 : Nat → Int32) (alarmHours1_L2 : Nat → Int32) (alarmHours2_L2 : Nat → Int32) (alarmHours3_L2 : Nat → Int32) (H : Heap) (locs : List Loc) (ls : Array Slot), fn_Rules_tell_L2 x1 size_ kinds_ volume_ heat_ water_ levels_ holds_ n2 i3_2 alarmHours0_L2 alarmCounts_L2 alarmHours1_L2 alarmHours2_L2 alarmHours3_L2 = some (R0, R1, R2, R3, R4) → va_P D vwCl [oc_Rules qa0 qkinds qlevels qholds qalarmCounts qalarmHours size_, aI qkinds ca 4 kinds_, oc_Interior qa2 qheatBooks qwaterBooks volume_ share_ heat_ water_, aI qlevels ca 4 levels_, aI qalarmCounts ca 4 alarmCounts_L2, aG qalarmHours ca (rq4 qalarmHours0 qalarmHours1 qalarmHours2 qalarmHours3), aI qalarmHours0 ca 300 alarmHours0_L2, aI qholds ca 4 holds_, aI qalarmHours1 ca 300 alarmHours1_L2, aI qalarmHours2 ca 300 alarmHours2_L2, aI qalarmHours3 ca 300 alarmHours3_L2] H → va_D A [oc_Rules qa0 qkinds qlevels qholds qalarmCounts qalarmHours size_, aI qkinds ca 4 kinds_, oc_Interior qa2 qheatBooks qwaterBooks volume_ share_ heat_ water_, aI qlevels ca 4 levels_, aI qalarmCounts ca 4 alarmCounts_L2, aG qalarmHours ca (rq4 qalarmHours0 qalarmHours1 qalarmHours2 qalarmHours3), aI qalarmHours0 ca 300 alarmHours0_L2, aI qholds ca 4 holds_, aI qalarmHours1 ca 300 alarmHours1_L2, aI qalarmHours2 ca 300 alarmHours2_L2, aI qalarmHours3 ca 300 alarmHours3_L2] → va_S A s.heap H locs → lv_has ls 4 [(0, .ref qa0), (1, .int x1), (2, .ref qa2), (3, .int i3_2)] → W p l e rm_Rules_tell s m ar below meth c H locs 0 0 Q (F0 m 2 ls []) := by
    intro n2
    induction n2 with
    | zero => intro i3_2 alarmHours0_L2 alarmCounts_L2 alarmHours1_L2 alarmHours2_L2 alarmHours3_L2 H locs ls hR; exact nomatch hR
    | succ n2 ih2 =>
      intro i3_2 alarmHours0_L2 alarmCounts_L2 alarmHours1_L2 alarmHours2_L2 alarmHours3_L2 H locs ls hR hP hD hS hl
      rw [fn_Rules_tell_L2] at hR
      refine lv_iload_n hx hb nd_Rules_tell_2 rfl (lv_at hl 3 rfl) ?_
      refine lv_aload_n hx hb nd_Rules_tell_3 rfl (lv_at hl 0 rfl) ?_
      refine va_get (D := D) (ci := 5) (v := .int size_) (C := nR_Rules) (T := nT_Rules) (N := 6) hx hb hts ni_Rules hown hK hP 0 rfl rfl 5 (by decide) (hts (.fieldLink nR_Rules 29 "RoomClimate$Rules" "size" "I") tt_182) (fun _ h9 => h9) rfl nd_Rules_tell_4 ?_
      refine lv_icmp_ge (tgt := 58) hx hb nd_Rules_tell_7 (by decide) (fun c1 => ?_) (fun c1 => ?_)
      · replace hR := q_p c1 hR
        exact hret (alarmHours0_L2, alarmCounts_L2, alarmHours1_L2, alarmHours2_L2, alarmHours3_L2) _ _ _ _ nd_Rules_tell_58 hR hP hD hS
      · replace hR := q_n c1 hR
        refine lv_aload_n hx hb nd_Rules_tell_10 rfl (lv_at hl 0 rfl) ?_
        refine lv_iload_n hx hb nd_Rules_tell_11 rfl (lv_at hl 3 rfl) ?_
        refine lv_aload_n hx hb nd_Rules_tell_12 rfl (lv_at hl 2 rfl) ?_
        obtain ⟨r2, e2, hR⟩ := q_b1 hR
        refine k_rVI (As := [.int i3_2, .ref qa2]) (rest := []) (r := r2) hx hb hml hown hts (cn_Rules_isBroken l D ca qa0 qkinds qlevels qholds qalarmCounts qalarmHours qa2 qheatBooks qwaterBooks size_ kinds_ volume_ share_ heat_ water_ levels_ i3_2 r2 e2) kc_Rules_isBroken kv_Rules_isBroken tt_529 ⟨by decide, by decide⟩ rfl rfl hP hK [0, 1, 2, 3] rfl 0 rfl rfl rfl rfl hl.1 (Nat.le_of_ble_eq_true rfl) rfl nd_Rules_tell_13 ⟨Nat.zero_le _, Nat.zero_le _⟩ ?_
        refine lv_if_eq (tgt := 52) hx hb nd_Rules_tell_16 (by decide) (fun c3 => ?_) (fun c3 => ?_)
        · replace hR := q_p c3 hR
          refine lv_iinc (v := i3_2 + 1) (lv' := [(3, .int (i3_2 + 1)), (0, .ref qa0), (1, .int x1), (2, .ref qa2)]) hx hb nd_Rules_tell_52 hl (k := 3) rfl (by first | rfl | decide) (by decide) rfl (fun ls hl => ?_)
          refine lv_goto (tgt := 2) hx hb nd_Rules_tell_55 (by decide) ?_
          exact ih2 (i3_2 + 1) alarmHours0_L2 alarmCounts_L2 alarmHours1_L2 alarmHours2_L2 alarmHours3_L2 _ _ _ hR hP hD hS (lv_sub hl [1, 2, 3, 0] rfl)
        · replace hR := q_n c3 hR
          refine lv_aload_n hx hb nd_Rules_tell_19 rfl (lv_at hl 0 rfl) ?_
          refine lv_iload_n hx hb nd_Rules_tell_20 rfl (lv_at hl 3 rfl) ?_
          refine lv_iload_n hx hb nd_Rules_tell_21 rfl (lv_at hl 1 rfl) ?_
          obtain ⟨r4, e4, hR⟩ := q_b1 hR
          refine k_rVI (As := [.int i3_2, .int x1]) (rest := []) (r := r4) hx hb hml hown hts (cn_Rules_isHeld l D ca qa0 qkinds qlevels qholds qalarmCounts qalarmHours qalarmHours0 qalarmHours1 qalarmHours2 qalarmHours3 size_ alarmCounts_L2 alarmHours0_L2 holds_ alarmHours1_L2 alarmHours2_L2 alarmHours3_L2 i3_2 x1 r4 e4) kc_Rules_isHeld kv_Rules_isHeld tt_535 ⟨by decide, by decide⟩ rfl rfl hP hK [0, 4, 5, 6, 7, 8, 9, 10] rfl 0 rfl rfl rfl rfl hl.1 (Nat.le_of_ble_eq_true rfl) rfl nd_Rules_tell_22 ⟨Nat.zero_le _, Nat.zero_le _⟩ ?_
          refine lv_if_ne (tgt := 52) hx hb nd_Rules_tell_25 (by decide) (fun c5 => ?_) (fun c5 => ?_)
          · replace hR := q_n c5 hR
            refine lv_iinc (v := i3_2 + 1) (lv' := [(3, .int (i3_2 + 1)), (0, .ref qa0), (1, .int x1), (2, .ref qa2)]) hx hb nd_Rules_tell_52 hl (k := 3) rfl (by first | rfl | decide) (by decide) rfl (fun ls hl => ?_)
            refine lv_goto (tgt := 2) hx hb nd_Rules_tell_55 (by decide) ?_
            exact ih2 (i3_2 + 1) alarmHours0_L2 alarmCounts_L2 alarmHours1_L2 alarmHours2_L2 alarmHours3_L2 _ _ _ hR hP hD hS (lv_sub hl [1, 2, 3, 0] rfl)
          · replace hR := q_p c5 hR
            refine lv_aload_n hx hb nd_Rules_tell_28 rfl (lv_at hl 0 rfl) ?_
            refine va_get (D := D) (ci := 5) (v := .ref qalarmHours) (C := nR_Rules) (T := nT_Rules) (N := 6) hx hb hts ni_Rules hown hK hP 0 rfl rfl 4 (by decide) (hts (.fieldLink nR_Rules 26 "RoomClimate$Rules" "alarmHours" "[[I") tt_180) (fun _ h9 => h9) rfl nd_Rules_tell_29 ?_
            refine lv_iload_n hx hb nd_Rules_tell_32 rfl (lv_at hl 3 rfl) ?_
            by_cases c6 : i3_2 = 0
            · replace hR := q_p c6 hR
              refine k_aldqA (k := 0) hx hb hK hP 5 4 rfl rfl c6 (by decide) (by decide) rfl nd_Rules_tell_33 ?_
              refine lv_aload_n hx hb nd_Rules_tell_34 rfl (lv_at hl 0 rfl) ?_
              refine va_get (D := D) (ci := 5) (v := .ref qalarmCounts) (C := nR_Rules) (T := nT_Rules) (N := 6) hx hb hts ni_Rules hown hK hP 0 rfl rfl 3 (by decide) (hts (.fieldLink nR_Rules 21 "RoomClimate$Rules" "alarmCounts" "[I") tt_178) (fun _ h9 => h9) rfl nd_Rules_tell_35 ?_
              refine lv_iload_n hx hb nd_Rules_tell_38 rfl (lv_at hl 3 rfl) ?_
              obtain ⟨h7, hR⟩ := q_ix hR
              refine va_iald hx hb hK hP 4 0 rfl rfl h7 nd_Rules_tell_39 ?_
              refine lv_iload_n hx hb nd_Rules_tell_40 rfl (lv_at hl 1 rfl) ?_
              obtain ⟨h8, hR⟩ := q_ix hR
              refine va_iast hx hb hK hP hD hS 6 0 rfl rfl h8 nd_Rules_tell_41 (fun H locs hP hD hS => ?_)
              have hP : va_P D vwCl [oc_Rules qa0 qkinds qlevels qholds qalarmCounts qalarmHours size_, aI qkinds ca 4 kinds_, oc_Interior qa2 qheatBooks qwaterBooks volume_ share_ heat_ water_, aI qlevels ca 4 levels_, aI qalarmCounts ca 4 alarmCounts_L2, aG qalarmHours ca (rq4 qalarmHours0 qalarmHours1 qalarmHours2 qalarmHours3), aI qalarmHours0 ca 300 (upd alarmHours0_L2 (alarmCounts_L2 i3_2.toNatClampNeg).toNatClampNeg x1), aI qholds ca 4 holds_, aI qalarmHours1 ca 300 alarmHours1_L2, aI qalarmHours2 ca 300 alarmHours2_L2, aI qalarmHours3 ca 300 alarmHours3_L2] H := hP
              have hD : va_D A [oc_Rules qa0 qkinds qlevels qholds qalarmCounts qalarmHours size_, aI qkinds ca 4 kinds_, oc_Interior qa2 qheatBooks qwaterBooks volume_ share_ heat_ water_, aI qlevels ca 4 levels_, aI qalarmCounts ca 4 alarmCounts_L2, aG qalarmHours ca (rq4 qalarmHours0 qalarmHours1 qalarmHours2 qalarmHours3), aI qalarmHours0 ca 300 (upd alarmHours0_L2 (alarmCounts_L2 i3_2.toNatClampNeg).toNatClampNeg x1), aI qholds ca 4 holds_, aI qalarmHours1 ca 300 alarmHours1_L2, aI qalarmHours2 ca 300 alarmHours2_L2, aI qalarmHours3 ca 300 alarmHours3_L2] := hD
              refine lv_aload_n hx hb nd_Rules_tell_42 rfl (lv_at hl 0 rfl) ?_
              refine va_get (D := D) (ci := 5) (v := .ref qalarmCounts) (C := nR_Rules) (T := nT_Rules) (N := 6) hx hb hts ni_Rules hown hK hP 0 rfl rfl 3 (by decide) (hts (.fieldLink nR_Rules 21 "RoomClimate$Rules" "alarmCounts" "[I") tt_178) (fun _ h9 => h9) rfl nd_Rules_tell_43 ?_
              refine lv_iload_n hx hb nd_Rules_tell_46 rfl (lv_at hl 3 rfl) ?_
              refine lv_dup2_11 hx hb nd_Rules_tell_47 rfl rfl ?_
              refine va_iald hx hb hK hP 4 0 rfl rfl h7 nd_Rules_tell_48 ?_
              refine lv_iconst (v := 1) hx hb nd_Rules_tell_49 (by decide) ?_
              refine lv_iadd hx hb nd_Rules_tell_50 ?_
              refine va_iast hx hb hK hP hD hS 4 0 rfl rfl h7 nd_Rules_tell_51 (fun H locs hP hD hS => ?_)
              have hP : va_P D vwCl [oc_Rules qa0 qkinds qlevels qholds qalarmCounts qalarmHours size_, aI qkinds ca 4 kinds_, oc_Interior qa2 qheatBooks qwaterBooks volume_ share_ heat_ water_, aI qlevels ca 4 levels_, aI qalarmCounts ca 4 (upd alarmCounts_L2 i3_2.toNatClampNeg ((alarmCounts_L2 i3_2.toNatClampNeg) + (1 : Int32))), aG qalarmHours ca (rq4 qalarmHours0 qalarmHours1 qalarmHours2 qalarmHours3), aI qalarmHours0 ca 300 (upd alarmHours0_L2 (alarmCounts_L2 i3_2.toNatClampNeg).toNatClampNeg x1), aI qholds ca 4 holds_, aI qalarmHours1 ca 300 alarmHours1_L2, aI qalarmHours2 ca 300 alarmHours2_L2, aI qalarmHours3 ca 300 alarmHours3_L2] H := hP
              have hD : va_D A [oc_Rules qa0 qkinds qlevels qholds qalarmCounts qalarmHours size_, aI qkinds ca 4 kinds_, oc_Interior qa2 qheatBooks qwaterBooks volume_ share_ heat_ water_, aI qlevels ca 4 levels_, aI qalarmCounts ca 4 (upd alarmCounts_L2 i3_2.toNatClampNeg ((alarmCounts_L2 i3_2.toNatClampNeg) + (1 : Int32))), aG qalarmHours ca (rq4 qalarmHours0 qalarmHours1 qalarmHours2 qalarmHours3), aI qalarmHours0 ca 300 (upd alarmHours0_L2 (alarmCounts_L2 i3_2.toNatClampNeg).toNatClampNeg x1), aI qholds ca 4 holds_, aI qalarmHours1 ca 300 alarmHours1_L2, aI qalarmHours2 ca 300 alarmHours2_L2, aI qalarmHours3 ca 300 alarmHours3_L2] := hD
              refine lv_iinc (v := i3_2 + 1) (lv' := [(3, .int (i3_2 + 1)), (0, .ref qa0), (1, .int x1), (2, .ref qa2)]) hx hb nd_Rules_tell_52 hl (k := 3) rfl (by first | rfl | decide) (by decide) rfl (fun ls hl => ?_)
              refine lv_goto (tgt := 2) hx hb nd_Rules_tell_55 (by decide) ?_
              exact ih2 (i3_2 + 1) (upd alarmHours0_L2 (alarmCounts_L2 i3_2.toNatClampNeg).toNatClampNeg x1) (upd alarmCounts_L2 i3_2.toNatClampNeg ((alarmCounts_L2 i3_2.toNatClampNeg) + (1 : Int32))) alarmHours1_L2 alarmHours2_L2 alarmHours3_L2 _ _ _ hR hP hD hS (lv_sub hl [1, 2, 3, 0] rfl)
            replace hR := q_n c6 hR
            by_cases c9 : i3_2 = 1
            · replace hR := q_p c9 hR
              refine k_aldqA (k := 1) hx hb hK hP 5 4 rfl rfl c9 (by decide) (by decide) rfl nd_Rules_tell_33 ?_
              refine lv_aload_n hx hb nd_Rules_tell_34 rfl (lv_at hl 0 rfl) ?_
              refine va_get (D := D) (ci := 5) (v := .ref qalarmCounts) (C := nR_Rules) (T := nT_Rules) (N := 6) hx hb hts ni_Rules hown hK hP 0 rfl rfl 3 (by decide) (hts (.fieldLink nR_Rules 21 "RoomClimate$Rules" "alarmCounts" "[I") tt_178) (fun _ h9 => h9) rfl nd_Rules_tell_35 ?_
              refine lv_iload_n hx hb nd_Rules_tell_38 rfl (lv_at hl 3 rfl) ?_
              obtain ⟨h10, hR⟩ := q_ix hR
              refine va_iald hx hb hK hP 4 0 rfl rfl h10 nd_Rules_tell_39 ?_
              refine lv_iload_n hx hb nd_Rules_tell_40 rfl (lv_at hl 1 rfl) ?_
              obtain ⟨h11, hR⟩ := q_ix hR
              refine va_iast hx hb hK hP hD hS 8 0 rfl rfl h11 nd_Rules_tell_41 (fun H locs hP hD hS => ?_)
              have hP : va_P D vwCl [oc_Rules qa0 qkinds qlevels qholds qalarmCounts qalarmHours size_, aI qkinds ca 4 kinds_, oc_Interior qa2 qheatBooks qwaterBooks volume_ share_ heat_ water_, aI qlevels ca 4 levels_, aI qalarmCounts ca 4 alarmCounts_L2, aG qalarmHours ca (rq4 qalarmHours0 qalarmHours1 qalarmHours2 qalarmHours3), aI qalarmHours0 ca 300 alarmHours0_L2, aI qholds ca 4 holds_, aI qalarmHours1 ca 300 (upd alarmHours1_L2 (alarmCounts_L2 i3_2.toNatClampNeg).toNatClampNeg x1), aI qalarmHours2 ca 300 alarmHours2_L2, aI qalarmHours3 ca 300 alarmHours3_L2] H := hP
              have hD : va_D A [oc_Rules qa0 qkinds qlevels qholds qalarmCounts qalarmHours size_, aI qkinds ca 4 kinds_, oc_Interior qa2 qheatBooks qwaterBooks volume_ share_ heat_ water_, aI qlevels ca 4 levels_, aI qalarmCounts ca 4 alarmCounts_L2, aG qalarmHours ca (rq4 qalarmHours0 qalarmHours1 qalarmHours2 qalarmHours3), aI qalarmHours0 ca 300 alarmHours0_L2, aI qholds ca 4 holds_, aI qalarmHours1 ca 300 (upd alarmHours1_L2 (alarmCounts_L2 i3_2.toNatClampNeg).toNatClampNeg x1), aI qalarmHours2 ca 300 alarmHours2_L2, aI qalarmHours3 ca 300 alarmHours3_L2] := hD
              refine lv_aload_n hx hb nd_Rules_tell_42 rfl (lv_at hl 0 rfl) ?_
              refine va_get (D := D) (ci := 5) (v := .ref qalarmCounts) (C := nR_Rules) (T := nT_Rules) (N := 6) hx hb hts ni_Rules hown hK hP 0 rfl rfl 3 (by decide) (hts (.fieldLink nR_Rules 21 "RoomClimate$Rules" "alarmCounts" "[I") tt_178) (fun _ h9 => h9) rfl nd_Rules_tell_43 ?_
              refine lv_iload_n hx hb nd_Rules_tell_46 rfl (lv_at hl 3 rfl) ?_
              refine lv_dup2_11 hx hb nd_Rules_tell_47 rfl rfl ?_
              refine va_iald hx hb hK hP 4 0 rfl rfl h10 nd_Rules_tell_48 ?_
              refine lv_iconst (v := 1) hx hb nd_Rules_tell_49 (by decide) ?_
              refine lv_iadd hx hb nd_Rules_tell_50 ?_
              refine va_iast hx hb hK hP hD hS 4 0 rfl rfl h10 nd_Rules_tell_51 (fun H locs hP hD hS => ?_)
              have hP : va_P D vwCl [oc_Rules qa0 qkinds qlevels qholds qalarmCounts qalarmHours size_, aI qkinds ca 4 kinds_, oc_Interior qa2 qheatBooks qwaterBooks volume_ share_ heat_ water_, aI qlevels ca 4 levels_, aI qalarmCounts ca 4 (upd alarmCounts_L2 i3_2.toNatClampNeg ((alarmCounts_L2 i3_2.toNatClampNeg) + (1 : Int32))), aG qalarmHours ca (rq4 qalarmHours0 qalarmHours1 qalarmHours2 qalarmHours3), aI qalarmHours0 ca 300 alarmHours0_L2, aI qholds ca 4 holds_, aI qalarmHours1 ca 300 (upd alarmHours1_L2 (alarmCounts_L2 i3_2.toNatClampNeg).toNatClampNeg x1), aI qalarmHours2 ca 300 alarmHours2_L2, aI qalarmHours3 ca 300 alarmHours3_L2] H := hP
              have hD : va_D A [oc_Rules qa0 qkinds qlevels qholds qalarmCounts qalarmHours size_, aI qkinds ca 4 kinds_, oc_Interior qa2 qheatBooks qwaterBooks volume_ share_ heat_ water_, aI qlevels ca 4 levels_, aI qalarmCounts ca 4 (upd alarmCounts_L2 i3_2.toNatClampNeg ((alarmCounts_L2 i3_2.toNatClampNeg) + (1 : Int32))), aG qalarmHours ca (rq4 qalarmHours0 qalarmHours1 qalarmHours2 qalarmHours3), aI qalarmHours0 ca 300 alarmHours0_L2, aI qholds ca 4 holds_, aI qalarmHours1 ca 300 (upd alarmHours1_L2 (alarmCounts_L2 i3_2.toNatClampNeg).toNatClampNeg x1), aI qalarmHours2 ca 300 alarmHours2_L2, aI qalarmHours3 ca 300 alarmHours3_L2] := hD
              refine lv_iinc (v := i3_2 + 1) (lv' := [(3, .int (i3_2 + 1)), (0, .ref qa0), (1, .int x1), (2, .ref qa2)]) hx hb nd_Rules_tell_52 hl (k := 3) rfl (by first | rfl | decide) (by decide) rfl (fun ls hl => ?_)
              refine lv_goto (tgt := 2) hx hb nd_Rules_tell_55 (by decide) ?_
              exact ih2 (i3_2 + 1) alarmHours0_L2 (upd alarmCounts_L2 i3_2.toNatClampNeg ((alarmCounts_L2 i3_2.toNatClampNeg) + (1 : Int32))) (upd alarmHours1_L2 (alarmCounts_L2 i3_2.toNatClampNeg).toNatClampNeg x1) alarmHours2_L2 alarmHours3_L2 _ _ _ hR hP hD hS (lv_sub hl [1, 2, 3, 0] rfl)
            replace hR := q_n c9 hR
            by_cases c12 : i3_2 = 2
            · replace hR := q_p c12 hR
              refine k_aldqA (k := 2) hx hb hK hP 5 4 rfl rfl c12 (by decide) (by decide) rfl nd_Rules_tell_33 ?_
              refine lv_aload_n hx hb nd_Rules_tell_34 rfl (lv_at hl 0 rfl) ?_
              refine va_get (D := D) (ci := 5) (v := .ref qalarmCounts) (C := nR_Rules) (T := nT_Rules) (N := 6) hx hb hts ni_Rules hown hK hP 0 rfl rfl 3 (by decide) (hts (.fieldLink nR_Rules 21 "RoomClimate$Rules" "alarmCounts" "[I") tt_178) (fun _ h9 => h9) rfl nd_Rules_tell_35 ?_
              refine lv_iload_n hx hb nd_Rules_tell_38 rfl (lv_at hl 3 rfl) ?_
              obtain ⟨h13, hR⟩ := q_ix hR
              refine va_iald hx hb hK hP 4 0 rfl rfl h13 nd_Rules_tell_39 ?_
              refine lv_iload_n hx hb nd_Rules_tell_40 rfl (lv_at hl 1 rfl) ?_
              obtain ⟨h14, hR⟩ := q_ix hR
              refine va_iast hx hb hK hP hD hS 9 0 rfl rfl h14 nd_Rules_tell_41 (fun H locs hP hD hS => ?_)
              have hP : va_P D vwCl [oc_Rules qa0 qkinds qlevels qholds qalarmCounts qalarmHours size_, aI qkinds ca 4 kinds_, oc_Interior qa2 qheatBooks qwaterBooks volume_ share_ heat_ water_, aI qlevels ca 4 levels_, aI qalarmCounts ca 4 alarmCounts_L2, aG qalarmHours ca (rq4 qalarmHours0 qalarmHours1 qalarmHours2 qalarmHours3), aI qalarmHours0 ca 300 alarmHours0_L2, aI qholds ca 4 holds_, aI qalarmHours1 ca 300 alarmHours1_L2, aI qalarmHours2 ca 300 (upd alarmHours2_L2 (alarmCounts_L2 i3_2.toNatClampNeg).toNatClampNeg x1), aI qalarmHours3 ca 300 alarmHours3_L2] H := hP
              have hD : va_D A [oc_Rules qa0 qkinds qlevels qholds qalarmCounts qalarmHours size_, aI qkinds ca 4 kinds_, oc_Interior qa2 qheatBooks qwaterBooks volume_ share_ heat_ water_, aI qlevels ca 4 levels_, aI qalarmCounts ca 4 alarmCounts_L2, aG qalarmHours ca (rq4 qalarmHours0 qalarmHours1 qalarmHours2 qalarmHours3), aI qalarmHours0 ca 300 alarmHours0_L2, aI qholds ca 4 holds_, aI qalarmHours1 ca 300 alarmHours1_L2, aI qalarmHours2 ca 300 (upd alarmHours2_L2 (alarmCounts_L2 i3_2.toNatClampNeg).toNatClampNeg x1), aI qalarmHours3 ca 300 alarmHours3_L2] := hD
              refine lv_aload_n hx hb nd_Rules_tell_42 rfl (lv_at hl 0 rfl) ?_
              refine va_get (D := D) (ci := 5) (v := .ref qalarmCounts) (C := nR_Rules) (T := nT_Rules) (N := 6) hx hb hts ni_Rules hown hK hP 0 rfl rfl 3 (by decide) (hts (.fieldLink nR_Rules 21 "RoomClimate$Rules" "alarmCounts" "[I") tt_178) (fun _ h9 => h9) rfl nd_Rules_tell_43 ?_
              refine lv_iload_n hx hb nd_Rules_tell_46 rfl (lv_at hl 3 rfl) ?_
              refine lv_dup2_11 hx hb nd_Rules_tell_47 rfl rfl ?_
              refine va_iald hx hb hK hP 4 0 rfl rfl h13 nd_Rules_tell_48 ?_
              refine lv_iconst (v := 1) hx hb nd_Rules_tell_49 (by decide) ?_
              refine lv_iadd hx hb nd_Rules_tell_50 ?_
              refine va_iast hx hb hK hP hD hS 4 0 rfl rfl h13 nd_Rules_tell_51 (fun H locs hP hD hS => ?_)
              have hP : va_P D vwCl [oc_Rules qa0 qkinds qlevels qholds qalarmCounts qalarmHours size_, aI qkinds ca 4 kinds_, oc_Interior qa2 qheatBooks qwaterBooks volume_ share_ heat_ water_, aI qlevels ca 4 levels_, aI qalarmCounts ca 4 (upd alarmCounts_L2 i3_2.toNatClampNeg ((alarmCounts_L2 i3_2.toNatClampNeg) + (1 : Int32))), aG qalarmHours ca (rq4 qalarmHours0 qalarmHours1 qalarmHours2 qalarmHours3), aI qalarmHours0 ca 300 alarmHours0_L2, aI qholds ca 4 holds_, aI qalarmHours1 ca 300 alarmHours1_L2, aI qalarmHours2 ca 300 (upd alarmHours2_L2 (alarmCounts_L2 i3_2.toNatClampNeg).toNatClampNeg x1), aI qalarmHours3 ca 300 alarmHours3_L2] H := hP
              have hD : va_D A [oc_Rules qa0 qkinds qlevels qholds qalarmCounts qalarmHours size_, aI qkinds ca 4 kinds_, oc_Interior qa2 qheatBooks qwaterBooks volume_ share_ heat_ water_, aI qlevels ca 4 levels_, aI qalarmCounts ca 4 (upd alarmCounts_L2 i3_2.toNatClampNeg ((alarmCounts_L2 i3_2.toNatClampNeg) + (1 : Int32))), aG qalarmHours ca (rq4 qalarmHours0 qalarmHours1 qalarmHours2 qalarmHours3), aI qalarmHours0 ca 300 alarmHours0_L2, aI qholds ca 4 holds_, aI qalarmHours1 ca 300 alarmHours1_L2, aI qalarmHours2 ca 300 (upd alarmHours2_L2 (alarmCounts_L2 i3_2.toNatClampNeg).toNatClampNeg x1), aI qalarmHours3 ca 300 alarmHours3_L2] := hD
              refine lv_iinc (v := i3_2 + 1) (lv' := [(3, .int (i3_2 + 1)), (0, .ref qa0), (1, .int x1), (2, .ref qa2)]) hx hb nd_Rules_tell_52 hl (k := 3) rfl (by first | rfl | decide) (by decide) rfl (fun ls hl => ?_)
              refine lv_goto (tgt := 2) hx hb nd_Rules_tell_55 (by decide) ?_
              exact ih2 (i3_2 + 1) alarmHours0_L2 (upd alarmCounts_L2 i3_2.toNatClampNeg ((alarmCounts_L2 i3_2.toNatClampNeg) + (1 : Int32))) alarmHours1_L2 (upd alarmHours2_L2 (alarmCounts_L2 i3_2.toNatClampNeg).toNatClampNeg x1) alarmHours3_L2 _ _ _ hR hP hD hS (lv_sub hl [1, 2, 3, 0] rfl)
            replace hR := q_n c12 hR
            by_cases c15 : i3_2 = 3
            · replace hR := q_p c15 hR
              refine k_aldqA (k := 3) hx hb hK hP 5 4 rfl rfl c15 (by decide) (by decide) rfl nd_Rules_tell_33 ?_
              refine lv_aload_n hx hb nd_Rules_tell_34 rfl (lv_at hl 0 rfl) ?_
              refine va_get (D := D) (ci := 5) (v := .ref qalarmCounts) (C := nR_Rules) (T := nT_Rules) (N := 6) hx hb hts ni_Rules hown hK hP 0 rfl rfl 3 (by decide) (hts (.fieldLink nR_Rules 21 "RoomClimate$Rules" "alarmCounts" "[I") tt_178) (fun _ h9 => h9) rfl nd_Rules_tell_35 ?_
              refine lv_iload_n hx hb nd_Rules_tell_38 rfl (lv_at hl 3 rfl) ?_
              obtain ⟨h16, hR⟩ := q_ix hR
              refine va_iald hx hb hK hP 4 0 rfl rfl h16 nd_Rules_tell_39 ?_
              refine lv_iload_n hx hb nd_Rules_tell_40 rfl (lv_at hl 1 rfl) ?_
              obtain ⟨h17, hR⟩ := q_ix hR
              refine va_iast hx hb hK hP hD hS 10 0 rfl rfl h17 nd_Rules_tell_41 (fun H locs hP hD hS => ?_)
              have hP : va_P D vwCl [oc_Rules qa0 qkinds qlevels qholds qalarmCounts qalarmHours size_, aI qkinds ca 4 kinds_, oc_Interior qa2 qheatBooks qwaterBooks volume_ share_ heat_ water_, aI qlevels ca 4 levels_, aI qalarmCounts ca 4 alarmCounts_L2, aG qalarmHours ca (rq4 qalarmHours0 qalarmHours1 qalarmHours2 qalarmHours3), aI qalarmHours0 ca 300 alarmHours0_L2, aI qholds ca 4 holds_, aI qalarmHours1 ca 300 alarmHours1_L2, aI qalarmHours2 ca 300 alarmHours2_L2, aI qalarmHours3 ca 300 (upd alarmHours3_L2 (alarmCounts_L2 i3_2.toNatClampNeg).toNatClampNeg x1)] H := hP
              have hD : va_D A [oc_Rules qa0 qkinds qlevels qholds qalarmCounts qalarmHours size_, aI qkinds ca 4 kinds_, oc_Interior qa2 qheatBooks qwaterBooks volume_ share_ heat_ water_, aI qlevels ca 4 levels_, aI qalarmCounts ca 4 alarmCounts_L2, aG qalarmHours ca (rq4 qalarmHours0 qalarmHours1 qalarmHours2 qalarmHours3), aI qalarmHours0 ca 300 alarmHours0_L2, aI qholds ca 4 holds_, aI qalarmHours1 ca 300 alarmHours1_L2, aI qalarmHours2 ca 300 alarmHours2_L2, aI qalarmHours3 ca 300 (upd alarmHours3_L2 (alarmCounts_L2 i3_2.toNatClampNeg).toNatClampNeg x1)] := hD
              refine lv_aload_n hx hb nd_Rules_tell_42 rfl (lv_at hl 0 rfl) ?_
              refine va_get (D := D) (ci := 5) (v := .ref qalarmCounts) (C := nR_Rules) (T := nT_Rules) (N := 6) hx hb hts ni_Rules hown hK hP 0 rfl rfl 3 (by decide) (hts (.fieldLink nR_Rules 21 "RoomClimate$Rules" "alarmCounts" "[I") tt_178) (fun _ h9 => h9) rfl nd_Rules_tell_43 ?_
              refine lv_iload_n hx hb nd_Rules_tell_46 rfl (lv_at hl 3 rfl) ?_
              refine lv_dup2_11 hx hb nd_Rules_tell_47 rfl rfl ?_
              refine va_iald hx hb hK hP 4 0 rfl rfl h16 nd_Rules_tell_48 ?_
              refine lv_iconst (v := 1) hx hb nd_Rules_tell_49 (by decide) ?_
              refine lv_iadd hx hb nd_Rules_tell_50 ?_
              refine va_iast hx hb hK hP hD hS 4 0 rfl rfl h16 nd_Rules_tell_51 (fun H locs hP hD hS => ?_)
              have hP : va_P D vwCl [oc_Rules qa0 qkinds qlevels qholds qalarmCounts qalarmHours size_, aI qkinds ca 4 kinds_, oc_Interior qa2 qheatBooks qwaterBooks volume_ share_ heat_ water_, aI qlevels ca 4 levels_, aI qalarmCounts ca 4 (upd alarmCounts_L2 i3_2.toNatClampNeg ((alarmCounts_L2 i3_2.toNatClampNeg) + (1 : Int32))), aG qalarmHours ca (rq4 qalarmHours0 qalarmHours1 qalarmHours2 qalarmHours3), aI qalarmHours0 ca 300 alarmHours0_L2, aI qholds ca 4 holds_, aI qalarmHours1 ca 300 alarmHours1_L2, aI qalarmHours2 ca 300 alarmHours2_L2, aI qalarmHours3 ca 300 (upd alarmHours3_L2 (alarmCounts_L2 i3_2.toNatClampNeg).toNatClampNeg x1)] H := hP
              have hD : va_D A [oc_Rules qa0 qkinds qlevels qholds qalarmCounts qalarmHours size_, aI qkinds ca 4 kinds_, oc_Interior qa2 qheatBooks qwaterBooks volume_ share_ heat_ water_, aI qlevels ca 4 levels_, aI qalarmCounts ca 4 (upd alarmCounts_L2 i3_2.toNatClampNeg ((alarmCounts_L2 i3_2.toNatClampNeg) + (1 : Int32))), aG qalarmHours ca (rq4 qalarmHours0 qalarmHours1 qalarmHours2 qalarmHours3), aI qalarmHours0 ca 300 alarmHours0_L2, aI qholds ca 4 holds_, aI qalarmHours1 ca 300 alarmHours1_L2, aI qalarmHours2 ca 300 alarmHours2_L2, aI qalarmHours3 ca 300 (upd alarmHours3_L2 (alarmCounts_L2 i3_2.toNatClampNeg).toNatClampNeg x1)] := hD
              refine lv_iinc (v := i3_2 + 1) (lv' := [(3, .int (i3_2 + 1)), (0, .ref qa0), (1, .int x1), (2, .ref qa2)]) hx hb nd_Rules_tell_52 hl (k := 3) rfl (by first | rfl | decide) (by decide) rfl (fun ls hl => ?_)
              refine lv_goto (tgt := 2) hx hb nd_Rules_tell_55 (by decide) ?_
              exact ih2 (i3_2 + 1) alarmHours0_L2 (upd alarmCounts_L2 i3_2.toNatClampNeg ((alarmCounts_L2 i3_2.toNatClampNeg) + (1 : Int32))) alarmHours1_L2 alarmHours2_L2 (upd alarmHours3_L2 (alarmCounts_L2 i3_2.toNatClampNeg).toNatClampNeg x1) _ _ _ hR hP hD hS (lv_sub hl [1, 2, 3, 0] rfl)
            replace hR := q_n c15 hR
            exact nomatch hR
  exact hL2 400 (0 : Int32) alarmHours0_ alarmCounts_ alarmHours1_ alarmHours2_ alarmHours3_ _ _ _ hR hP hD hS (lv_sub hl [1, 2, 3, 0] rfl)
def rm_Steps_wouldRise : Room := { frames := 0, cells := 0, slots := 0, locals := 0 }
theorem kc_Steps_wouldRise : k_cal nY_Steps_wouldRise nC_Steps_wouldRise 2 (some .boolean) 1 := ⟨tt_402, tt_2, by decide +kernel⟩
theorem kv_Steps_wouldRise : k_vir nY_Steps_wouldRise := ⟨tt_400, tt_401⟩
set_option maxHeartbeats 4000000 in
set_option maxRecDepth 100000 in
theorem cn_Steps_wouldRise (l : Launch) (D : va_G) (ca : Nat → ClassId) (qa0 qlevels qamounts : Nat) (size_ : Int32) (levels_ : Nat → Int32) (n_a0 : Nat) (x1 : Int32) (R0 : Int32) (hR : fn_Steps_wouldRise size_ levels_ n_a0 x1 = some R0) : Met l nY_Steps_wouldRise (Cond.code nY_Steps_wouldRise nC_Steps_wouldRise 2 (some .boolean) :: TT) rm_Steps_wouldRise (rd_P [.ref qa0, .int x1] D ca [oc_Steps qa0 qlevels qamounts size_, aI qlevels ca n_a0 levels_]) (vp_Si (fun x => x = R0)) 0 0 (fun _ => False) := by
  refine rd_ofZ (by decide +kernel) (Nat.le_of_ble_eq_true rfl) ?_
  intro p e s m below meth c Q ar ls hx hb hml hts hown hP hK hl hret
  have hown : s.vm.findClass nR_Steps = some m.cls := hown
  have hl : lv_has ls 2 [(0, .ref qa0), (1, .int x1)] := hl
  unfold fn_Steps_wouldRise at hR
  refine lv_aload_n hx hb nd_Steps_wouldRise_0 rfl (lv_at hl 0 rfl) ?_
  refine va_get (D := D) (ci := 6) (v := .int size_) (C := nR_Steps) (T := nT_Steps) (N := 3) hx hb hts ni_Steps hown hK hP 0 rfl rfl 2 (by decide) (hts (.fieldLink nR_Steps 16 "RoomClimate$Steps" "size" "I") tt_34) (fun _ h9 => h9) rfl nd_Steps_wouldRise_1 ?_
  obtain ⟨j2_0, hJ2, hR⟩ := q_b1 hR
  have hN2 : ∀ (ls : Array Slot), lv_has ls 2 [(0, .ref qa0), (1, .int x1)] → W p l e rm_Steps_wouldRise s m ar below meth c s.heap [] 0 0 Q (F0 m 27 ls [.int j2_0]) := by
    intro ls  hl
    obtain ⟨h6, hR⟩ := q_bz hR
    exact hret _ _ _ nd_Steps_wouldRise_27 h6 (Option.some.inj hR)
  refine lv_if_eq (tgt := 22) hx hb nd_Steps_wouldRise_4 (by decide) (fun c1 => ?_) (fun c1 => ?_)
  · have hR := q_p c1 hJ2
    refine lv_iconst (v := 1) hx hb nd_Steps_wouldRise_22 (by decide) ?_
    refine lv_goto (tgt := 27) hx hb nd_Steps_wouldRise_23 (by decide) ?_
    cases hR
    exact hN2 _  (lv_sub hl [0, 1] rfl)
  · have hR := q_n c1 hJ2
    refine lv_iload_n hx hb nd_Steps_wouldRise_7 rfl (lv_at hl 1 rfl) ?_
    refine lv_aload_n hx hb nd_Steps_wouldRise_8 rfl (lv_at hl 0 rfl) ?_
    refine va_get (D := D) (ci := 6) (v := .ref qlevels) (C := nR_Steps) (T := nT_Steps) (N := 3) hx hb hts ni_Steps hown hK hP 0 rfl rfl 0 (by decide) (hts (.fieldLink nR_Steps 7 "RoomClimate$Steps" "levels" "[I") tt_32) (fun _ h9 => h9) rfl nd_Steps_wouldRise_9 ?_
    refine lv_aload_n hx hb nd_Steps_wouldRise_12 rfl (lv_at hl 0 rfl) ?_
    refine va_get (D := D) (ci := 6) (v := .int size_) (C := nR_Steps) (T := nT_Steps) (N := 3) hx hb hts ni_Steps hown hK hP 0 rfl rfl 2 (by decide) (hts (.fieldLink nR_Steps 16 "RoomClimate$Steps" "size" "I") tt_34) (fun _ h9 => h9) rfl nd_Steps_wouldRise_13 ?_
    refine lv_iconst (v := 1) hx hb nd_Steps_wouldRise_16 (by decide) ?_
    refine lv_isub hx hb nd_Steps_wouldRise_17 ?_
    obtain ⟨h3, hR⟩ := q_ix hR
    refine va_iald hx hb hK hP 1 0 rfl rfl h3 nd_Steps_wouldRise_18 ?_
    obtain ⟨j5_0, hJ5, hR⟩ := q_b1 hR
    have hN5 : ∀ (ls : Array Slot), lv_has ls 2 [(0, .ref qa0), (1, .int x1)] → W p l e rm_Steps_wouldRise s m ar below meth c s.heap [] 0 0 Q (F0 m 27 ls [.int j5_0]) := by
      intro ls  hl
      cases hR
      exact hN2 _  (lv_sub hl [0, 1] rfl)
    refine lv_icmp_le (tgt := 26) hx hb nd_Steps_wouldRise_19 (by decide) (fun c4 => ?_) (fun c4 => ?_)
    · have hR := q_p c4 hJ5
      refine lv_iconst (v := 0) hx hb nd_Steps_wouldRise_26 (by decide) ?_
      cases hR
      exact hN5 _  (lv_sub hl [0, 1] rfl)
    · have hR := q_n c4 hJ5
      refine lv_iconst (v := 1) hx hb nd_Steps_wouldRise_22 (by decide) ?_
      refine lv_goto (tgt := 27) hx hb nd_Steps_wouldRise_23 (by decide) ?_
      cases hR
      exact hN5 _  (lv_sub hl [0, 1] rfl)
def rm_Steps_append : Room := { frames := 0, cells := 0, slots := 0, locals := 0 }
theorem kc_Steps_append : k_cal nY_Steps_append nC_Steps_append 3 (some .int) 2 := ⟨tt_407, tt_2, by decide +kernel⟩
theorem kv_Steps_append : k_vir nY_Steps_append := ⟨tt_405, tt_406⟩
set_option maxHeartbeats 4000000 in
set_option maxRecDepth 100000 in
theorem cn_Steps_append (l : Launch) (D : va_G) (ca : Nat → ClassId) (qa0 qlevels qamounts : Nat) (size_ : Int32) (levels_ : Nat → Int32) (amounts_ : Nat → Int32) (n_a0 : Nat) (x1 : Int32) (x2 : Int32) (R0 : Int32) (R1 : Nat → Int32) (R2 : Nat → Int32) (R3 : Int32) (hR : fn_Steps_append size_ levels_ amounts_ n_a0 x1 x2 = some (R0, R1, R2, R3)) (sz : Nat) : Met l nY_Steps_append (Cond.code nY_Steps_append nC_Steps_append 3 (some .int) :: TT) rm_Steps_append (wr_P [.ref qa0, .int x1, .int x2] D ca [oc_Steps qa0 qlevels qamounts size_, aI qlevels ca n_a0 levels_, aI qamounts ca n_a0 amounts_] sz) (va_Qi (fun x (_ : Unit) => x = R0) (wr_B D [oc_Steps qa0 qlevels qamounts size_, aI qlevels ca n_a0 levels_, aI qamounts ca n_a0 amounts_] sz [oc_Steps qa0 qlevels qamounts R3, aI qlevels ca n_a0 R1, aI qamounts ca n_a0 R2]) (va_A [oc_Steps qa0 qlevels qamounts size_, aI qlevels ca n_a0 levels_, aI qamounts ca n_a0 amounts_] sz)) 0 0 (va_A [oc_Steps qa0 qlevels qamounts size_, aI qlevels ca n_a0 levels_, aI qamounts ca n_a0 amounts_] sz) := by
  refine wr_ofI (R := (R0, R1, R2, R3)) (val := fun r => r.1) (w1 := fun r : Int32 × (Nat → Int32) × (Nat → Int32) × Int32 => [oc_Steps qa0 qlevels qamounts r.2.2.2, aI qlevels ca n_a0 r.2.1, aI qamounts ca n_a0 r.2.2.1]) (by decide +kernel) (Nat.le_of_ble_eq_true rfl) ?_
  intro p e s m below meth c Q ar ls hx hb hml hts hown hP hK A hD hA hl hret
  have hS : va_S A s.heap s.heap [] := va_S.rf
  have hown : s.vm.findClass nR_Steps = some m.cls := hown
  have hl : lv_has ls 3 [(0, .ref qa0), (1, .int x1), (2, .int x2)] := hl
  unfold fn_Steps_append at hR
  refine lv_aload_n hx hb nd_Steps_append_0 rfl (lv_at hl 0 rfl) ?_
  refine va_get (D := D) (ci := 6) (v := .ref qlevels) (C := nR_Steps) (T := nT_Steps) (N := 3) hx hb hts ni_Steps hown hK hP 0 rfl rfl 0 (by decide) (hts (.fieldLink nR_Steps 7 "RoomClimate$Steps" "levels" "[I") tt_32) (fun _ h9 => h9) rfl nd_Steps_append_1 ?_
  refine lv_aload_n hx hb nd_Steps_append_4 rfl (lv_at hl 0 rfl) ?_
  refine va_get (D := D) (ci := 6) (v := .int size_) (C := nR_Steps) (T := nT_Steps) (N := 3) hx hb hts ni_Steps hown hK hP 0 rfl rfl 2 (by decide) (hts (.fieldLink nR_Steps 16 "RoomClimate$Steps" "size" "I") tt_34) (fun _ h9 => h9) rfl nd_Steps_append_5 ?_
  refine lv_iload_n hx hb nd_Steps_append_8 rfl (lv_at hl 1 rfl) ?_
  obtain ⟨h1, hR⟩ := q_ix hR
  refine va_iast hx hb hK hP hD hS 1 0 rfl rfl h1 nd_Steps_append_9 (fun H locs hP hD hS => ?_)
  have hP : va_P D vwCl [oc_Steps qa0 qlevels qamounts size_, aI qlevels ca n_a0 (upd levels_ size_.toNatClampNeg x1), aI qamounts ca n_a0 amounts_] H := hP
  have hD : va_D A [oc_Steps qa0 qlevels qamounts size_, aI qlevels ca n_a0 (upd levels_ size_.toNatClampNeg x1), aI qamounts ca n_a0 amounts_] := hD
  refine lv_aload_n hx hb nd_Steps_append_10 rfl (lv_at hl 0 rfl) ?_
  refine va_get (D := D) (ci := 6) (v := .ref qamounts) (C := nR_Steps) (T := nT_Steps) (N := 3) hx hb hts ni_Steps hown hK hP 0 rfl rfl 1 (by decide) (hts (.fieldLink nR_Steps 13 "RoomClimate$Steps" "amounts" "[I") tt_33) (fun _ h9 => h9) rfl nd_Steps_append_11 ?_
  refine lv_aload_n hx hb nd_Steps_append_14 rfl (lv_at hl 0 rfl) ?_
  refine va_get (D := D) (ci := 6) (v := .int size_) (C := nR_Steps) (T := nT_Steps) (N := 3) hx hb hts ni_Steps hown hK hP 0 rfl rfl 2 (by decide) (hts (.fieldLink nR_Steps 16 "RoomClimate$Steps" "size" "I") tt_34) (fun _ h9 => h9) rfl nd_Steps_append_15 ?_
  refine lv_iload_n hx hb nd_Steps_append_18 rfl (lv_at hl 2 rfl) ?_
  refine va_iast hx hb hK hP hD hS 2 0 rfl rfl h1 nd_Steps_append_19 (fun H locs hP hD hS => ?_)
  have hP : va_P D vwCl [oc_Steps qa0 qlevels qamounts size_, aI qlevels ca n_a0 (upd levels_ size_.toNatClampNeg x1), aI qamounts ca n_a0 (upd amounts_ size_.toNatClampNeg x2)] H := hP
  have hD : va_D A [oc_Steps qa0 qlevels qamounts size_, aI qlevels ca n_a0 (upd levels_ size_.toNatClampNeg x1), aI qamounts ca n_a0 (upd amounts_ size_.toNatClampNeg x2)] := hD
  refine lv_aload_n hx hb nd_Steps_append_20 rfl (lv_at hl 0 rfl) ?_
  refine lv_dup hx hb nd_Steps_append_21 rfl ?_
  refine va_get (D := D) (ci := 6) (v := .int size_) (C := nR_Steps) (T := nT_Steps) (N := 3) hx hb hts ni_Steps hown hK hP 0 rfl rfl 2 (by decide) (hts (.fieldLink nR_Steps 16 "RoomClimate$Steps" "size" "I") tt_34) (fun _ h9 => h9) rfl nd_Steps_append_22 ?_
  refine lv_iconst (v := 1) hx hb nd_Steps_append_25 (by decide) ?_
  refine lv_iadd hx hb nd_Steps_append_26 ?_
  refine va_put (D := D) (ci := 6) (v := .int (size_ + (1 : Int32))) (ty := .int) (C := nR_Steps) (T := nT_Steps) (N := 3) hx hb hts ni_Steps nt_Steps nt_Steps_ok nn_Steps hown hK hP hD hS 0 rfl rfl 2 (by decide) (hts (.fieldLink nR_Steps 16 "RoomClimate$Steps" "size" "I") tt_34) (fun _ h9 => h9) rfl (by decide +kernel) rfl rfl (Nat.le_of_ble_eq_true rfl) nd_Steps_append_27 (fun H locs hP hD hS => ?_)
  have hP : va_P D vwCl [oc_Steps qa0 qlevels qamounts (size_ + (1 : Int32)), aI qlevels ca n_a0 (upd levels_ size_.toNatClampNeg x1), aI qamounts ca n_a0 (upd amounts_ size_.toNatClampNeg x2)] H := hP
  have hD : va_D A [oc_Steps qa0 qlevels qamounts (size_ + (1 : Int32)), aI qlevels ca n_a0 (upd levels_ size_.toNatClampNeg x1), aI qamounts ca n_a0 (upd amounts_ size_.toNatClampNeg x2)] := hD
  refine lv_aload_n hx hb nd_Steps_append_30 rfl (lv_at hl 0 rfl) ?_
  refine va_get (D := D) (ci := 6) (v := .int (size_ + (1 : Int32))) (C := nR_Steps) (T := nT_Steps) (N := 3) hx hb hts ni_Steps hown hK hP 0 rfl rfl 2 (by decide) (hts (.fieldLink nR_Steps 16 "RoomClimate$Steps" "size" "I") tt_34) (fun _ h9 => h9) rfl nd_Steps_append_31 ?_
  refine lv_iconst (v := 1) hx hb nd_Steps_append_34 (by decide) ?_
  refine lv_isub hx hb nd_Steps_append_35 ?_
  exact hret ((size_ + (1 : Int32)) - (1 : Int32), upd levels_ size_.toNatClampNeg x1, upd amounts_ size_.toNatClampNeg x2, size_ + (1 : Int32)) _ _ _ _ nd_Steps_append_36 hR hP hD hS
def rm_Steps_amountFrom : Room := { frames := 0, cells := 0, slots := 0, locals := 0 }
theorem kc_Steps_amountFrom : k_cal nY_Steps_amountFrom nC_Steps_amountFrom 5 (some .int) 1 := ⟨tt_524, tt_2, by decide +kernel⟩
theorem kv_Steps_amountFrom : k_vir nY_Steps_amountFrom := ⟨tt_522, tt_523⟩
set_option maxHeartbeats 4000000 in
set_option maxRecDepth 100000 in
theorem cn_Steps_amountFrom (l : Launch) (D : va_G) (ca : Nat → ClassId) (qa0 qlevels qamounts : Nat) (size_ : Int32) (levels_ : Nat → Int32) (amounts_ : Nat → Int32) (n_a0 : Nat) (x1 : Int64) (R0 : Int32) (hR : fn_Steps_amountFrom size_ levels_ amounts_ n_a0 x1 = some R0) : Met l nY_Steps_amountFrom (Cond.code nY_Steps_amountFrom nC_Steps_amountFrom 5 (some .int) :: TT) rm_Steps_amountFrom (rd_P [.ref qa0, .long x1] D ca [oc_Steps qa0 qlevels qamounts size_, aI qlevels ca n_a0 levels_, aI qamounts ca n_a0 amounts_]) (vp_Si (fun x => x = R0)) 0 0 (fun _ => False) := by
  refine rd_ofI (by decide +kernel) (Nat.le_of_ble_eq_true rfl) ?_
  intro p e s m below meth c Q ar ls hx hb hml hts hown hP hK hl hret
  have hown : s.vm.findClass nR_Steps = some m.cls := hown
  have hl : lv_has ls 5 [(0, .ref qa0), (1, .long x1)] := hl
  unfold fn_Steps_amountFrom at hR
  refine lv_iconst (v := 0) hx hb nd_Steps_amountFrom_0 (by decide) ?_
  refine lv_istore_n (lv' := [(3, .int (0 : Int32)), (0, .ref qa0), (1, .long x1)]) hx hb nd_Steps_amountFrom_1 rfl hl (by decide) rfl (fun ls hl => ?_)
  refine lv_iconst (v := 0) hx hb nd_Steps_amountFrom_2 (by decide) ?_
  refine lv_istore (lv' := [(4, .int (0 : Int32)), (3, .int (0 : Int32)), (0, .ref qa0), (1, .long x1)]) hx hb nd_Steps_amountFrom_3 hl (by decide) rfl (fun ls hl => ?_)
  have hL5 : ∀ (n5 : Nat) (i3_5 : Int32) (i4_5 : Int32) (ls : Array Slot), fn_Steps_amountFrom_L5 x1 size_ levels_ amounts_ n_a0 n5 i3_5 i4_5 = some R0 → lv_has ls 5 [(0, .ref qa0), (1, .long x1), (3, .int i3_5), (4, .int i4_5)] → W p l e rm_Steps_amountFrom s m ar below meth c s.heap [] 0 0 Q (F0 m 5 ls []) := by
    intro n5
    induction n5 with
    | zero => intro i3_5 i4_5 ls hR; exact nomatch hR
    | succ n5 ih5 =>
      intro i3_5 i4_5 ls hR  hl
      rw [fn_Steps_amountFrom_L5] at hR
      refine lv_iload hx hb nd_Steps_amountFrom_5 (lv_at hl 3 rfl) ?_
      refine lv_aload_n hx hb nd_Steps_amountFrom_7 rfl (lv_at hl 0 rfl) ?_
      refine va_get (D := D) (ci := 6) (v := .int size_) (C := nR_Steps) (T := nT_Steps) (N := 3) hx hb hts ni_Steps hown hK hP 0 rfl rfl 2 (by decide) (hts (.fieldLink nR_Steps 16 "RoomClimate$Steps" "size" "I") tt_34) (fun _ h9 => h9) rfl nd_Steps_amountFrom_8 ?_
      refine lv_icmp_ge (tgt := 41) hx hb nd_Steps_amountFrom_11 (by decide) (fun c1 => ?_) (fun c1 => ?_)
      · replace hR := q_p c1 hR
        refine lv_iload_n hx hb nd_Steps_amountFrom_41 rfl (lv_at hl 2 rfl) ?_
        exact hret _ _ _ nd_Steps_amountFrom_42 (Option.some.inj hR)
      · replace hR := q_n c1 hR
        refine lv_aload_n hx hb nd_Steps_amountFrom_14 rfl (lv_at hl 0 rfl) ?_
        refine va_get (D := D) (ci := 6) (v := .ref qlevels) (C := nR_Steps) (T := nT_Steps) (N := 3) hx hb hts ni_Steps hown hK hP 0 rfl rfl 0 (by decide) (hts (.fieldLink nR_Steps 7 "RoomClimate$Steps" "levels" "[I") tt_32) (fun _ h9 => h9) rfl nd_Steps_amountFrom_15 ?_
        refine lv_iload hx hb nd_Steps_amountFrom_18 (lv_at hl 3 rfl) ?_
        obtain ⟨h2, hR⟩ := q_ix hR
        refine va_iald hx hb hK hP 1 0 rfl rfl h2 nd_Steps_amountFrom_20 ?_
        refine lv_i2l hx hb nd_Steps_amountFrom_21 rfl ?_
        refine lv_lload_n hx hb nd_Steps_amountFrom_22 rfl (lv_at hl 1 rfl) ?_
        refine W.lcmp hx hb nd_Steps_amountFrom_23 ?_
        refine lv_if_gt (tgt := 41) hx hb nd_Steps_amountFrom_24 (by decide) (fun c3 => ?_) (fun c3 => ?_)
        · replace hR := q_p c3 hR
          refine lv_iload_n hx hb nd_Steps_amountFrom_41 rfl (lv_at hl 2 rfl) ?_
          exact hret _ _ _ nd_Steps_amountFrom_42 (Option.some.inj hR)
        · replace hR := q_n c3 hR
          refine lv_aload_n hx hb nd_Steps_amountFrom_27 rfl (lv_at hl 0 rfl) ?_
          refine va_get (D := D) (ci := 6) (v := .ref qamounts) (C := nR_Steps) (T := nT_Steps) (N := 3) hx hb hts ni_Steps hown hK hP 0 rfl rfl 1 (by decide) (hts (.fieldLink nR_Steps 13 "RoomClimate$Steps" "amounts" "[I") tt_33) (fun _ h9 => h9) rfl nd_Steps_amountFrom_28 ?_
          refine lv_iload hx hb nd_Steps_amountFrom_31 (lv_at hl 3 rfl) ?_
          refine va_iald hx hb hK hP 2 0 rfl rfl h2 nd_Steps_amountFrom_33 ?_
          refine lv_istore_n (lv' := [(3, .int (amounts_ i4_5.toNatClampNeg)), (0, .ref qa0), (1, .long x1), (4, .int i4_5)]) hx hb nd_Steps_amountFrom_34 rfl hl (by decide) rfl (fun ls hl => ?_)
          refine lv_iinc (v := i4_5 + 1) (lv' := [(4, .int (i4_5 + 1)), (3, .int (amounts_ i4_5.toNatClampNeg)), (0, .ref qa0), (1, .long x1)]) hx hb nd_Steps_amountFrom_35 hl (k := 3) rfl (by first | rfl | decide) (by decide) rfl (fun ls hl => ?_)
          refine lv_goto (tgt := 5) hx hb nd_Steps_amountFrom_38 (by decide) ?_
          exact ih5 (amounts_ i4_5.toNatClampNeg) (i4_5 + 1) _ hR  (lv_sub hl [2, 3, 1, 0] rfl)
  exact hL5 400 (0 : Int32) (0 : Int32) _ hR  (lv_sub hl [2, 3, 1, 0] rfl)
def rm_Walls_append : Room := { frames := 0, cells := 0, slots := 0, locals := 0 }
theorem kc_Walls_append : k_cal nY_Walls_append nC_Walls_append 3 (some .int) 2 := ⟨tt_379, tt_5, by decide +kernel⟩
theorem kv_Walls_append : k_vir nY_Walls_append := ⟨tt_377, tt_378⟩
set_option maxHeartbeats 4000000 in
set_option maxRecDepth 100000 in
theorem cn_Walls_append (l : Launch) (D : va_G) (ca : Nat → ClassId) (qa0 qconductances qcapacities qheats : Nat) (layers_ : Int32) (conductances_ : Nat → Int32) (capacities_ : Nat → Int32) (heats_ : Nat → Int64) (x1 : Int32) (x2 : Int32) (R0 : Int32) (R1 : Nat → Int32) (R2 : Nat → Int32) (R3 : Nat → Int64) (R4 : Int32) (hR : fn_Walls_append layers_ conductances_ capacities_ heats_ x1 x2 = some (R0, R1, R2, R3, R4)) (sz : Nat) : Met l nY_Walls_append (Cond.code nY_Walls_append nC_Walls_append 3 (some .int) :: TT) rm_Walls_append (wr_P [.ref qa0, .int x1, .int x2] D ca [oc_Walls qa0 qconductances qcapacities qheats layers_, aI qconductances ca 5 conductances_, aI qcapacities ca 5 capacities_, aJ qheats ca 5 heats_] sz) (va_Qi (fun x (_ : Unit) => x = R0) (wr_B D [oc_Walls qa0 qconductances qcapacities qheats layers_, aI qconductances ca 5 conductances_, aI qcapacities ca 5 capacities_, aJ qheats ca 5 heats_] sz [oc_Walls qa0 qconductances qcapacities qheats R4, aI qconductances ca 5 R1, aI qcapacities ca 5 R2, aJ qheats ca 5 R3]) (va_A [oc_Walls qa0 qconductances qcapacities qheats layers_, aI qconductances ca 5 conductances_, aI qcapacities ca 5 capacities_, aJ qheats ca 5 heats_] sz)) 0 0 (va_A [oc_Walls qa0 qconductances qcapacities qheats layers_, aI qconductances ca 5 conductances_, aI qcapacities ca 5 capacities_, aJ qheats ca 5 heats_] sz) := by
  refine wr_ofI (R := (R0, R1, R2, R3, R4)) (val := fun r => r.1) (w1 := fun r : Int32 × (Nat → Int32) × (Nat → Int32) × (Nat → Int64) × Int32 => [oc_Walls qa0 qconductances qcapacities qheats r.2.2.2.2, aI qconductances ca 5 r.2.1, aI qcapacities ca 5 r.2.2.1, aJ qheats ca 5 r.2.2.2.1]) (by decide +kernel) (Nat.le_of_ble_eq_true rfl) ?_
  intro p e s m below meth c Q ar ls hx hb hml hts hown hP hK A hD hA hl hret
  have hS : va_S A s.heap s.heap [] := va_S.rf
  have hown : s.vm.findClass nR_Walls = some m.cls := hown
  have hl : lv_has ls 3 [(0, .ref qa0), (1, .int x1), (2, .int x2)] := hl
  unfold fn_Walls_append at hR
  refine lv_aload_n hx hb nd_Walls_append_0 rfl (lv_at hl 0 rfl) ?_
  refine va_get (D := D) (ci := 7) (v := .ref qconductances) (C := nR_Walls) (T := nT_Walls) (N := 4) hx hb hts ni_Walls hown hK hP 0 rfl rfl 0 (by decide) (hts (.fieldLink nR_Walls 9 "RoomClimate$Walls" "conductances" "[I") tt_92) (fun _ h9 => h9) rfl nd_Walls_append_1 ?_
  refine lv_aload_n hx hb nd_Walls_append_4 rfl (lv_at hl 0 rfl) ?_
  refine va_get (D := D) (ci := 7) (v := .int layers_) (C := nR_Walls) (T := nT_Walls) (N := 4) hx hb hts ni_Walls hown hK hP 0 rfl rfl 3 (by decide) (hts (.fieldLink nR_Walls 22 "RoomClimate$Walls" "layers" "I") tt_95) (fun _ h9 => h9) rfl nd_Walls_append_5 ?_
  refine lv_iload_n hx hb nd_Walls_append_8 rfl (lv_at hl 1 rfl) ?_
  obtain ⟨h1, hR⟩ := q_ix hR
  refine va_iast hx hb hK hP hD hS 1 0 rfl rfl h1 nd_Walls_append_9 (fun H locs hP hD hS => ?_)
  have hP : va_P D vwCl [oc_Walls qa0 qconductances qcapacities qheats layers_, aI qconductances ca 5 (upd conductances_ layers_.toNatClampNeg x1), aI qcapacities ca 5 capacities_, aJ qheats ca 5 heats_] H := hP
  have hD : va_D A [oc_Walls qa0 qconductances qcapacities qheats layers_, aI qconductances ca 5 (upd conductances_ layers_.toNatClampNeg x1), aI qcapacities ca 5 capacities_, aJ qheats ca 5 heats_] := hD
  refine lv_aload_n hx hb nd_Walls_append_10 rfl (lv_at hl 0 rfl) ?_
  refine va_get (D := D) (ci := 7) (v := .ref qcapacities) (C := nR_Walls) (T := nT_Walls) (N := 4) hx hb hts ni_Walls hown hK hP 0 rfl rfl 1 (by decide) (hts (.fieldLink nR_Walls 15 "RoomClimate$Walls" "capacities" "[I") tt_93) (fun _ h9 => h9) rfl nd_Walls_append_11 ?_
  refine lv_aload_n hx hb nd_Walls_append_14 rfl (lv_at hl 0 rfl) ?_
  refine va_get (D := D) (ci := 7) (v := .int layers_) (C := nR_Walls) (T := nT_Walls) (N := 4) hx hb hts ni_Walls hown hK hP 0 rfl rfl 3 (by decide) (hts (.fieldLink nR_Walls 22 "RoomClimate$Walls" "layers" "I") tt_95) (fun _ h9 => h9) rfl nd_Walls_append_15 ?_
  refine lv_iload_n hx hb nd_Walls_append_18 rfl (lv_at hl 2 rfl) ?_
  refine va_iast hx hb hK hP hD hS 2 0 rfl rfl h1 nd_Walls_append_19 (fun H locs hP hD hS => ?_)
  have hP : va_P D vwCl [oc_Walls qa0 qconductances qcapacities qheats layers_, aI qconductances ca 5 (upd conductances_ layers_.toNatClampNeg x1), aI qcapacities ca 5 (upd capacities_ layers_.toNatClampNeg x2), aJ qheats ca 5 heats_] H := hP
  have hD : va_D A [oc_Walls qa0 qconductances qcapacities qheats layers_, aI qconductances ca 5 (upd conductances_ layers_.toNatClampNeg x1), aI qcapacities ca 5 (upd capacities_ layers_.toNatClampNeg x2), aJ qheats ca 5 heats_] := hD
  refine lv_aload_n hx hb nd_Walls_append_20 rfl (lv_at hl 0 rfl) ?_
  refine va_get (D := D) (ci := 7) (v := .ref qheats) (C := nR_Walls) (T := nT_Walls) (N := 4) hx hb hts ni_Walls hown hK hP 0 rfl rfl 2 (by decide) (hts (.fieldLink nR_Walls 18 "RoomClimate$Walls" "heats" "[J") tt_94) (fun _ h9 => h9) rfl nd_Walls_append_21 ?_
  refine lv_aload_n hx hb nd_Walls_append_24 rfl (lv_at hl 0 rfl) ?_
  refine va_get (D := D) (ci := 7) (v := .int layers_) (C := nR_Walls) (T := nT_Walls) (N := 4) hx hb hts ni_Walls hown hK hP 0 rfl rfl 3 (by decide) (hts (.fieldLink nR_Walls 22 "RoomClimate$Walls" "layers" "I") tt_95) (fun _ h9 => h9) rfl nd_Walls_append_25 ?_
  refine lv_iload_n hx hb nd_Walls_append_28 rfl (lv_at hl 2 rfl) ?_
  refine lv_i2l hx hb nd_Walls_append_29 rfl ?_
  refine lv_ldc2 hx hb hown (hts _ tt_380) nd_Walls_append_30 ?_
  refine lv_lmul hx hb nd_Walls_append_33 ?_
  refine va_last hx hb hK hP hD hS 3 1 rfl rfl h1 nd_Walls_append_34 (fun H locs hP hD hS => ?_)
  have hP : va_P D vwCl [oc_Walls qa0 qconductances qcapacities qheats layers_, aI qconductances ca 5 (upd conductances_ layers_.toNatClampNeg x1), aI qcapacities ca 5 (upd capacities_ layers_.toNatClampNeg x2), aJ qheats ca 5 (vp_updL heats_ layers_.toNatClampNeg (x2.toInt64 * (20000 : Int64)))] H := hP
  have hD : va_D A [oc_Walls qa0 qconductances qcapacities qheats layers_, aI qconductances ca 5 (upd conductances_ layers_.toNatClampNeg x1), aI qcapacities ca 5 (upd capacities_ layers_.toNatClampNeg x2), aJ qheats ca 5 (vp_updL heats_ layers_.toNatClampNeg (x2.toInt64 * (20000 : Int64)))] := hD
  refine lv_aload_n hx hb nd_Walls_append_35 rfl (lv_at hl 0 rfl) ?_
  refine lv_dup hx hb nd_Walls_append_36 rfl ?_
  refine va_get (D := D) (ci := 7) (v := .int layers_) (C := nR_Walls) (T := nT_Walls) (N := 4) hx hb hts ni_Walls hown hK hP 0 rfl rfl 3 (by decide) (hts (.fieldLink nR_Walls 22 "RoomClimate$Walls" "layers" "I") tt_95) (fun _ h9 => h9) rfl nd_Walls_append_37 ?_
  refine lv_iconst (v := 1) hx hb nd_Walls_append_40 (by decide) ?_
  refine lv_iadd hx hb nd_Walls_append_41 ?_
  refine va_put (D := D) (ci := 7) (v := .int (layers_ + (1 : Int32))) (ty := .int) (C := nR_Walls) (T := nT_Walls) (N := 4) hx hb hts ni_Walls nt_Walls nt_Walls_ok nn_Walls hown hK hP hD hS 0 rfl rfl 3 (by decide) (hts (.fieldLink nR_Walls 22 "RoomClimate$Walls" "layers" "I") tt_95) (fun _ h9 => h9) rfl (by decide +kernel) rfl rfl (Nat.le_of_ble_eq_true rfl) nd_Walls_append_42 (fun H locs hP hD hS => ?_)
  have hP : va_P D vwCl [oc_Walls qa0 qconductances qcapacities qheats (layers_ + (1 : Int32)), aI qconductances ca 5 (upd conductances_ layers_.toNatClampNeg x1), aI qcapacities ca 5 (upd capacities_ layers_.toNatClampNeg x2), aJ qheats ca 5 (vp_updL heats_ layers_.toNatClampNeg (x2.toInt64 * (20000 : Int64)))] H := hP
  have hD : va_D A [oc_Walls qa0 qconductances qcapacities qheats (layers_ + (1 : Int32)), aI qconductances ca 5 (upd conductances_ layers_.toNatClampNeg x1), aI qcapacities ca 5 (upd capacities_ layers_.toNatClampNeg x2), aJ qheats ca 5 (vp_updL heats_ layers_.toNatClampNeg (x2.toInt64 * (20000 : Int64)))] := hD
  refine lv_aload_n hx hb nd_Walls_append_45 rfl (lv_at hl 0 rfl) ?_
  refine va_get (D := D) (ci := 7) (v := .int (layers_ + (1 : Int32))) (C := nR_Walls) (T := nT_Walls) (N := 4) hx hb hts ni_Walls hown hK hP 0 rfl rfl 3 (by decide) (hts (.fieldLink nR_Walls 22 "RoomClimate$Walls" "layers" "I") tt_95) (fun _ h9 => h9) rfl nd_Walls_append_46 ?_
  refine lv_iconst (v := 1) hx hb nd_Walls_append_49 (by decide) ?_
  refine lv_isub hx hb nd_Walls_append_50 ?_
  exact hret ((layers_ + (1 : Int32)) - (1 : Int32), upd conductances_ layers_.toNatClampNeg x1, upd capacities_ layers_.toNatClampNeg x2, vp_updL heats_ layers_.toNatClampNeg (x2.toInt64 * (20000 : Int64)), layers_ + (1 : Int32)) _ _ _ _ nd_Walls_append_51 hR hP hD hS
