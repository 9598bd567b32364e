def rm_Model_thrown : Room := { frames := 0, cells := 0, slots := 0, locals := 0 }
theorem kc_Model_thrown : k_cal nY_Model_thrown nC_Model_thrown 1 (some .int) 0 := ⟨tt_823, tt_10, by decide +kernel⟩
theorem kv_Model_thrown : k_vir nY_Model_thrown := ⟨tt_821, tt_822⟩
set_option maxHeartbeats 4000000 in
set_option maxRecDepth 100000 in
theorem cn_Model_thrown (l : Launch) (D : va_G) (ca : Nat → ClassId) (qa0 qnow qkept qbooks qkeptBooks qconductances qcapacities qrowDamps qrowWaters qtold qlows qhighs qrates qriskRows qlevels qpointsOf qsums qruleKinds qruleLevels qholds qalarms qalarmHours qvalues qchecked qrights : Nat) (thrown_ : Int32) (volume_ : Int32) (share_ : Int32) (layers_ : Int32) (kilograms_ : Int32) (rows_ : Int32) (hours_ : Int32) (rules_ : Int32) (R0 : Int32) (hR : fn_Model_thrown thrown_ = some R0) : Met l nY_Model_thrown (Cond.code nY_Model_thrown nC_Model_thrown 1 (some .int) :: TT) rm_Model_thrown (rd_P [.ref qa0] D ca [oc_Model qa0 thrown_ volume_ share_ qnow qkept qbooks qkeptBooks layers_ qconductances qcapacities kilograms_ rows_ qrowDamps qrowWaters qtold qlows qhighs qrates hours_ qriskRows qlevels qpointsOf qsums rules_ qruleKinds qruleLevels qholds qalarms qalarmHours qvalues qchecked qrights]) (vp_Si (fun x => x = R0)) 0 0 (fun _ => False) := by
  refine rd_ofI (by decide +kernel) (Nat.le_of_ble_eq_true rfl) ?_
  intro p e s m below meth c Q ar ls hx hb hml hts hown hP hK hl hret
  have hown : s.vm.findClass nR_Model = some m.cls := hown
  have hl : lv_has ls 1 [(0, .ref qa0)] := hl
  unfold fn_Model_thrown at hR
  refine lv_aload_n hx hb nd_Model_thrown_0 rfl (lv_at hl 0 rfl) ?_
  refine va_get (D := D) (ci := 9) (v := .int thrown_) (C := nR_Model) (T := nT_Model) (N := 32) hx hb hts ni_Model hown hK hP 0 rfl rfl 0 (by decide) (hts (.fieldLink nR_Model 96 "RoomClimateModel" "thrown" "I") tt_723) (fun _ h9 => h9) rfl nd_Model_thrown_1 ?_
  exact hret _ _ _ nd_Model_thrown_4 (Option.some.inj hR)
def rm_Model_goes : Room := { frames := 0, cells := 0, slots := 0, locals := 0 }
theorem kc_Model_goes : k_cal nY_Model_goes nC_Model_goes 4 (some .boolean) 3 := ⟨tt_834, tt_10, by decide +kernel⟩
theorem kv_Model_goes : k_vir nY_Model_goes := ⟨tt_833, tp_9⟩
set_option maxHeartbeats 4000000 in
set_option maxRecDepth 100000 in
theorem cn_Model_goes (l : Launch) (D : va_G) (ca : Nat → ClassId) (qa0 qnow qkept qbooks qkeptBooks qconductances qcapacities qrowDamps qrowWaters qtold qlows qhighs qrates qriskRows qlevels qpointsOf qsums qruleKinds qruleLevels qholds qalarms qalarmHours qvalues qchecked qrights : Nat) (thrown_ : Int32) (volume_ : Int32) (share_ : Int32) (layers_ : Int32) (kilograms_ : Int32) (rows_ : Int32) (hours_ : Int32) (rules_ : Int32) (x1 : Int32) (x2 : Int32) (x3 : Int32) (R0 : Int32) (R1 : Int32) (hR : fn_Model_goes x1 x2 x3 = some (R0, R1)) (sz : Nat) : Met l nY_Model_goes (Cond.code nY_Model_goes nC_Model_goes 4 (some .boolean) :: TT) rm_Model_goes (wr_P [.ref qa0, .int x1, .int x2, .int x3] D ca [oc_Model qa0 thrown_ volume_ share_ qnow qkept qbooks qkeptBooks layers_ qconductances qcapacities kilograms_ rows_ qrowDamps qrowWaters qtold qlows qhighs qrates hours_ qriskRows qlevels qpointsOf qsums rules_ qruleKinds qruleLevels qholds qalarms qalarmHours qvalues qchecked qrights] sz) (va_Qi (fun x (_ : Unit) => x = R0) (wr_B D [oc_Model qa0 thrown_ volume_ share_ qnow qkept qbooks qkeptBooks layers_ qconductances qcapacities kilograms_ rows_ qrowDamps qrowWaters qtold qlows qhighs qrates hours_ qriskRows qlevels qpointsOf qsums rules_ qruleKinds qruleLevels qholds qalarms qalarmHours qvalues qchecked qrights] sz [oc_Model qa0 R1 volume_ share_ qnow qkept qbooks qkeptBooks layers_ qconductances qcapacities kilograms_ rows_ qrowDamps qrowWaters qtold qlows qhighs qrates hours_ qriskRows qlevels qpointsOf qsums rules_ qruleKinds qruleLevels qholds qalarms qalarmHours qvalues qchecked qrights]) (va_A [oc_Model qa0 thrown_ volume_ share_ qnow qkept qbooks qkeptBooks layers_ qconductances qcapacities kilograms_ rows_ qrowDamps qrowWaters qtold qlows qhighs qrates hours_ qriskRows qlevels qpointsOf qsums rules_ qruleKinds qruleLevels qholds qalarms qalarmHours qvalues qchecked qrights] sz)) 0 0 (va_A [oc_Model qa0 thrown_ volume_ share_ qnow qkept qbooks qkeptBooks layers_ qconductances qcapacities kilograms_ rows_ qrowDamps qrowWaters qtold qlows qhighs qrates hours_ qriskRows qlevels qpointsOf qsums rules_ qruleKinds qruleLevels qholds qalarms qalarmHours qvalues qchecked qrights] sz) := by
  refine wr_ofZ (R := (R0, R1)) (val := fun r => r.1) (w1 := fun r : Int32 × Int32 => [oc_Model qa0 r.2 volume_ share_ qnow qkept qbooks qkeptBooks layers_ qconductances qcapacities kilograms_ rows_ qrowDamps qrowWaters qtold qlows qhighs qrates hours_ qriskRows qlevels qpointsOf qsums rules_ qruleKinds qruleLevels qholds qalarms qalarmHours qvalues qchecked qrights]) (by decide +kernel) (Nat.le_of_ble_eq_true rfl) ?_
  intro p e s m below meth c Q ar ls hx hb hml hts hown hP hK A hD hA hl hret
  have hS : va_S A s.heap s.heap [] := va_S.rf
  have hown : s.vm.findClass nR_Model = some m.cls := hown
  have hl : lv_has ls 4 [(0, .ref qa0), (1, .int x1), (2, .int x2), (3, .int x3)] := hl
  unfold fn_Model_goes at hR
  refine lv_aload_n hx hb nd_Model_goes_0 rfl (lv_at hl 0 rfl) ?_
  refine lv_iload_n hx hb nd_Model_goes_1 rfl (lv_at hl 1 rfl) ?_
  obtain ⟨j2_0, hJ2, hR⟩ := q_b1 hR
  have hN2 : ∀ (H : Heap) (locs : List Loc) (ls : Array Slot), va_P D vwCl [oc_Model qa0 thrown_ volume_ share_ qnow qkept qbooks qkeptBooks layers_ qconductances qcapacities kilograms_ rows_ qrowDamps qrowWaters qtold qlows qhighs qrates hours_ qriskRows qlevels qpointsOf qsums rules_ qruleKinds qruleLevels qholds qalarms qalarmHours qvalues qchecked qrights] H → va_D A [oc_Model qa0 thrown_ volume_ share_ qnow qkept qbooks qkeptBooks layers_ qconductances qcapacities kilograms_ rows_ qrowDamps qrowWaters qtold qlows qhighs qrates hours_ qriskRows qlevels qpointsOf qsums rules_ qruleKinds qruleLevels qholds qalarms qalarmHours qvalues qchecked qrights] → va_S A s.heap H locs → lv_has ls 4 [(0, .ref qa0), (1, .int x1), (2, .int x2), (3, .int x3)] → W p l e rm_Model_goes s m ar below meth c H locs 0 0 Q (F0 m 26 ls [.int j2_0, .ref qa0]) := by
    intro H locs ls hP hD hS hl
    refine va_put (D := D) (ci := 9) (v := .int j2_0) (ty := .int) (C := nR_Model) (T := nT_Model) (N := 32) hx hb hts ni_Model nt_Model nt_Model_ok nn_Model hown hK hP hD hS 0 rfl rfl 0 (by decide) (hts (.fieldLink nR_Model 96 "RoomClimateModel" "thrown" "I") tt_723) (fun _ h9 => h9) rfl (by decide +kernel) rfl rfl (Nat.le_of_ble_eq_true rfl) nd_Model_goes_26 (fun H locs hP hD hS => ?_)
    have hP : va_P D vwCl [oc_Model qa0 j2_0 volume_ share_ qnow qkept qbooks qkeptBooks layers_ qconductances qcapacities kilograms_ rows_ qrowDamps qrowWaters qtold qlows qhighs qrates hours_ qriskRows qlevels qpointsOf qsums rules_ qruleKinds qruleLevels qholds qalarms qalarmHours qvalues qchecked qrights] H := hP
    have hD : va_D A [oc_Model qa0 j2_0 volume_ share_ qnow qkept qbooks qkeptBooks layers_ qconductances qcapacities kilograms_ rows_ qrowDamps qrowWaters qtold qlows qhighs qrates hours_ qriskRows qlevels qpointsOf qsums rules_ qruleKinds qruleLevels qholds qalarms qalarmHours qvalues qchecked qrights] := hD
    refine lv_aload_n hx hb nd_Model_goes_29 rfl (lv_at hl 0 rfl) ?_
    refine va_get (D := D) (ci := 9) (v := .int j2_0) (C := nR_Model) (T := nT_Model) (N := 32) hx hb hts ni_Model hown hK hP 0 rfl rfl 0 (by decide) (hts (.fieldLink nR_Model 96 "RoomClimateModel" "thrown" "I") tt_723) (fun _ h9 => h9) rfl nd_Model_goes_30 ?_
    obtain ⟨j8_0, hJ8, hR⟩ := q_b1 hR
    have hN8 : ∀ (H : Heap) (locs : List Loc) (ls : Array Slot), va_P D vwCl [oc_Model qa0 j2_0 volume_ share_ qnow qkept qbooks qkeptBooks layers_ qconductances qcapacities kilograms_ rows_ qrowDamps qrowWaters qtold qlows qhighs qrates hours_ qriskRows qlevels qpointsOf qsums rules_ qruleKinds qruleLevels qholds qalarms qalarmHours qvalues qchecked qrights] H → va_D A [oc_Model qa0 j2_0 volume_ share_ qnow qkept qbooks qkeptBooks layers_ qconductances qcapacities kilograms_ rows_ qrowDamps qrowWaters qtold qlows qhighs qrates hours_ qriskRows qlevels qpointsOf qsums rules_ qruleKinds qruleLevels qholds qalarms qalarmHours qvalues qchecked qrights] → va_S A s.heap H locs → lv_has ls 4 [(0, .ref qa0), (1, .int x1), (2, .int x2), (3, .int x3)] → W p l e rm_Model_goes s m ar below meth c H locs 0 0 Q (F0 m 41 ls [.int j8_0]) := by
      intro H locs ls hP hD hS hl
      obtain ⟨h9, hR⟩ := q_bz hR
      exact hret (j8_0, j2_0) _ _ _ _ nd_Model_goes_41 h9 hR hP hD hS
    refine lv_if_ne (tgt := 40) hx hb nd_Model_goes_33 (by decide) (fun c7 => ?_) (fun c7 => ?_)
    · have hR := q_n c7 hJ8
      refine lv_iconst (v := 0) hx hb nd_Model_goes_40 (by decide) ?_
      cases hR
      exact hN8 _ _ _ hP hD hS (lv_sub hl [0, 1, 2, 3] rfl)
    · have hR := q_p c7 hJ8
      refine lv_iconst (v := 1) hx hb nd_Model_goes_36 (by decide) ?_
      refine lv_goto (tgt := 41) hx hb nd_Model_goes_37 (by decide) ?_
      cases hR
      exact hN8 _ _ _ hP hD hS (lv_sub hl [0, 1, 2, 3] rfl)
  refine lv_if_ne (tgt := 9) hx hb nd_Model_goes_2 (by decide) (fun c1 => ?_) (fun c1 => ?_)
  · have hR := q_n c1 hJ2
    refine lv_iload_n hx hb nd_Model_goes_9 rfl (lv_at hl 2 rfl) ?_
    obtain ⟨j4_0, hJ4, hR⟩ := q_b1 hR
    have hN4 : ∀ (H : Heap) (locs : List Loc) (ls : Array Slot), va_P D vwCl [oc_Model qa0 thrown_ volume_ share_ qnow qkept qbooks qkeptBooks layers_ qconductances qcapacities kilograms_ rows_ qrowDamps qrowWaters qtold qlows qhighs qrates hours_ qriskRows qlevels qpointsOf qsums rules_ qruleKinds qruleLevels qholds qalarms qalarmHours qvalues qchecked qrights] H → va_D A [oc_Model qa0 thrown_ volume_ share_ qnow qkept qbooks qkeptBooks layers_ qconductances qcapacities kilograms_ rows_ qrowDamps qrowWaters qtold qlows qhighs qrates hours_ qriskRows qlevels qpointsOf qsums rules_ qruleKinds qruleLevels qholds qalarms qalarmHours qvalues qchecked qrights] → va_S A s.heap H locs → lv_has ls 4 [(0, .ref qa0), (1, .int x1), (2, .int x2), (3, .int x3)] → W p l e rm_Model_goes s m ar below meth c H locs 0 0 Q (F0 m 26 ls [.int j4_0, .ref qa0]) := by
      intro H locs ls hP hD hS hl
      cases hR
      exact hN2 _ _ _ hP hD hS (lv_sub hl [0, 1, 2, 3] rfl)
    refine lv_if_ne (tgt := 17) hx hb nd_Model_goes_10 (by decide) (fun c3 => ?_) (fun c3 => ?_)
    · have hR := q_n c3 hJ4
      refine lv_iload_n hx hb nd_Model_goes_17 rfl (lv_at hl 3 rfl) ?_
      obtain ⟨j6_0, hJ6, hR⟩ := q_b1 hR
      have hN6 : ∀ (H : Heap) (locs : List Loc) (ls : Array Slot), va_P D vwCl [oc_Model qa0 thrown_ volume_ share_ qnow qkept qbooks qkeptBooks layers_ qconductances qcapacities kilograms_ rows_ qrowDamps qrowWaters qtold qlows qhighs qrates hours_ qriskRows qlevels qpointsOf qsums rules_ qruleKinds qruleLevels qholds qalarms qalarmHours qvalues qchecked qrights] H → va_D A [oc_Model qa0 thrown_ volume_ share_ qnow qkept qbooks qkeptBooks layers_ qconductances qcapacities kilograms_ rows_ qrowDamps qrowWaters qtold qlows qhighs qrates hours_ qriskRows qlevels qpointsOf qsums rules_ qruleKinds qruleLevels qholds qalarms qalarmHours qvalues qchecked qrights] → va_S A s.heap H locs → lv_has ls 4 [(0, .ref qa0), (1, .int x1), (2, .int x2), (3, .int x3)] → W p l e rm_Model_goes s m ar below meth c H locs 0 0 Q (F0 m 26 ls [.int j6_0, .ref qa0]) := by
        intro H locs ls hP hD hS hl
        cases hR
        exact hN4 _ _ _ hP hD hS (lv_sub hl [0, 1, 2, 3] rfl)
      refine lv_if_ne (tgt := 25) hx hb nd_Model_goes_18 (by decide) (fun c5 => ?_) (fun c5 => ?_)
      · have hR := q_n c5 hJ6
        refine lv_iconst (v := 0) hx hb nd_Model_goes_25 (by decide) ?_
        cases hR
        exact hN6 _ _ _ hP hD hS (lv_sub hl [0, 1, 2, 3] rfl)
      · have hR := q_p c5 hJ6
        refine lv_iconst (v := 3) hx hb nd_Model_goes_21 (by decide) ?_
        refine lv_goto (tgt := 26) hx hb nd_Model_goes_22 (by decide) ?_
        cases hR
        exact hN6 _ _ _ hP hD hS (lv_sub hl [0, 1, 2, 3] rfl)
    · have hR := q_p c3 hJ4
      refine lv_iconst (v := 2) hx hb nd_Model_goes_13 (by decide) ?_
      refine lv_goto (tgt := 26) hx hb nd_Model_goes_14 (by decide) ?_
      cases hR
      exact hN4 _ _ _ hP hD hS (lv_sub hl [0, 1, 2, 3] rfl)
  · have hR := q_p c1 hJ2
    refine lv_iconst (v := 1) hx hb nd_Model_goes_5 (by decide) ?_
    refine lv_goto (tgt := 26) hx hb nd_Model_goes_6 (by decide) ?_
    cases hR
    exact hN2 _ _ _ hP hD hS (lv_sub hl [0, 1, 2, 3] rfl)
def rm_Model_within : Room := { frames := 0, cells := 0, slots := 0, locals := 0 }
theorem kc_Model_within : k_cal nY_Model_within nC_Model_within 3 (some .boolean) 3 := ⟨tt_830, tt_10, by decide +kernel⟩
theorem ks_Model_within : Cond.static nY_Model_within ∈ TT := tt_829
set_option maxHeartbeats 4000000 in
set_option maxRecDepth 100000 in
theorem cn_Model_within (l : Launch) (D : va_G) (ca : Nat → ClassId) (x0 : Int32) (x1 : Int32) (x2 : Int32) (R0 : Int32) (hR : fn_Model_within x0 x1 x2 = some R0) : Met l nY_Model_within (Cond.code nY_Model_within nC_Model_within 3 (some .boolean) :: TT) rm_Model_within (rd_P [.int x0, .int x1, .int x2] D ca []) (vp_Si (fun x => x = R0)) 0 0 (fun _ => False) := by
  refine rd_ofZ (by decide +kernel) (Nat.le_of_ble_eq_true rfl) ?_
  intro p e s m below meth c Q ar ls hx hb hml hts hown hP hK hl hret
  have hown : s.vm.findClass nR_Model = some m.cls := hown
  have hl : lv_has ls 3 [(0, .int x0), (1, .int x1), (2, .int x2)] := hl
  unfold fn_Model_within at hR
  refine lv_iload_n hx hb nd_Model_within_0 rfl (lv_at hl 0 rfl) ?_
  refine lv_iload_n hx hb nd_Model_within_1 rfl (lv_at hl 1 rfl) ?_
  obtain ⟨j2_0, hJ2, hR⟩ := q_b1 hR
  have hN2 : ∀ (ls : Array Slot), lv_has ls 3 [(0, .int x0), (1, .int x1), (2, .int x2)] → W p l e rm_Model_within s m ar below meth c s.heap [] 0 0 Q (F0 m 15 ls [.int j2_0]) := by
    intro ls  hl
    obtain ⟨h5, hR⟩ := q_bz hR
    exact hret _ _ _ nd_Model_within_15 h5 (Option.some.inj hR)
  refine lv_icmp_lt (tgt := 14) hx hb nd_Model_within_2 (by decide) (fun c1 => ?_) (fun c1 => ?_)
  · have hR := q_p c1 hJ2
    refine lv_iconst (v := 0) hx hb nd_Model_within_14 (by decide) ?_
    cases hR
    exact hN2 _  (lv_sub hl [0, 1, 2] rfl)
  · have hR := q_n c1 hJ2
    refine lv_iload_n hx hb nd_Model_within_5 rfl (lv_at hl 0 rfl) ?_
    refine lv_iload_n hx hb nd_Model_within_6 rfl (lv_at hl 2 rfl) ?_
    obtain ⟨j4_0, hJ4, hR⟩ := q_b1 hR
    have hN4 : ∀ (ls : Array Slot), lv_has ls 3 [(0, .int x0), (1, .int x1), (2, .int x2)] → W p l e rm_Model_within s m ar below meth c s.heap [] 0 0 Q (F0 m 15 ls [.int j4_0]) := by
      intro ls  hl
      cases hR
      exact hN2 _  (lv_sub hl [0, 1, 2] rfl)
    refine lv_icmp_gt (tgt := 14) hx hb nd_Model_within_7 (by decide) (fun c3 => ?_) (fun c3 => ?_)
    · have hR := q_p c3 hJ4
      refine lv_iconst (v := 0) hx hb nd_Model_within_14 (by decide) ?_
      cases hR
      exact hN4 _  (lv_sub hl [0, 1, 2] rfl)
    · have hR := q_n c3 hJ4
      refine lv_iconst (v := 1) hx hb nd_Model_within_10 (by decide) ?_
      refine lv_goto (tgt := 15) hx hb nd_Model_within_11 (by decide) ?_
      cases hR
      exact hN4 _  (lv_sub hl [0, 1, 2] rfl)
def rm_Model_by : Room := { frames := 0, cells := 0, slots := 0, locals := 0 }
theorem kc_Model_by : k_cal nY_Model_by nC_Model_by 6 (some .long) 2 := ⟨tt_879, tt_10, by decide +kernel⟩
theorem ks_Model_by : Cond.static nY_Model_by ∈ TT := tt_878
set_option maxHeartbeats 4000000 in
set_option maxRecDepth 100000 in
theorem cn_Model_by (l : Launch) (D : va_G) (ca : Nat → ClassId) (x0 : Int64) (x2 : Int64) (R0 : Int64) (hR : fn_Model_by x0 x2 = some R0) : Met l nY_Model_by (Cond.code nY_Model_by nC_Model_by 6 (some .long) :: TT) rm_Model_by (rd_P [.long x0, .long x2] D ca []) (vp_Sl (fun x => x = R0)) 0 0 (fun _ => False) := by
  refine rd_ofJ (by decide +kernel) (Nat.le_of_ble_eq_true rfl) ?_
  intro p e s m below meth c Q ar ls hx hb hml hts hown hP hK hl hret
  have hown : s.vm.findClass nR_Model = some m.cls := hown
  have hl : lv_has ls 6 [(0, .long x0), (2, .long x2)] := hl
  unfold fn_Model_by at hR
  refine lv_lload_n hx hb nd_Model_by_0 rfl (lv_at hl 0 rfl) ?_
  refine lv_lload_n hx hb nd_Model_by_1 rfl (lv_at hl 1 rfl) ?_
  obtain ⟨h1, hR⟩ := q_nz hR
  refine lv_ldiv hx hb nd_Model_by_2 h1 ?_
  refine lv_lstore (lv' := [(4, .long (x0 / x2)), (0, .long x0), (2, .long x2)]) hx hb nd_Model_by_3 hl (by decide) rfl (fun ls hl => ?_)
  refine lv_lload hx hb nd_Model_by_5 (lv_at hl 0 rfl) ?_
  refine lv_lload_n hx hb nd_Model_by_7 rfl (lv_at hl 2 rfl) ?_
  refine lv_lmul hx hb nd_Model_by_8 ?_
  refine lv_lload_n hx hb nd_Model_by_9 rfl (lv_at hl 1 rfl) ?_
  refine W.lcmp hx hb nd_Model_by_10 ?_
  obtain ⟨j3_0, hJ3, hR⟩ := q_b1 hR
  have hN3 : ∀ (ls : Array Slot), lv_has ls 6 [(0, .long x0), (2, .long x2), (4, .long (x0 / x2))] → W p l e rm_Model_by s m ar below meth c s.heap [] 0 0 Q (F0 m 23 ls [.long j3_0]) := by
    intro ls  hl
    exact hret _ _ _ nd_Model_by_23 (Option.some.inj hR)
  refine lv_if_le (tgt := 21) hx hb nd_Model_by_11 (by decide) (fun c2 => ?_) (fun c2 => ?_)
  · have hR := q_p c2 hJ3
    refine lv_lload hx hb nd_Model_by_21 (lv_at hl 0 rfl) ?_
    cases hR
    exact hN3 _  (lv_sub hl [1, 2, 0] rfl)
  · have hR := q_n c2 hJ3
    refine lv_lload hx hb nd_Model_by_14 (lv_at hl 0 rfl) ?_
    refine lv_lconst (v := 1) hx hb nd_Model_by_16 (by decide) ?_
    refine lv_lsub hx hb nd_Model_by_17 ?_
    refine lv_goto (tgt := 23) hx hb nd_Model_by_18 (by decide) ?_
    cases hR
    exact hN3 _  (lv_sub hl [1, 2, 0] rfl)
def rm_Model_room : Room := { frames := 1, cells := 0, slots := 0, locals := 23 }
theorem kc_Model_room : k_cal nY_Model_room nC_Model_room 3 none 2 := ⟨tt_827, tt_10, by decide +kernel⟩
theorem kv_Model_room : k_vir nY_Model_room := ⟨tt_825, tt_826⟩
set_option maxHeartbeats 4000000 in
set_option maxRecDepth 100000 in
theorem cn_Model_room (l : Launch) (D : va_G) (ca : Nat → ClassId) (qa0 qnow qkept qbooks qkeptBooks qconductances qcapacities qrowDamps qrowWaters qtold qlows qhighs qrates qriskRows qlevels qpointsOf qsums qruleKinds qruleLevels qholds qalarms qalarmHours qvalues qchecked qrights : Nat) (thrown_ : Int32) (volume_ : Int32) (share_ : Int32) (layers_ : Int32) (kilograms_ : Int32) (rows_ : Int32) (hours_ : Int32) (rules_ : Int32) (x1 : Int32) (x2 : Int32) (R0 : Int32) (R1 : Int32) (R2 : Int32) (hR : fn_Model_room volume_ share_ x1 x2 = some (R0, R1, R2)) (sz : Nat) : Met l nY_Model_room (Cond.code nY_Model_room nC_Model_room 3 none :: TT) rm_Model_room (wr_P [.ref qa0, .int x1, .int x2] D ca [oc_Model qa0 thrown_ volume_ share_ qnow qkept qbooks qkeptBooks layers_ qconductances qcapacities kilograms_ rows_ qrowDamps qrowWaters qtold qlows qhighs qrates hours_ qriskRows qlevels qpointsOf qsums rules_ qruleKinds qruleLevels qholds qalarms qalarmHours qvalues qchecked qrights] sz) (va_Qv (fun (_ : Unit) => True) (wr_B D [oc_Model qa0 thrown_ volume_ share_ qnow qkept qbooks qkeptBooks layers_ qconductances qcapacities kilograms_ rows_ qrowDamps qrowWaters qtold qlows qhighs qrates hours_ qriskRows qlevels qpointsOf qsums rules_ qruleKinds qruleLevels qholds qalarms qalarmHours qvalues qchecked qrights] sz [oc_Model qa0 R0 R1 R2 qnow qkept qbooks qkeptBooks layers_ qconductances qcapacities kilograms_ rows_ qrowDamps qrowWaters qtold qlows qhighs qrates hours_ qriskRows qlevels qpointsOf qsums rules_ qruleKinds qruleLevels qholds qalarms qalarmHours qvalues qchecked qrights]) (va_A [oc_Model qa0 thrown_ volume_ share_ qnow qkept qbooks qkeptBooks layers_ qconductances qcapacities kilograms_ rows_ qrowDamps qrowWaters qtold qlows qhighs qrates hours_ qriskRows qlevels qpointsOf qsums rules_ qruleKinds qruleLevels qholds qalarms qalarmHours qvalues qchecked qrights] sz)) 0 0 (va_A [oc_Model qa0 thrown_ volume_ share_ qnow qkept qbooks qkeptBooks layers_ qconductances qcapacities kilograms_ rows_ qrowDamps qrowWaters qtold qlows qhighs qrates hours_ qriskRows qlevels qpointsOf qsums rules_ qruleKinds qruleLevels qholds qalarms qalarmHours qvalues qchecked qrights] sz) := by
  refine wr_ofV (R := (R0, R1, R2)) (w1 := fun r : Int32 × Int32 × Int32 => [oc_Model qa0 r.1 r.2.1 r.2.2 qnow qkept qbooks qkeptBooks layers_ qconductances qcapacities kilograms_ rows_ qrowDamps qrowWaters qtold qlows qhighs qrates hours_ qriskRows qlevels qpointsOf qsums rules_ qruleKinds qruleLevels qholds qalarms qalarmHours qvalues qchecked qrights]) (by decide +kernel) (Nat.le_of_ble_eq_true rfl) ?_
  intro p e s m below meth c Q ar ls hx hb hml hts hown hP hK A hD hA hl hret
  have hS : va_S A s.heap s.heap [] := va_S.rf
  have hown : s.vm.findClass nR_Model = some m.cls := hown
  have hl : lv_has ls 3 [(0, .ref qa0), (1, .int x1), (2, .int x2)] := hl
  unfold fn_Model_room at hR
  refine lv_aload_n hx hb nd_Model_room_0 rfl (lv_at hl 0 rfl) ?_
  refine lv_iload_n hx hb nd_Model_room_1 rfl (lv_at hl 1 rfl) ?_
  refine lv_iconst (v := 1) hx hb nd_Model_room_2 (by decide) ?_
  refine lv_sipush (v := 1000) hx hb nd_Model_room_3 (by decide) ?_
  obtain ⟨r1, e1, hR⟩ := q_b1 hR
  refine k_rSI (As := [.int x1, .int (1 : Int32), .int (1000 : Int32)]) (rest := [.ref qa0]) (r := r1) hx hb hml hown hts (cn_Model_within l D ca x1 (1 : Int32) (1000 : Int32) r1 e1) kc_Model_within ks_Model_within tt_828 ⟨by decide, by decide⟩ rfl rfl hP hK [] rfl rfl hl.1 (Nat.le_of_ble_eq_true rfl) rfl nd_Model_room_6 ⟨Nat.zero_le _, Nat.zero_le _⟩ ?_
  obtain ⟨j3_0, hJ3, hR⟩ := q_b1 hR
  have hN3 : ∀ (H : Heap) (locs : List Loc) (ls : Array Slot), va_P D vwCl [oc_Model qa0 thrown_ volume_ share_ qnow qkept qbooks qkeptBooks layers_ qconductances qcapacities kilograms_ rows_ qrowDamps qrowWaters qtold qlows qhighs qrates hours_ qriskRows qlevels qpointsOf qsums rules_ qruleKinds qruleLevels qholds qalarms qalarmHours qvalues qchecked qrights] H → va_D A [oc_Model qa0 thrown_ volume_ share_ qnow qkept qbooks qkeptBooks layers_ qconductances qcapacities kilograms_ rows_ qrowDamps qrowWaters qtold qlows qhighs qrates hours_ qriskRows qlevels qpointsOf qsums rules_ qruleKinds qruleLevels qholds qalarms qalarmHours qvalues qchecked qrights] → va_S A s.heap H locs → lv_has ls 3 [(0, .ref qa0), (1, .int x1), (2, .int x2)] → W p l e rm_Model_room s m ar below meth c H locs 0 0 Q (F0 m 28 ls [.int j3_0, .ref qa0]) := by
    intro H locs ls hP hD hS hl
    refine lv_iconst (v := 1) hx hb nd_Model_room_28 (by decide) ?_
    refine lv_iconst (v := 1) hx hb nd_Model_room_29 (by decide) ?_
    obtain ⟨r7, u7_0, e7, hR⟩ := q_b2 hR
    refine k_wVI (wr := []) (w2 := [oc_Model qa0 u7_0 volume_ share_ qnow qkept qbooks qkeptBooks layers_ qconductances qcapacities kilograms_ rows_ qrowDamps qrowWaters qtold qlows qhighs qrates hours_ qriskRows qlevels qpointsOf qsums rules_ qruleKinds qruleLevels qholds qalarms qalarmHours qvalues qchecked qrights]) (As := [.int j3_0, .int (1 : Int32), .int (1 : Int32)]) (rest := []) (r := r7) hx hb hml hown hts (cn_Model_goes l D ca qa0 qnow qkept qbooks qkeptBooks qconductances qcapacities qrowDamps qrowWaters qtold qlows qhighs qrates qriskRows qlevels qpointsOf qsums qruleKinds qruleLevels qholds qalarms qalarmHours qvalues qchecked qrights thrown_ volume_ share_ layers_ kilograms_ rows_ hours_ rules_ j3_0 (1 : Int32) (1 : Int32) r7 u7_0 e7 _) kc_Model_goes kv_Model_goes tt_831 ⟨by decide, by decide⟩ rfl rfl hP hK hD hS hA [0] [] [0] rfl (by decide) rfl (by decide) (by decide) rfl (by decide) 0 rfl rfl rfl rfl hl.1 (Nat.le_of_ble_eq_true rfl) rfl nd_Model_room_30 ⟨Nat.zero_le _, Nat.zero_le _⟩ (fun H locs hP hD hS => ?_)
    obtain ⟨j9_0, j9_1, hJ9, hR⟩ := q_b2 hR
    have hN9 : ∀ (H : Heap) (locs : List Loc) (ls : Array Slot), va_P D vwCl [oc_Model qa0 u7_0 j9_0 j9_1 qnow qkept qbooks qkeptBooks layers_ qconductances qcapacities kilograms_ rows_ qrowDamps qrowWaters qtold qlows qhighs qrates hours_ qriskRows qlevels qpointsOf qsums rules_ qruleKinds qruleLevels qholds qalarms qalarmHours qvalues qchecked qrights] H → va_D A [oc_Model qa0 u7_0 j9_0 j9_1 qnow qkept qbooks qkeptBooks layers_ qconductances qcapacities kilograms_ rows_ qrowDamps qrowWaters qtold qlows qhighs qrates hours_ qriskRows qlevels qpointsOf qsums rules_ qruleKinds qruleLevels qholds qalarms qalarmHours qvalues qchecked qrights] → va_S A s.heap H locs → lv_has ls 3 [(0, .ref qa0), (1, .int x1), (2, .int x2)] → W p l e rm_Model_room s m ar below meth c H locs 0 0 Q (F0 m 46 ls []) := by
      intro H locs ls hP hD hS hl
      exact hret (u7_0, j9_0, j9_1) _ _ _ _ nd_Model_room_46 hR hP hD hS
    refine lv_if_eq (tgt := 46) hx hb nd_Model_room_33 (by decide) (fun c8 => ?_) (fun c8 => ?_)
    · have hR := q_p c8 hJ9
      cases hR
      exact hN9 _ _ _ hP hD hS (lv_sub hl [0, 1, 2] rfl)
    · have hR := q_n c8 hJ9
      refine lv_aload_n hx hb nd_Model_room_36 rfl (lv_at hl 0 rfl) ?_
      refine lv_iload_n hx hb nd_Model_room_37 rfl (lv_at hl 1 rfl) ?_
      refine va_put (D := D) (ci := 9) (v := .int x1) (ty := .int) (C := nR_Model) (T := nT_Model) (N := 32) hx hb hts ni_Model nt_Model nt_Model_ok nn_Model hown hK hP hD hS 0 rfl rfl 1 (by decide) (hts (.fieldLink nR_Model 7 "RoomClimateModel" "volume" "I") tt_724) (fun _ h9 => h9) rfl (by decide +kernel) rfl rfl (Nat.le_of_ble_eq_true rfl) nd_Model_room_38 (fun H locs hP hD hS => ?_)
      have hP : va_P D vwCl [oc_Model qa0 u7_0 x1 share_ qnow qkept qbooks qkeptBooks layers_ qconductances qcapacities kilograms_ rows_ qrowDamps qrowWaters qtold qlows qhighs qrates hours_ qriskRows qlevels qpointsOf qsums rules_ qruleKinds qruleLevels qholds qalarms qalarmHours qvalues qchecked qrights] H := hP
      have hD : va_D A [oc_Model qa0 u7_0 x1 share_ qnow qkept qbooks qkeptBooks layers_ qconductances qcapacities kilograms_ rows_ qrowDamps qrowWaters qtold qlows qhighs qrates hours_ qriskRows qlevels qpointsOf qsums rules_ qruleKinds qruleLevels qholds qalarms qalarmHours qvalues qchecked qrights] := hD
      refine lv_aload_n hx hb nd_Model_room_41 rfl (lv_at hl 0 rfl) ?_
      refine lv_iload_n hx hb nd_Model_room_42 rfl (lv_at hl 2 rfl) ?_
      refine va_put (D := D) (ci := 9) (v := .int x2) (ty := .int) (C := nR_Model) (T := nT_Model) (N := 32) hx hb hts ni_Model nt_Model nt_Model_ok nn_Model hown hK hP hD hS 0 rfl rfl 2 (by decide) (hts (.fieldLink nR_Model 13 "RoomClimateModel" "share" "I") tt_725) (fun _ h9 => h9) rfl (by decide +kernel) rfl rfl (Nat.le_of_ble_eq_true rfl) nd_Model_room_43 (fun H locs hP hD hS => ?_)
      have hP : va_P D vwCl [oc_Model qa0 u7_0 x1 x2 qnow qkept qbooks qkeptBooks layers_ qconductances qcapacities kilograms_ rows_ qrowDamps qrowWaters qtold qlows qhighs qrates hours_ qriskRows qlevels qpointsOf qsums rules_ qruleKinds qruleLevels qholds qalarms qalarmHours qvalues qchecked qrights] H := hP
      have hD : va_D A [oc_Model qa0 u7_0 x1 x2 qnow qkept qbooks qkeptBooks layers_ qconductances qcapacities kilograms_ rows_ qrowDamps qrowWaters qtold qlows qhighs qrates hours_ qriskRows qlevels qpointsOf qsums rules_ qruleKinds qruleLevels qholds qalarms qalarmHours qvalues qchecked qrights] := hD
      cases hR
      exact hN9 _ _ _ hP hD hS (lv_sub hl [0, 1, 2] rfl)
  refine lv_if_eq (tgt := 27) hx hb nd_Model_room_9 (by decide) (fun c2 => ?_) (fun c2 => ?_)
  · have hR := q_p c2 hJ3
    refine lv_iconst (v := 0) hx hb nd_Model_room_27 (by decide) ?_
    cases hR
    exact hN3 _ _ _ hP hD hS (lv_sub hl [0, 1, 2] rfl)
  · have hR := q_n c2 hJ3
    refine lv_iload_n hx hb nd_Model_room_12 rfl (lv_at hl 2 rfl) ?_
    refine lv_iconst (v := 0) hx hb nd_Model_room_13 (by decide) ?_
    refine lv_sipush (v := 1000) hx hb nd_Model_room_14 (by decide) ?_
    obtain ⟨r4, e4, hR⟩ := q_b1 hR
    refine k_rSI (As := [.int x2, .int (0 : Int32), .int (1000 : Int32)]) (rest := [.ref qa0]) (r := r4) hx hb hml hown hts (cn_Model_within l D ca x2 (0 : Int32) (1000 : Int32) r4 e4) kc_Model_within ks_Model_within tt_828 ⟨by decide, by decide⟩ rfl rfl hP hK [] rfl rfl hl.1 (Nat.le_of_ble_eq_true rfl) rfl nd_Model_room_17 ⟨Nat.zero_le _, Nat.zero_le _⟩ ?_
    obtain ⟨j6_0, hJ6, hR⟩ := q_b1 hR
    have hN6 : ∀ (H : Heap) (locs : List Loc) (ls : Array Slot), va_P D vwCl [oc_Model qa0 thrown_ volume_ share_ qnow qkept qbooks qkeptBooks layers_ qconductances qcapacities kilograms_ rows_ qrowDamps qrowWaters qtold qlows qhighs qrates hours_ qriskRows qlevels qpointsOf qsums rules_ qruleKinds qruleLevels qholds qalarms qalarmHours qvalues qchecked qrights] H → va_D A [oc_Model qa0 thrown_ volume_ share_ qnow qkept qbooks qkeptBooks layers_ qconductances qcapacities kilograms_ rows_ qrowDamps qrowWaters qtold qlows qhighs qrates hours_ qriskRows qlevels qpointsOf qsums rules_ qruleKinds qruleLevels qholds qalarms qalarmHours qvalues qchecked qrights] → va_S A s.heap H locs → lv_has ls 3 [(0, .ref qa0), (1, .int x1), (2, .int x2)] → W p l e rm_Model_room s m ar below meth c H locs 0 0 Q (F0 m 28 ls [.int j6_0, .ref qa0]) := by
      intro H locs ls hP hD hS hl
      cases hR
      exact hN3 _ _ _ hP hD hS (lv_sub hl [0, 1, 2] rfl)
    refine lv_if_eq (tgt := 27) hx hb nd_Model_room_20 (by decide) (fun c5 => ?_) (fun c5 => ?_)
    · have hR := q_p c5 hJ6
      refine lv_iconst (v := 0) hx hb nd_Model_room_27 (by decide) ?_
      cases hR
      exact hN6 _ _ _ hP hD hS (lv_sub hl [0, 1, 2] rfl)
    · have hR := q_n c5 hJ6
      refine lv_iconst (v := 1) hx hb nd_Model_room_23 (by decide) ?_
      refine lv_goto (tgt := 28) hx hb nd_Model_room_24 (by decide) ?_
      cases hR
      exact hN6 _ _ _ hP hD hS (lv_sub hl [0, 1, 2] rfl)
def rm_Model_wall : Room := { frames := 1, cells := 0, slots := 0, locals := 23 }
theorem kc_Model_wall : k_cal nY_Model_wall nC_Model_wall 3 (some .int) 2 := ⟨tt_838, tt_10, by decide +kernel⟩
theorem kv_Model_wall : k_vir nY_Model_wall := ⟨tt_836, tt_837⟩
set_option maxHeartbeats 4000000 in
set_option maxRecDepth 100000 in
theorem cn_Model_wall (l : Launch) (D : va_G) (ca : Nat → ClassId) (qa0 qnow qkept qbooks qkeptBooks qconductances qcapacities qrowDamps qrowWaters qtold qlows qhighs qrates qriskRows qlevels qpointsOf qsums qruleKinds qruleLevels qholds qalarms qalarmHours qvalues qchecked qrights : Nat) (thrown_ : Int32) (volume_ : Int32) (share_ : Int32) (layers_ : Int32) (kilograms_ : Int32) (rows_ : Int32) (hours_ : Int32) (rules_ : Int32) (conductances_ : Nat → Int32) (capacities_ : Nat → Int32) (now_ : Nat → Int64) (x1 : Int32) (x2 : Int32) (R0 : Int32) (R1 : Int32) (R2 : Nat → Int32) (R3 : Nat → Int32) (R4 : Nat → Int64) (R5 : Int32) (hR : fn_Model_wall layers_ conductances_ capacities_ now_ x1 x2 = some (R0, R1, R2, R3, R4, R5)) (sz : Nat) : Met l nY_Model_wall (Cond.code nY_Model_wall nC_Model_wall 3 (some .int) :: TT) rm_Model_wall (wr_P [.ref qa0, .int x1, .int x2] D ca [oc_Model qa0 thrown_ volume_ share_ qnow qkept qbooks qkeptBooks layers_ qconductances qcapacities kilograms_ rows_ qrowDamps qrowWaters qtold qlows qhighs qrates hours_ qriskRows qlevels qpointsOf qsums rules_ qruleKinds qruleLevels qholds qalarms qalarmHours qvalues qchecked qrights, aI qconductances ca 5 conductances_, aI qcapacities ca 5 capacities_, aJ qnow ca 12 now_] sz) (va_Qi (fun x (_ : Unit) => x = R0) (wr_B D [oc_Model qa0 thrown_ volume_ share_ qnow qkept qbooks qkeptBooks layers_ qconductances qcapacities kilograms_ rows_ qrowDamps qrowWaters qtold qlows qhighs qrates hours_ qriskRows qlevels qpointsOf qsums rules_ qruleKinds qruleLevels qholds qalarms qalarmHours qvalues qchecked qrights, aI qconductances ca 5 conductances_, aI qcapacities ca 5 capacities_, aJ qnow ca 12 now_] sz [oc_Model qa0 R1 volume_ share_ qnow qkept qbooks qkeptBooks R5 qconductances qcapacities kilograms_ rows_ qrowDamps qrowWaters qtold qlows qhighs qrates hours_ qriskRows qlevels qpointsOf qsums rules_ qruleKinds qruleLevels qholds qalarms qalarmHours qvalues qchecked qrights, aI qconductances ca 5 R2, aI qcapacities ca 5 R3, aJ qnow ca 12 R4]) (va_A [oc_Model qa0 thrown_ volume_ share_ qnow qkept qbooks qkeptBooks layers_ qconductances qcapacities kilograms_ rows_ qrowDamps qrowWaters qtold qlows qhighs qrates hours_ qriskRows qlevels qpointsOf qsums rules_ qruleKinds qruleLevels qholds qalarms qalarmHours qvalues qchecked qrights, aI qconductances ca 5 conductances_, aI qcapacities ca 5 capacities_, aJ qnow ca 12 now_] sz)) 0 0 (va_A [oc_Model qa0 thrown_ volume_ share_ qnow qkept qbooks qkeptBooks layers_ qconductances qcapacities kilograms_ rows_ qrowDamps qrowWaters qtold qlows qhighs qrates hours_ qriskRows qlevels qpointsOf qsums rules_ qruleKinds qruleLevels qholds qalarms qalarmHours qvalues qchecked qrights, aI qconductances ca 5 conductances_, aI qcapacities ca 5 capacities_, aJ qnow ca 12 now_] sz) := by
  refine wr_ofI (R := (R0, R1, R2, R3, R4, R5)) (val := fun r => r.1) (w1 := fun r : Int32 × Int32 × (Nat → Int32) × (Nat → Int32) × (Nat → Int64) × Int32 => [oc_Model qa0 r.2.1 volume_ share_ qnow qkept qbooks qkeptBooks r.2.2.2.2.2 qconductances qcapacities kilograms_ rows_ qrowDamps qrowWaters qtold qlows qhighs qrates hours_ qriskRows qlevels qpointsOf qsums rules_ qruleKinds qruleLevels qholds qalarms qalarmHours qvalues qchecked qrights, aI qconductances ca 5 r.2.2.1, aI qcapacities ca 5 r.2.2.2.1, aJ qnow ca 12 r.2.2.2.2.1]) (by decide +kernel) (Nat.le_of_ble_eq_true rfl) ?_
  intro p e s m below meth c Q ar ls hx hb hml hts hown hP hK A hD hA hl hret
  have hS : va_S A s.heap s.heap [] := va_S.rf
  have hown : s.vm.findClass nR_Model = some m.cls := hown
  have hl : lv_has ls 3 [(0, .ref qa0), (1, .int x1), (2, .int x2)] := hl
  unfold fn_Model_wall at hR
  refine lv_aload_n hx hb nd_Model_wall_0 rfl (lv_at hl 0 rfl) ?_
  refine lv_aload_n hx hb nd_Model_wall_1 rfl (lv_at hl 0 rfl) ?_
  refine va_get (D := D) (ci := 9) (v := .int layers_) (C := nR_Model) (T := nT_Model) (N := 32) hx hb hts ni_Model hown hK hP 0 rfl rfl 7 (by decide) (hts (.fieldLink nR_Model 107 "RoomClimateModel" "layers" "I") tt_730) (fun _ h9 => h9) rfl nd_Model_wall_2 ?_
  refine lv_iconst (v := 5) hx hb nd_Model_wall_5 (by decide) ?_
  obtain ⟨j2_0, hJ2, hR⟩ := q_b1 hR
  have hN2 : ∀ (H : Heap) (locs : List Loc) (ls : Array Slot), va_P D vwCl [oc_Model qa0 thrown_ volume_ share_ qnow qkept qbooks qkeptBooks layers_ qconductances qcapacities kilograms_ rows_ qrowDamps qrowWaters qtold qlows qhighs qrates hours_ qriskRows qlevels qpointsOf qsums rules_ qruleKinds qruleLevels qholds qalarms qalarmHours qvalues qchecked qrights, aI qconductances ca 5 conductances_, aI qcapacities ca 5 capacities_, aJ qnow ca 12 now_] H → va_D A [oc_Model qa0 thrown_ volume_ share_ qnow qkept qbooks qkeptBooks layers_ qconductances qcapacities kilograms_ rows_ qrowDamps qrowWaters qtold qlows qhighs qrates hours_ qriskRows qlevels qpointsOf qsums rules_ qruleKinds qruleLevels qholds qalarms qalarmHours qvalues qchecked qrights, aI qconductances ca 5 conductances_, aI qcapacities ca 5 capacities_, aJ qnow ca 12 now_] → va_S A s.heap H locs → lv_has ls 3 [(0, .ref qa0), (1, .int x1), (2, .int x2)] → W p l e rm_Model_wall s m ar below meth c H locs 0 0 Q (F0 m 14 ls [.int j2_0, .ref qa0]) := by
    intro H locs ls hP hD hS hl
    refine lv_iload_n hx hb nd_Model_wall_14 rfl (lv_at hl 1 rfl) ?_
    refine lv_iconst (v := 0) hx hb nd_Model_wall_15 (by decide) ?_
    refine lv_bipush (v := 100) hx hb nd_Model_wall_16 (by decide) ?_
    obtain ⟨r3, e3, hR⟩ := q_b1 hR
    refine k_rSI (As := [.int x1, .int (0 : Int32), .int (100 : Int32)]) (rest := [.int j2_0, .ref qa0]) (r := r3) hx hb hml hown hts (cn_Model_within l D ca x1 (0 : Int32) (100 : Int32) r3 e3) kc_Model_within ks_Model_within tt_828 ⟨by decide, by decide⟩ rfl rfl hP hK [] rfl rfl hl.1 (Nat.le_of_ble_eq_true rfl) rfl nd_Model_wall_18 ⟨Nat.zero_le _, Nat.zero_le _⟩ ?_
    obtain ⟨j5_0, hJ5, hR⟩ := q_b1 hR
    have hN5 : ∀ (H : Heap) (locs : List Loc) (ls : Array Slot), va_P D vwCl [oc_Model qa0 thrown_ volume_ share_ qnow qkept qbooks qkeptBooks layers_ qconductances qcapacities kilograms_ rows_ qrowDamps qrowWaters qtold qlows qhighs qrates hours_ qriskRows qlevels qpointsOf qsums rules_ qruleKinds qruleLevels qholds qalarms qalarmHours qvalues qchecked qrights, aI qconductances ca 5 conductances_, aI qcapacities ca 5 capacities_, aJ qnow ca 12 now_] H → va_D A [oc_Model qa0 thrown_ volume_ share_ qnow qkept qbooks qkeptBooks layers_ qconductances qcapacities kilograms_ rows_ qrowDamps qrowWaters qtold qlows qhighs qrates hours_ qriskRows qlevels qpointsOf qsums rules_ qruleKinds qruleLevels qholds qalarms qalarmHours qvalues qchecked qrights, aI qconductances ca 5 conductances_, aI qcapacities ca 5 capacities_, aJ qnow ca 12 now_] → va_S A s.heap H locs → lv_has ls 3 [(0, .ref qa0), (1, .int x1), (2, .int x2)] → W p l e rm_Model_wall s m ar below meth c H locs 0 0 Q (F0 m 40 ls [.int j5_0, .int j2_0, .ref qa0]) := by
      intro H locs ls hP hD hS hl
      refine lv_iconst (v := 1) hx hb nd_Model_wall_40 (by decide) ?_
      obtain ⟨r9, u9_0, e9, hR⟩ := q_b2 hR
      refine k_wVI (wr := [aI qconductances ca 5 conductances_, aI qcapacities ca 5 capacities_, aJ qnow ca 12 now_]) (w2 := [oc_Model qa0 u9_0 volume_ share_ qnow qkept qbooks qkeptBooks layers_ qconductances qcapacities kilograms_ rows_ qrowDamps qrowWaters qtold qlows qhighs qrates hours_ qriskRows qlevels qpointsOf qsums rules_ qruleKinds qruleLevels qholds qalarms qalarmHours qvalues qchecked qrights, aI qconductances ca 5 conductances_, aI qcapacities ca 5 capacities_, aJ qnow ca 12 now_]) (As := [.int j2_0, .int j5_0, .int (1 : Int32)]) (rest := []) (r := r9) hx hb hml hown hts (cn_Model_goes l D ca qa0 qnow qkept qbooks qkeptBooks qconductances qcapacities qrowDamps qrowWaters qtold qlows qhighs qrates qriskRows qlevels qpointsOf qsums qruleKinds qruleLevels qholds qalarms qalarmHours qvalues qchecked qrights thrown_ volume_ share_ layers_ kilograms_ rows_ hours_ rules_ j2_0 j5_0 (1 : Int32) r9 u9_0 e9 _) kc_Model_goes kv_Model_goes tt_831 ⟨by decide, by decide⟩ rfl rfl hP hK hD hS hA [0] [1, 2, 3] [3, 0, 1, 2] rfl (by decide) rfl (by decide) (by decide) rfl (by decide) 0 rfl rfl rfl rfl hl.1 (Nat.le_of_ble_eq_true rfl) rfl nd_Model_wall_41 ⟨Nat.zero_le _, Nat.zero_le _⟩ (fun H locs hP hD hS => ?_)
      refine lv_if_ne (tgt := 49) hx hb nd_Model_wall_44 (by decide) (fun c10 => ?_) (fun c10 => ?_)
      · replace hR := q_n c10 hR
        refine lv_aload_n hx hb nd_Model_wall_49 rfl (lv_at hl 0 rfl) ?_
        refine va_get (D := D) (ci := 9) (v := .ref qconductances) (C := nR_Model) (T := nT_Model) (N := 32) hx hb hts ni_Model hown hK hP 0 rfl rfl 8 (by decide) (hts (.fieldLink nR_Model 29 "RoomClimateModel" "conductances" "[I") tt_731) (fun _ h9 => h9) rfl nd_Model_wall_50 ?_
        refine lv_aload_n hx hb nd_Model_wall_53 rfl (lv_at hl 0 rfl) ?_
        refine va_get (D := D) (ci := 9) (v := .int layers_) (C := nR_Model) (T := nT_Model) (N := 32) hx hb hts ni_Model hown hK hP 0 rfl rfl 7 (by decide) (hts (.fieldLink nR_Model 107 "RoomClimateModel" "layers" "I") tt_730) (fun _ h9 => h9) rfl nd_Model_wall_54 ?_
        refine lv_iload_n hx hb nd_Model_wall_57 rfl (lv_at hl 1 rfl) ?_
        obtain ⟨h11, hR⟩ := q_ix hR
        refine va_iast hx hb hK hP hD hS 1 0 rfl rfl h11 nd_Model_wall_58 (fun H locs hP hD hS => ?_)
        have hP : va_P D vwCl [oc_Model qa0 u9_0 volume_ share_ qnow qkept qbooks qkeptBooks layers_ qconductances qcapacities kilograms_ rows_ qrowDamps qrowWaters qtold qlows qhighs qrates hours_ qriskRows qlevels qpointsOf qsums rules_ qruleKinds qruleLevels qholds qalarms qalarmHours qvalues qchecked qrights, aI qconductances ca 5 (upd conductances_ layers_.toNatClampNeg x1), aI qcapacities ca 5 capacities_, aJ qnow ca 12 now_] H := hP
        have hD : va_D A [oc_Model qa0 u9_0 volume_ share_ qnow qkept qbooks qkeptBooks layers_ qconductances qcapacities kilograms_ rows_ qrowDamps qrowWaters qtold qlows qhighs qrates hours_ qriskRows qlevels qpointsOf qsums rules_ qruleKinds qruleLevels qholds qalarms qalarmHours qvalues qchecked qrights, aI qconductances ca 5 (upd conductances_ layers_.toNatClampNeg x1), aI qcapacities ca 5 capacities_, aJ qnow ca 12 now_] := hD
        refine lv_aload_n hx hb nd_Model_wall_59 rfl (lv_at hl 0 rfl) ?_
        refine va_get (D := D) (ci := 9) (v := .ref qcapacities) (C := nR_Model) (T := nT_Model) (N := 32) hx hb hts ni_Model hown hK hP 0 rfl rfl 9 (by decide) (hts (.fieldLink nR_Model 33 "RoomClimateModel" "capacities" "[I") tt_732) (fun _ h9 => h9) rfl nd_Model_wall_60 ?_
        refine lv_aload_n hx hb nd_Model_wall_63 rfl (lv_at hl 0 rfl) ?_
        refine va_get (D := D) (ci := 9) (v := .int layers_) (C := nR_Model) (T := nT_Model) (N := 32) hx hb hts ni_Model hown hK hP 0 rfl rfl 7 (by decide) (hts (.fieldLink nR_Model 107 "RoomClimateModel" "layers" "I") tt_730) (fun _ h9 => h9) rfl nd_Model_wall_64 ?_
        refine lv_iload_n hx hb nd_Model_wall_67 rfl (lv_at hl 2 rfl) ?_
        refine va_iast hx hb hK hP hD hS 2 0 rfl rfl h11 nd_Model_wall_68 (fun H locs hP hD hS => ?_)
        have hP : va_P D vwCl [oc_Model qa0 u9_0 volume_ share_ qnow qkept qbooks qkeptBooks layers_ qconductances qcapacities kilograms_ rows_ qrowDamps qrowWaters qtold qlows qhighs qrates hours_ qriskRows qlevels qpointsOf qsums rules_ qruleKinds qruleLevels qholds qalarms qalarmHours qvalues qchecked qrights, aI qconductances ca 5 (upd conductances_ layers_.toNatClampNeg x1), aI qcapacities ca 5 (upd capacities_ layers_.toNatClampNeg x2), aJ qnow ca 12 now_] H := hP
        have hD : va_D A [oc_Model qa0 u9_0 volume_ share_ qnow qkept qbooks qkeptBooks layers_ qconductances qcapacities kilograms_ rows_ qrowDamps qrowWaters qtold qlows qhighs qrates hours_ qriskRows qlevels qpointsOf qsums rules_ qruleKinds qruleLevels qholds qalarms qalarmHours qvalues qchecked qrights, aI qconductances ca 5 (upd conductances_ layers_.toNatClampNeg x1), aI qcapacities ca 5 (upd capacities_ layers_.toNatClampNeg x2), aJ qnow ca 12 now_] := hD
        refine lv_aload_n hx hb nd_Model_wall_69 rfl (lv_at hl 0 rfl) ?_
        refine va_get (D := D) (ci := 9) (v := .ref qnow) (C := nR_Model) (T := nT_Model) (N := 32) hx hb hts ni_Model hown hK hP 0 rfl rfl 3 (by decide) (hts (.fieldLink nR_Model 16 "RoomClimateModel" "now" "[J") tt_726) (fun _ h9 => h9) rfl nd_Model_wall_70 ?_
        refine lv_iconst (v := 3) hx hb nd_Model_wall_73 (by decide) ?_
        refine lv_aload_n hx hb nd_Model_wall_74 rfl (lv_at hl 0 rfl) ?_
        refine va_get (D := D) (ci := 9) (v := .int layers_) (C := nR_Model) (T := nT_Model) (N := 32) hx hb hts ni_Model hown hK hP 0 rfl rfl 7 (by decide) (hts (.fieldLink nR_Model 107 "RoomClimateModel" "layers" "I") tt_730) (fun _ h9 => h9) rfl nd_Model_wall_75 ?_
        refine lv_iadd hx hb nd_Model_wall_78 ?_
        refine lv_ldc2 hx hb hown (hts _ tt_839) nd_Model_wall_79 ?_
        refine lv_iload_n hx hb nd_Model_wall_82 rfl (lv_at hl 2 rfl) ?_
        refine lv_i2l hx hb nd_Model_wall_83 rfl ?_
        refine lv_lmul hx hb nd_Model_wall_84 ?_
        obtain ⟨h12, hR⟩ := q_ix hR
        refine va_last hx hb hK hP hD hS 3 1 rfl rfl h12 nd_Model_wall_85 (fun H locs hP hD hS => ?_)
        have hP : va_P D vwCl [oc_Model qa0 u9_0 volume_ share_ qnow qkept qbooks qkeptBooks layers_ qconductances qcapacities kilograms_ rows_ qrowDamps qrowWaters qtold qlows qhighs qrates hours_ qriskRows qlevels qpointsOf qsums rules_ qruleKinds qruleLevels qholds qalarms qalarmHours qvalues qchecked qrights, aI qconductances ca 5 (upd conductances_ layers_.toNatClampNeg x1), aI qcapacities ca 5 (upd capacities_ layers_.toNatClampNeg x2), aJ qnow ca 12 (vp_updL now_ ((3 : Int32) + layers_).toNatClampNeg ((20000 : Int64) * x2.toInt64))] H := hP
        have hD : va_D A [oc_Model qa0 u9_0 volume_ share_ qnow qkept qbooks qkeptBooks layers_ qconductances qcapacities kilograms_ rows_ qrowDamps qrowWaters qtold qlows qhighs qrates hours_ qriskRows qlevels qpointsOf qsums rules_ qruleKinds qruleLevels qholds qalarms qalarmHours qvalues qchecked qrights, aI qconductances ca 5 (upd conductances_ layers_.toNatClampNeg x1), aI qcapacities ca 5 (upd capacities_ layers_.toNatClampNeg x2), aJ qnow ca 12 (vp_updL now_ ((3 : Int32) + layers_).toNatClampNeg ((20000 : Int64) * x2.toInt64))] := hD
        refine lv_aload_n hx hb nd_Model_wall_86 rfl (lv_at hl 0 rfl) ?_
        refine lv_dup hx hb nd_Model_wall_87 rfl ?_
        refine va_get (D := D) (ci := 9) (v := .int layers_) (C := nR_Model) (T := nT_Model) (N := 32) hx hb hts ni_Model hown hK hP 0 rfl rfl 7 (by decide) (hts (.fieldLink nR_Model 107 "RoomClimateModel" "layers" "I") tt_730) (fun _ h9 => h9) rfl nd_Model_wall_88 ?_
        refine lv_iconst (v := 1) hx hb nd_Model_wall_91 (by decide) ?_
        refine lv_iadd hx hb nd_Model_wall_92 ?_
        refine va_put (D := D) (ci := 9) (v := .int (layers_ + (1 : Int32))) (ty := .int) (C := nR_Model) (T := nT_Model) (N := 32) hx hb hts ni_Model nt_Model nt_Model_ok nn_Model hown hK hP hD hS 0 rfl rfl 7 (by decide) (hts (.fieldLink nR_Model 107 "RoomClimateModel" "layers" "I") tt_730) (fun _ h9 => h9) rfl (by decide +kernel) rfl rfl (Nat.le_of_ble_eq_true rfl) nd_Model_wall_93 (fun H locs hP hD hS => ?_)
        have hP : va_P D vwCl [oc_Model qa0 u9_0 volume_ share_ qnow qkept qbooks qkeptBooks (layers_ + (1 : Int32)) qconductances qcapacities kilograms_ rows_ qrowDamps qrowWaters qtold qlows qhighs qrates hours_ qriskRows qlevels qpointsOf qsums rules_ qruleKinds qruleLevels qholds qalarms qalarmHours qvalues qchecked qrights, aI qconductances ca 5 (upd conductances_ layers_.toNatClampNeg x1), aI qcapacities ca 5 (upd capacities_ layers_.toNatClampNeg x2), aJ qnow ca 12 (vp_updL now_ ((3 : Int32) + layers_).toNatClampNeg ((20000 : Int64) * x2.toInt64))] H := hP
        have hD : va_D A [oc_Model qa0 u9_0 volume_ share_ qnow qkept qbooks qkeptBooks (layers_ + (1 : Int32)) qconductances qcapacities kilograms_ rows_ qrowDamps qrowWaters qtold qlows qhighs qrates hours_ qriskRows qlevels qpointsOf qsums rules_ qruleKinds qruleLevels qholds qalarms qalarmHours qvalues qchecked qrights, aI qconductances ca 5 (upd conductances_ layers_.toNatClampNeg x1), aI qcapacities ca 5 (upd capacities_ layers_.toNatClampNeg x2), aJ qnow ca 12 (vp_updL now_ ((3 : Int32) + layers_).toNatClampNeg ((20000 : Int64) * x2.toInt64))] := hD
        refine lv_aload_n hx hb nd_Model_wall_96 rfl (lv_at hl 0 rfl) ?_
        refine va_get (D := D) (ci := 9) (v := .int (layers_ + (1 : Int32))) (C := nR_Model) (T := nT_Model) (N := 32) hx hb hts ni_Model hown hK hP 0 rfl rfl 7 (by decide) (hts (.fieldLink nR_Model 107 "RoomClimateModel" "layers" "I") tt_730) (fun _ h9 => h9) rfl nd_Model_wall_97 ?_
        refine lv_iconst (v := 1) hx hb nd_Model_wall_100 (by decide) ?_
        refine lv_isub hx hb nd_Model_wall_101 ?_
        exact hret ((layers_ + (1 : Int32)) - (1 : Int32), u9_0, upd conductances_ layers_.toNatClampNeg x1, upd capacities_ layers_.toNatClampNeg x2, vp_updL now_ ((3 : Int32) + layers_).toNatClampNeg ((20000 : Int64) * x2.toInt64), layers_ + (1 : Int32)) _ _ _ _ nd_Model_wall_102 hR hP hD hS
      · replace hR := q_p c10 hR
        refine lv_iconst (v := 0) hx hb nd_Model_wall_47 (by decide) ?_
        exact hret ((0 : Int32), u9_0, conductances_, capacities_, now_, layers_) _ _ _ _ nd_Model_wall_48 hR hP hD hS
    refine lv_if_eq (tgt := 39) hx hb nd_Model_wall_21 (by decide) (fun c4 => ?_) (fun c4 => ?_)
    · have hR := q_p c4 hJ5
      refine lv_iconst (v := 0) hx hb nd_Model_wall_39 (by decide) ?_
      cases hR
      exact hN5 _ _ _ hP hD hS (lv_sub hl [0, 1, 2] rfl)
    · have hR := q_n c4 hJ5
      refine lv_iload_n hx hb nd_Model_wall_24 rfl (lv_at hl 2 rfl) ?_
      refine lv_iconst (v := 1) hx hb nd_Model_wall_25 (by decide) ?_
      refine lv_sipush (v := 1000) hx hb nd_Model_wall_26 (by decide) ?_
      obtain ⟨r6, e6, hR⟩ := q_b1 hR
      refine k_rSI (As := [.int x2, .int (1 : Int32), .int (1000 : Int32)]) (rest := [.int j2_0, .ref qa0]) (r := r6) hx hb hml hown hts (cn_Model_within l D ca x2 (1 : Int32) (1000 : Int32) r6 e6) kc_Model_within ks_Model_within tt_828 ⟨by decide, by decide⟩ rfl rfl hP hK [] rfl rfl hl.1 (Nat.le_of_ble_eq_true rfl) rfl nd_Model_wall_29 ⟨Nat.zero_le _, Nat.zero_le _⟩ ?_
      obtain ⟨j8_0, hJ8, hR⟩ := q_b1 hR
      have hN8 : ∀ (H : Heap) (locs : List Loc) (ls : Array Slot), va_P D vwCl [oc_Model qa0 thrown_ volume_ share_ qnow qkept qbooks qkeptBooks layers_ qconductances qcapacities kilograms_ rows_ qrowDamps qrowWaters qtold qlows qhighs qrates hours_ qriskRows qlevels qpointsOf qsums rules_ qruleKinds qruleLevels qholds qalarms qalarmHours qvalues qchecked qrights, aI qconductances ca 5 conductances_, aI qcapacities ca 5 capacities_, aJ qnow ca 12 now_] H → va_D A [oc_Model qa0 thrown_ volume_ share_ qnow qkept qbooks qkeptBooks layers_ qconductances qcapacities kilograms_ rows_ qrowDamps qrowWaters qtold qlows qhighs qrates hours_ qriskRows qlevels qpointsOf qsums rules_ qruleKinds qruleLevels qholds qalarms qalarmHours qvalues qchecked qrights, aI qconductances ca 5 conductances_, aI qcapacities ca 5 capacities_, aJ qnow ca 12 now_] → va_S A s.heap H locs → lv_has ls 3 [(0, .ref qa0), (1, .int x1), (2, .int x2)] → W p l e rm_Model_wall s m ar below meth c H locs 0 0 Q (F0 m 40 ls [.int j8_0, .int j2_0, .ref qa0]) := by
        intro H locs ls hP hD hS hl
        cases hR
        exact hN5 _ _ _ hP hD hS (lv_sub hl [0, 1, 2] rfl)
      refine lv_if_eq (tgt := 39) hx hb nd_Model_wall_32 (by decide) (fun c7 => ?_) (fun c7 => ?_)
      · have hR := q_p c7 hJ8
        refine lv_iconst (v := 0) hx hb nd_Model_wall_39 (by decide) ?_
        cases hR
        exact hN8 _ _ _ hP hD hS (lv_sub hl [0, 1, 2] rfl)
      · have hR := q_n c7 hJ8
        refine lv_iconst (v := 1) hx hb nd_Model_wall_35 (by decide) ?_
        refine lv_goto (tgt := 40) hx hb nd_Model_wall_36 (by decide) ?_
        cases hR
        exact hN8 _ _ _ hP hD hS (lv_sub hl [0, 1, 2] rfl)
  refine lv_icmp_ge (tgt := 13) hx hb nd_Model_wall_6 (by decide) (fun c1 => ?_) (fun c1 => ?_)
  · have hR := q_p c1 hJ2
    refine lv_iconst (v := 0) hx hb nd_Model_wall_13 (by decide) ?_
    cases hR
    exact hN2 _ _ _ hP hD hS (lv_sub hl [0, 1, 2] rfl)
  · have hR := q_n c1 hJ2
    refine lv_iconst (v := 1) hx hb nd_Model_wall_9 (by decide) ?_
    refine lv_goto (tgt := 14) hx hb nd_Model_wall_10 (by decide) ?_
    cases hR
    exact hN2 _ _ _ hP hD hS (lv_sub hl [0, 1, 2] rfl)
def rm_Model_goods : Room := { frames := 1, cells := 0, slots := 0, locals := 23 }
theorem kc_Model_goods : k_cal nY_Model_goods nC_Model_goods 3 (some .int) 1 := ⟨tt_843, tt_10, by decide +kernel⟩
theorem kv_Model_goods : k_vir nY_Model_goods := ⟨tt_841, tt_842⟩
set_option maxHeartbeats 4000000 in
set_option maxRecDepth 100000 in
theorem cn_Model_goods (l : Launch) (D : va_G) (ca : Nat → ClassId) (qa0 qnow qkept qbooks qkeptBooks qconductances qcapacities qrowDamps qrowWaters qtold qlows qhighs qrates qriskRows qlevels qpointsOf qsums qruleKinds qruleLevels qholds qalarms qalarmHours qvalues qchecked qrights : Nat) (thrown_ : Int32) (volume_ : Int32) (share_ : Int32) (layers_ : Int32) (kilograms_ : Int32) (rows_ : Int32) (hours_ : Int32) (rules_ : Int32) (x1 : Int32) (R0 : Int32) (R1 : Int32) (R2 : Int32) (hR : fn_Model_goods kilograms_ x1 = some (R0, R1, R2)) (sz : Nat) : Met l nY_Model_goods (Cond.code nY_Model_goods nC_Model_goods 3 (some .int) :: TT) rm_Model_goods (wr_P [.ref qa0, .int x1] D ca [oc_Model qa0 thrown_ volume_ share_ qnow qkept qbooks qkeptBooks layers_ qconductances qcapacities kilograms_ rows_ qrowDamps qrowWaters qtold qlows qhighs qrates hours_ qriskRows qlevels qpointsOf qsums rules_ qruleKinds qruleLevels qholds qalarms qalarmHours qvalues qchecked qrights] sz) (va_Qi (fun x (_ : Unit) => x = R0) (wr_B D [oc_Model qa0 thrown_ volume_ share_ qnow qkept qbooks qkeptBooks layers_ qconductances qcapacities kilograms_ rows_ qrowDamps qrowWaters qtold qlows qhighs qrates hours_ qriskRows qlevels qpointsOf qsums rules_ qruleKinds qruleLevels qholds qalarms qalarmHours qvalues qchecked qrights] sz [oc_Model qa0 R1 volume_ share_ qnow qkept qbooks qkeptBooks layers_ qconductances qcapacities R2 rows_ qrowDamps qrowWaters qtold qlows qhighs qrates hours_ qriskRows qlevels qpointsOf qsums rules_ qruleKinds qruleLevels qholds qalarms qalarmHours qvalues qchecked qrights]) (va_A [oc_Model qa0 thrown_ volume_ share_ qnow qkept qbooks qkeptBooks layers_ qconductances qcapacities kilograms_ rows_ qrowDamps qrowWaters qtold qlows qhighs qrates hours_ qriskRows qlevels qpointsOf qsums rules_ qruleKinds qruleLevels qholds qalarms qalarmHours qvalues qchecked qrights] sz)) 0 0 (va_A [oc_Model qa0 thrown_ volume_ share_ qnow qkept qbooks qkeptBooks layers_ qconductances qcapacities kilograms_ rows_ qrowDamps qrowWaters qtold qlows qhighs qrates hours_ qriskRows qlevels qpointsOf qsums rules_ qruleKinds qruleLevels qholds qalarms qalarmHours qvalues qchecked qrights] sz) := by
  refine wr_ofI (R := (R0, R1, R2)) (val := fun r => r.1) (w1 := fun r : Int32 × Int32 × Int32 => [oc_Model qa0 r.2.1 volume_ share_ qnow qkept qbooks qkeptBooks layers_ qconductances qcapacities r.2.2 rows_ qrowDamps qrowWaters qtold qlows qhighs qrates hours_ qriskRows qlevels qpointsOf qsums rules_ qruleKinds qruleLevels qholds qalarms qalarmHours qvalues qchecked qrights]) (by decide +kernel) (Nat.le_of_ble_eq_true rfl) ?_
  intro p e s m below meth c Q ar ls hx hb hml hts hown hP hK A hD hA hl hret
  have hS : va_S A s.heap s.heap [] := va_S.rf
  have hown : s.vm.findClass nR_Model = some m.cls := hown
  have hl : lv_has ls 3 [(0, .ref qa0), (1, .int x1)] := hl
  unfold fn_Model_goods at hR
  refine lv_aload_n hx hb nd_Model_goods_0 rfl (lv_at hl 0 rfl) ?_
  refine lv_iload_n hx hb nd_Model_goods_1 rfl (lv_at hl 1 rfl) ?_
  refine lv_iconst (v := 0) hx hb nd_Model_goods_2 (by decide) ?_
  refine lv_sipush (v := 1000) hx hb nd_Model_goods_3 (by decide) ?_
  obtain ⟨r1, e1, hR⟩ := q_b1 hR
  refine k_rSI (As := [.int x1, .int (0 : Int32), .int (1000 : Int32)]) (rest := [.ref qa0]) (r := r1) hx hb hml hown hts (cn_Model_within l D ca x1 (0 : Int32) (1000 : Int32) r1 e1) kc_Model_within ks_Model_within tt_828 ⟨by decide, by decide⟩ rfl rfl hP hK [] rfl rfl hl.1 (Nat.le_of_ble_eq_true rfl) rfl nd_Model_goods_6 ⟨Nat.zero_le _, Nat.zero_le _⟩ ?_
  refine lv_iconst (v := 1) hx hb nd_Model_goods_9 (by decide) ?_
  refine lv_iconst (v := 1) hx hb nd_Model_goods_10 (by decide) ?_
  obtain ⟨r2, u2_0, e2, hR⟩ := q_b2 hR
  refine k_wVI (wr := []) (w2 := [oc_Model qa0 u2_0 volume_ share_ qnow qkept qbooks qkeptBooks layers_ qconductances qcapacities kilograms_ rows_ qrowDamps qrowWaters qtold qlows qhighs qrates hours_ qriskRows qlevels qpointsOf qsums rules_ qruleKinds qruleLevels qholds qalarms qalarmHours qvalues qchecked qrights]) (As := [.int r1, .int (1 : Int32), .int (1 : Int32)]) (rest := []) (r := r2) hx hb hml hown hts (cn_Model_goes l D ca qa0 qnow qkept qbooks qkeptBooks qconductances qcapacities qrowDamps qrowWaters qtold qlows qhighs qrates qriskRows qlevels qpointsOf qsums qruleKinds qruleLevels qholds qalarms qalarmHours qvalues qchecked qrights thrown_ volume_ share_ layers_ kilograms_ rows_ hours_ rules_ r1 (1 : Int32) (1 : Int32) r2 u2_0 e2 _) kc_Model_goes kv_Model_goes tt_831 ⟨by decide, by decide⟩ rfl rfl hP hK hD hS hA [0] [] [0] rfl (by decide) rfl (by decide) (by decide) rfl (by decide) 0 rfl rfl rfl rfl hl.1 (Nat.le_of_ble_eq_true rfl) rfl nd_Model_goods_11 ⟨Nat.zero_le _, Nat.zero_le _⟩ (fun H locs hP hD hS => ?_)
  refine lv_if_ne (tgt := 19) hx hb nd_Model_goods_14 (by decide) (fun c3 => ?_) (fun c3 => ?_)
  · replace hR := q_n c3 hR
    refine lv_aload_n hx hb nd_Model_goods_19 rfl (lv_at hl 0 rfl) ?_
    refine va_get (D := D) (ci := 9) (v := .int kilograms_) (C := nR_Model) (T := nT_Model) (N := 32) hx hb hts ni_Model hown hK hP 0 rfl rfl 10 (by decide) (hts (.fieldLink nR_Model 112 "RoomClimateModel" "kilograms" "I") tt_733) (fun _ h9 => h9) rfl nd_Model_goods_20 ?_
    refine lv_istore_n (lv' := [(2, .int kilograms_), (0, .ref qa0), (1, .int x1)]) hx hb nd_Model_goods_23 rfl hl (by decide) rfl (fun ls hl => ?_)
    refine lv_aload_n hx hb nd_Model_goods_24 rfl (lv_at hl 1 rfl) ?_
    refine lv_iload_n hx hb nd_Model_goods_25 rfl (lv_at hl 2 rfl) ?_
    refine va_put (D := D) (ci := 9) (v := .int x1) (ty := .int) (C := nR_Model) (T := nT_Model) (N := 32) hx hb hts ni_Model nt_Model nt_Model_ok nn_Model hown hK hP hD hS 0 rfl rfl 10 (by decide) (hts (.fieldLink nR_Model 112 "RoomClimateModel" "kilograms" "I") tt_733) (fun _ h9 => h9) rfl (by decide +kernel) rfl rfl (Nat.le_of_ble_eq_true rfl) nd_Model_goods_26 (fun H locs hP hD hS => ?_)
    have hP : va_P D vwCl [oc_Model qa0 u2_0 volume_ share_ qnow qkept qbooks qkeptBooks layers_ qconductances qcapacities x1 rows_ qrowDamps qrowWaters qtold qlows qhighs qrates hours_ qriskRows qlevels qpointsOf qsums rules_ qruleKinds qruleLevels qholds qalarms qalarmHours qvalues qchecked qrights] H := hP
    have hD : va_D A [oc_Model qa0 u2_0 volume_ share_ qnow qkept qbooks qkeptBooks layers_ qconductances qcapacities x1 rows_ qrowDamps qrowWaters qtold qlows qhighs qrates hours_ qriskRows qlevels qpointsOf qsums rules_ qruleKinds qruleLevels qholds qalarms qalarmHours qvalues qchecked qrights] := hD
    refine lv_iload_n hx hb nd_Model_goods_29 rfl (lv_at hl 0 rfl) ?_
    exact hret (kilograms_, u2_0, x1) _ _ _ _ nd_Model_goods_30 hR hP hD hS
  · replace hR := q_p c3 hR
    refine lv_iconst (v := 0) hx hb nd_Model_goods_17 (by decide) ?_
    exact hret ((0 : Int32), u2_0, kilograms_) _ _ _ _ nd_Model_goods_18 hR hP hD hS
def rm_Model_row : Room := { frames := 1, cells := 0, slots := 0, locals := 23 }
theorem kc_Model_row : k_cal nY_Model_row nC_Model_row 4 (some .int) 2 := ⟨tt_847, tt_10, by decide +kernel⟩
theorem kv_Model_row : k_vir nY_Model_row := ⟨tt_845, tt_846⟩
set_option maxHeartbeats 4000000 in
set_option maxRecDepth 100000 in
theorem cn_Model_row (l : Launch) (D : va_G) (ca : Nat → ClassId) (qa0 qnow qkept qbooks qkeptBooks qconductances qcapacities qrowDamps qrowWaters qtold qlows qhighs qrates qriskRows qlevels qpointsOf qsums qruleKinds qruleLevels qholds qalarms qalarmHours qvalues qchecked qrights : Nat) (thrown_ : Int32) (volume_ : Int32) (share_ : Int32) (layers_ : Int32) (kilograms_ : Int32) (rows_ : Int32) (hours_ : Int32) (rules_ : Int32) (rowDamps_ : Nat → Int32) (rowWaters_ : Nat → Int32) (x1 : Int32) (x2 : Int32) (R0 : Int32) (R1 : Int32) (R2 : Nat → Int32) (R3 : Nat → Int32) (R4 : Int32) (hR : fn_Model_row rows_ rowDamps_ rowWaters_ x1 x2 = some (R0, R1, R2, R3, R4)) (sz : Nat) : Met l nY_Model_row (Cond.code nY_Model_row nC_Model_row 4 (some .int) :: TT) rm_Model_row (wr_P [.ref qa0, .int x1, .int x2] D ca [oc_Model qa0 thrown_ volume_ share_ qnow qkept qbooks qkeptBooks layers_ qconductances qcapacities kilograms_ rows_ qrowDamps qrowWaters qtold qlows qhighs qrates hours_ qriskRows qlevels qpointsOf qsums rules_ qruleKinds qruleLevels qholds qalarms qalarmHours qvalues qchecked qrights, aI qrowDamps ca 6 rowDamps_, aI qrowWaters ca 6 rowWaters_] sz) (va_Qi (fun x (_ : Unit) => x = R0) (wr_B D [oc_Model qa0 thrown_ volume_ share_ qnow qkept qbooks qkeptBooks layers_ qconductances qcapacities kilograms_ rows_ qrowDamps qrowWaters qtold qlows qhighs qrates hours_ qriskRows qlevels qpointsOf qsums rules_ qruleKinds qruleLevels qholds qalarms qalarmHours qvalues qchecked qrights, aI qrowDamps ca 6 rowDamps_, aI qrowWaters ca 6 rowWaters_] sz [oc_Model qa0 R1 volume_ share_ qnow qkept qbooks qkeptBooks layers_ qconductances qcapacities kilograms_ R4 qrowDamps qrowWaters qtold qlows qhighs qrates hours_ qriskRows qlevels qpointsOf qsums rules_ qruleKinds qruleLevels qholds qalarms qalarmHours qvalues qchecked qrights, aI qrowDamps ca 6 R2, aI qrowWaters ca 6 R3]) (va_A [oc_Model qa0 thrown_ volume_ share_ qnow qkept qbooks qkeptBooks layers_ qconductances qcapacities kilograms_ rows_ qrowDamps qrowWaters qtold qlows qhighs qrates hours_ qriskRows qlevels qpointsOf qsums rules_ qruleKinds qruleLevels qholds qalarms qalarmHours qvalues qchecked qrights, aI qrowDamps ca 6 rowDamps_, aI qrowWaters ca 6 rowWaters_] sz)) 0 0 (va_A [oc_Model qa0 thrown_ volume_ share_ qnow qkept qbooks qkeptBooks layers_ qconductances qcapacities kilograms_ rows_ qrowDamps qrowWaters qtold qlows qhighs qrates hours_ qriskRows qlevels qpointsOf qsums rules_ qruleKinds qruleLevels qholds qalarms qalarmHours qvalues qchecked qrights, aI qrowDamps ca 6 rowDamps_, aI qrowWaters ca 6 rowWaters_] sz) := by
  refine wr_ofI (R := (R0, R1, R2, R3, R4)) (val := fun r => r.1) (w1 := fun r : Int32 × Int32 × (Nat → Int32) × (Nat → Int32) × Int32 => [oc_Model qa0 r.2.1 volume_ share_ qnow qkept qbooks qkeptBooks layers_ qconductances qcapacities kilograms_ r.2.2.2.2 qrowDamps qrowWaters qtold qlows qhighs qrates hours_ qriskRows qlevels qpointsOf qsums rules_ qruleKinds qruleLevels qholds qalarms qalarmHours qvalues qchecked qrights, aI qrowDamps ca 6 r.2.2.1, aI qrowWaters ca 6 r.2.2.2.1]) (by decide +kernel) (Nat.le_of_ble_eq_true rfl) ?_
  intro p e s m below meth c Q ar ls hx hb hml hts hown hP hK A hD hA hl hret
  have hS : va_S A s.heap s.heap [] := va_S.rf
  have hown : s.vm.findClass nR_Model = some m.cls := hown
  have hl : lv_has ls 4 [(0, .ref qa0), (1, .int x1), (2, .int x2)] := hl
  unfold fn_Model_row at hR
  refine lv_aload_n hx hb nd_Model_row_0 rfl (lv_at hl 0 rfl) ?_
  refine va_get (D := D) (ci := 9) (v := .int rows_) (C := nR_Model) (T := nT_Model) (N := 32) hx hb hts ni_Model hown hK hP 0 rfl rfl 11 (by decide) (hts (.fieldLink nR_Model 115 "RoomClimateModel" "rows" "I") tt_734) (fun _ h9 => h9) rfl nd_Model_row_1 ?_
  obtain ⟨j2_0, hJ2, hR⟩ := q_b1 hR
  have hN2 : ∀ (H : Heap) (locs : List Loc) (ls : Array Slot), va_P D vwCl [oc_Model qa0 thrown_ volume_ share_ qnow qkept qbooks qkeptBooks layers_ qconductances qcapacities kilograms_ rows_ qrowDamps qrowWaters qtold qlows qhighs qrates hours_ qriskRows qlevels qpointsOf qsums rules_ qruleKinds qruleLevels qholds qalarms qalarmHours qvalues qchecked qrights, aI qrowDamps ca 6 rowDamps_, aI qrowWaters ca 6 rowWaters_] H → va_D A [oc_Model qa0 thrown_ volume_ share_ qnow qkept qbooks qkeptBooks layers_ qconductances qcapacities kilograms_ rows_ qrowDamps qrowWaters qtold qlows qhighs qrates hours_ qriskRows qlevels qpointsOf qsums rules_ qruleKinds qruleLevels qholds qalarms qalarmHours qvalues qchecked qrights, aI qrowDamps ca 6 rowDamps_, aI qrowWaters ca 6 rowWaters_] → va_S A s.heap H locs → lv_has ls 4 [(0, .ref qa0), (1, .int x1), (2, .int x2)] → W p l e rm_Model_row s m ar below meth c H locs 0 0 Q (F0 m 27 ls [.int j2_0]) := by
    intro H locs ls hP hD hS hl
    refine lv_istore_n (lv' := [(3, .int j2_0), (0, .ref qa0), (1, .int x1), (2, .int x2)]) hx hb nd_Model_row_27 rfl hl (by decide) rfl (fun ls hl => ?_)
    refine lv_aload_n hx hb nd_Model_row_28 rfl (lv_at hl 1 rfl) ?_
    refine lv_aload_n hx hb nd_Model_row_29 rfl (lv_at hl 1 rfl) ?_
    refine va_get (D := D) (ci := 9) (v := .int rows_) (C := nR_Model) (T := nT_Model) (N := 32) hx hb hts ni_Model hown hK hP 0 rfl rfl 11 (by decide) (hts (.fieldLink nR_Model 115 "RoomClimateModel" "rows" "I") tt_734) (fun _ h9 => h9) rfl nd_Model_row_30 ?_
    refine lv_bipush (v := 6) hx hb nd_Model_row_33 (by decide) ?_
    obtain ⟨j7_0, hJ7, hR⟩ := q_b1 hR
    have hN7 : ∀ (H : Heap) (locs : List Loc) (ls : Array Slot), va_P D vwCl [oc_Model qa0 thrown_ volume_ share_ qnow qkept qbooks qkeptBooks layers_ qconductances qcapacities kilograms_ rows_ qrowDamps qrowWaters qtold qlows qhighs qrates hours_ qriskRows qlevels qpointsOf qsums rules_ qruleKinds qruleLevels qholds qalarms qalarmHours qvalues qchecked qrights, aI qrowDamps ca 6 rowDamps_, aI qrowWaters ca 6 rowWaters_] H → va_D A [oc_Model qa0 thrown_ volume_ share_ qnow qkept qbooks qkeptBooks layers_ qconductances qcapacities kilograms_ rows_ qrowDamps qrowWaters qtold qlows qhighs qrates hours_ qriskRows qlevels qpointsOf qsums rules_ qruleKinds qruleLevels qholds qalarms qalarmHours qvalues qchecked qrights, aI qrowDamps ca 6 rowDamps_, aI qrowWaters ca 6 rowWaters_] → va_S A s.heap H locs → lv_has ls 4 [(0, .ref qa0), (1, .int x1), (2, .int x2), (3, .int j2_0)] → W p l e rm_Model_row s m ar below meth c H locs 0 0 Q (F0 m 43 ls [.int j7_0, .ref qa0]) := by
      intro H locs ls hP hD hS hl
      refine lv_iload_n hx hb nd_Model_row_43 rfl (lv_at hl 1 rfl) ?_
      refine lv_iconst (v := 0) hx hb nd_Model_row_44 (by decide) ?_
      refine lv_ldc hx hb hown (hts _ tt_848) nd_Model_row_45 ?_
      obtain ⟨r8, e8, hR⟩ := q_b1 hR
      refine k_rSI (As := [.int x1, .int (0 : Int32), .int (60000 : Int32)]) (rest := [.int j7_0, .ref qa0]) (r := r8) hx hb hml hown hts (cn_Model_within l D ca x1 (0 : Int32) (60000 : Int32) r8 e8) kc_Model_within ks_Model_within tt_828 ⟨by decide, by decide⟩ rfl rfl hP hK [] rfl rfl hl.1 (Nat.le_of_ble_eq_true rfl) rfl nd_Model_row_47 ⟨Nat.zero_le _, Nat.zero_le _⟩ ?_
      obtain ⟨j10_0, hJ10, hR⟩ := q_b1 hR
      have hN10 : ∀ (H : Heap) (locs : List Loc) (ls : Array Slot), va_P D vwCl [oc_Model qa0 thrown_ volume_ share_ qnow qkept qbooks qkeptBooks layers_ qconductances qcapacities kilograms_ rows_ qrowDamps qrowWaters qtold qlows qhighs qrates hours_ qriskRows qlevels qpointsOf qsums rules_ qruleKinds qruleLevels qholds qalarms qalarmHours qvalues qchecked qrights, aI qrowDamps ca 6 rowDamps_, aI qrowWaters ca 6 rowWaters_] H → va_D A [oc_Model qa0 thrown_ volume_ share_ qnow qkept qbooks qkeptBooks layers_ qconductances qcapacities kilograms_ rows_ qrowDamps qrowWaters qtold qlows qhighs qrates hours_ qriskRows qlevels qpointsOf qsums rules_ qruleKinds qruleLevels qholds qalarms qalarmHours qvalues qchecked qrights, aI qrowDamps ca 6 rowDamps_, aI qrowWaters ca 6 rowWaters_] → va_S A s.heap H locs → lv_has ls 4 [(0, .ref qa0), (1, .int x1), (2, .int x2), (3, .int j2_0)] → W p l e rm_Model_row s m ar below meth c H locs 0 0 Q (F0 m 73 ls [.int j10_0, .int j7_0, .ref qa0]) := by
        intro H locs ls hP hD hS hl
        refine lv_iconst (v := 1) hx hb nd_Model_row_73 (by decide) ?_
        obtain ⟨r16, u16_0, e16, hR⟩ := q_b2 hR
        refine k_wVI (wr := [aI qrowDamps ca 6 rowDamps_, aI qrowWaters ca 6 rowWaters_]) (w2 := [oc_Model qa0 u16_0 volume_ share_ qnow qkept qbooks qkeptBooks layers_ qconductances qcapacities kilograms_ rows_ qrowDamps qrowWaters qtold qlows qhighs qrates hours_ qriskRows qlevels qpointsOf qsums rules_ qruleKinds qruleLevels qholds qalarms qalarmHours qvalues qchecked qrights, aI qrowDamps ca 6 rowDamps_, aI qrowWaters ca 6 rowWaters_]) (As := [.int j7_0, .int j10_0, .int (1 : Int32)]) (rest := []) (r := r16) hx hb hml hown hts (cn_Model_goes l D ca qa0 qnow qkept qbooks qkeptBooks qconductances qcapacities qrowDamps qrowWaters qtold qlows qhighs qrates qriskRows qlevels qpointsOf qsums qruleKinds qruleLevels qholds qalarms qalarmHours qvalues qchecked qrights thrown_ volume_ share_ layers_ kilograms_ rows_ hours_ rules_ j7_0 j10_0 (1 : Int32) r16 u16_0 e16 _) kc_Model_goes kv_Model_goes tt_831 ⟨by decide, by decide⟩ rfl rfl hP hK hD hS hA [0] [1, 2] [2, 0, 1] rfl (by decide) rfl (by decide) (by decide) rfl (by decide) 0 rfl rfl rfl rfl hl.1 (Nat.le_of_ble_eq_true rfl) rfl nd_Model_row_74 ⟨Nat.zero_le _, Nat.zero_le _⟩ (fun H locs hP hD hS => ?_)
        refine lv_if_ne (tgt := 82) hx hb nd_Model_row_77 (by decide) (fun c17 => ?_) (fun c17 => ?_)
        · replace hR := q_n c17 hR
          refine lv_aload_n hx hb nd_Model_row_82 rfl (lv_at hl 0 rfl) ?_
          refine va_get (D := D) (ci := 9) (v := .ref qrowDamps) (C := nR_Model) (T := nT_Model) (N := 32) hx hb hts ni_Model hown hK hP 0 rfl rfl 12 (by decide) (hts (.fieldLink nR_Model 36 "RoomClimateModel" "rowDamps" "[I") tt_735) (fun _ h9 => h9) rfl nd_Model_row_83 ?_
          refine lv_aload_n hx hb nd_Model_row_86 rfl (lv_at hl 0 rfl) ?_
          refine va_get (D := D) (ci := 9) (v := .int rows_) (C := nR_Model) (T := nT_Model) (N := 32) hx hb hts ni_Model hown hK hP 0 rfl rfl 11 (by decide) (hts (.fieldLink nR_Model 115 "RoomClimateModel" "rows" "I") tt_734) (fun _ h9 => h9) rfl nd_Model_row_87 ?_
          refine lv_iload_n hx hb nd_Model_row_90 rfl (lv_at hl 1 rfl) ?_
          obtain ⟨h18, hR⟩ := q_ix hR
          refine va_iast hx hb hK hP hD hS 1 0 rfl rfl h18 nd_Model_row_91 (fun H locs hP hD hS => ?_)
          have hP : va_P D vwCl [oc_Model qa0 u16_0 volume_ share_ qnow qkept qbooks qkeptBooks layers_ qconductances qcapacities kilograms_ rows_ qrowDamps qrowWaters qtold qlows qhighs qrates hours_ qriskRows qlevels qpointsOf qsums rules_ qruleKinds qruleLevels qholds qalarms qalarmHours qvalues qchecked qrights, aI qrowDamps ca 6 (upd rowDamps_ rows_.toNatClampNeg x1), aI qrowWaters ca 6 rowWaters_] H := hP
          have hD : va_D A [oc_Model qa0 u16_0 volume_ share_ qnow qkept qbooks qkeptBooks layers_ qconductances qcapacities kilograms_ rows_ qrowDamps qrowWaters qtold qlows qhighs qrates hours_ qriskRows qlevels qpointsOf qsums rules_ qruleKinds qruleLevels qholds qalarms qalarmHours qvalues qchecked qrights, aI qrowDamps ca 6 (upd rowDamps_ rows_.toNatClampNeg x1), aI qrowWaters ca 6 rowWaters_] := hD
          refine lv_aload_n hx hb nd_Model_row_92 rfl (lv_at hl 0 rfl) ?_
          refine va_get (D := D) (ci := 9) (v := .ref qrowWaters) (C := nR_Model) (T := nT_Model) (N := 32) hx hb hts ni_Model hown hK hP 0 rfl rfl 13 (by decide) (hts (.fieldLink nR_Model 39 "RoomClimateModel" "rowWaters" "[I") tt_736) (fun _ h9 => h9) rfl nd_Model_row_93 ?_
          refine lv_aload_n hx hb nd_Model_row_96 rfl (lv_at hl 0 rfl) ?_
          refine va_get (D := D) (ci := 9) (v := .int rows_) (C := nR_Model) (T := nT_Model) (N := 32) hx hb hts ni_Model hown hK hP 0 rfl rfl 11 (by decide) (hts (.fieldLink nR_Model 115 "RoomClimateModel" "rows" "I") tt_734) (fun _ h9 => h9) rfl nd_Model_row_97 ?_
          refine lv_iload_n hx hb nd_Model_row_100 rfl (lv_at hl 2 rfl) ?_
          refine va_iast hx hb hK hP hD hS 2 0 rfl rfl h18 nd_Model_row_101 (fun H locs hP hD hS => ?_)
          have hP : va_P D vwCl [oc_Model qa0 u16_0 volume_ share_ qnow qkept qbooks qkeptBooks layers_ qconductances qcapacities kilograms_ rows_ qrowDamps qrowWaters qtold qlows qhighs qrates hours_ qriskRows qlevels qpointsOf qsums rules_ qruleKinds qruleLevels qholds qalarms qalarmHours qvalues qchecked qrights, aI qrowDamps ca 6 (upd rowDamps_ rows_.toNatClampNeg x1), aI qrowWaters ca 6 (upd rowWaters_ rows_.toNatClampNeg x2)] H := hP
          have hD : va_D A [oc_Model qa0 u16_0 volume_ share_ qnow qkept qbooks qkeptBooks layers_ qconductances qcapacities kilograms_ rows_ qrowDamps qrowWaters qtold qlows qhighs qrates hours_ qriskRows qlevels qpointsOf qsums rules_ qruleKinds qruleLevels qholds qalarms qalarmHours qvalues qchecked qrights, aI qrowDamps ca 6 (upd rowDamps_ rows_.toNatClampNeg x1), aI qrowWaters ca 6 (upd rowWaters_ rows_.toNatClampNeg x2)] := hD
          refine lv_aload_n hx hb nd_Model_row_102 rfl (lv_at hl 0 rfl) ?_
          refine lv_dup hx hb nd_Model_row_103 rfl ?_
          refine va_get (D := D) (ci := 9) (v := .int rows_) (C := nR_Model) (T := nT_Model) (N := 32) hx hb hts ni_Model hown hK hP 0 rfl rfl 11 (by decide) (hts (.fieldLink nR_Model 115 "RoomClimateModel" "rows" "I") tt_734) (fun _ h9 => h9) rfl nd_Model_row_104 ?_
          refine lv_iconst (v := 1) hx hb nd_Model_row_107 (by decide) ?_
          refine lv_iadd hx hb nd_Model_row_108 ?_
          refine va_put (D := D) (ci := 9) (v := .int (rows_ + (1 : Int32))) (ty := .int) (C := nR_Model) (T := nT_Model) (N := 32) hx hb hts ni_Model nt_Model nt_Model_ok nn_Model hown hK hP hD hS 0 rfl rfl 11 (by decide) (hts (.fieldLink nR_Model 115 "RoomClimateModel" "rows" "I") tt_734) (fun _ h9 => h9) rfl (by decide +kernel) rfl rfl (Nat.le_of_ble_eq_true rfl) nd_Model_row_109 (fun H locs hP hD hS => ?_)
          have hP : va_P D vwCl [oc_Model qa0 u16_0 volume_ share_ qnow qkept qbooks qkeptBooks layers_ qconductances qcapacities kilograms_ (rows_ + (1 : Int32)) qrowDamps qrowWaters qtold qlows qhighs qrates hours_ qriskRows qlevels qpointsOf qsums rules_ qruleKinds qruleLevels qholds qalarms qalarmHours qvalues qchecked qrights, aI qrowDamps ca 6 (upd rowDamps_ rows_.toNatClampNeg x1), aI qrowWaters ca 6 (upd rowWaters_ rows_.toNatClampNeg x2)] H := hP
          have hD : va_D A [oc_Model qa0 u16_0 volume_ share_ qnow qkept qbooks qkeptBooks layers_ qconductances qcapacities kilograms_ (rows_ + (1 : Int32)) qrowDamps qrowWaters qtold qlows qhighs qrates hours_ qriskRows qlevels qpointsOf qsums rules_ qruleKinds qruleLevels qholds qalarms qalarmHours qvalues qchecked qrights, aI qrowDamps ca 6 (upd rowDamps_ rows_.toNatClampNeg x1), aI qrowWaters ca 6 (upd rowWaters_ rows_.toNatClampNeg x2)] := hD
          refine lv_aload_n hx hb nd_Model_row_112 rfl (lv_at hl 0 rfl) ?_
          refine va_get (D := D) (ci := 9) (v := .int (rows_ + (1 : Int32))) (C := nR_Model) (T := nT_Model) (N := 32) hx hb hts ni_Model hown hK hP 0 rfl rfl 11 (by decide) (hts (.fieldLink nR_Model 115 "RoomClimateModel" "rows" "I") tt_734) (fun _ h9 => h9) rfl nd_Model_row_113 ?_
          refine lv_iconst (v := 1) hx hb nd_Model_row_116 (by decide) ?_
          refine lv_isub hx hb nd_Model_row_117 ?_
          exact hret ((rows_ + (1 : Int32)) - (1 : Int32), u16_0, upd rowDamps_ rows_.toNatClampNeg x1, upd rowWaters_ rows_.toNatClampNeg x2, rows_ + (1 : Int32)) _ _ _ _ nd_Model_row_118 hR hP hD hS
        · replace hR := q_p c17 hR
          refine lv_iconst (v := 0) hx hb nd_Model_row_80 (by decide) ?_
          exact hret ((0 : Int32), u16_0, rowDamps_, rowWaters_, rows_) _ _ _ _ nd_Model_row_81 hR hP hD hS
      refine lv_if_eq (tgt := 72) hx hb nd_Model_row_50 (by decide) (fun c9 => ?_) (fun c9 => ?_)
      · have hR := q_p c9 hJ10
        refine lv_iconst (v := 0) hx hb nd_Model_row_72 (by decide) ?_
        cases hR
        exact hN10 _ _ _ hP hD hS (lv_sub hl [0, 1, 2, 3] rfl)
      · have hR := q_n c9 hJ10
        refine lv_iload_n hx hb nd_Model_row_53 rfl (lv_at hl 2 rfl) ?_
        refine lv_iconst (v := 0) hx hb nd_Model_row_54 (by decide) ?_
        refine lv_sipush (v := 10000) hx hb nd_Model_row_55 (by decide) ?_
        obtain ⟨r11, e11, hR⟩ := q_b1 hR
        refine k_rSI (As := [.int x2, .int (0 : Int32), .int (10000 : Int32)]) (rest := [.int j7_0, .ref qa0]) (r := r11) hx hb hml hown hts (cn_Model_within l D ca x2 (0 : Int32) (10000 : Int32) r11 e11) kc_Model_within ks_Model_within tt_828 ⟨by decide, by decide⟩ rfl rfl hP hK [] rfl rfl hl.1 (Nat.le_of_ble_eq_true rfl) rfl nd_Model_row_58 ⟨Nat.zero_le _, Nat.zero_le _⟩ ?_
        obtain ⟨j13_0, hJ13, hR⟩ := q_b1 hR
        have hN13 : ∀ (H : Heap) (locs : List Loc) (ls : Array Slot), va_P D vwCl [oc_Model qa0 thrown_ volume_ share_ qnow qkept qbooks qkeptBooks layers_ qconductances qcapacities kilograms_ rows_ qrowDamps qrowWaters qtold qlows qhighs qrates hours_ qriskRows qlevels qpointsOf qsums rules_ qruleKinds qruleLevels qholds qalarms qalarmHours qvalues qchecked qrights, aI qrowDamps ca 6 rowDamps_, aI qrowWaters ca 6 rowWaters_] H → va_D A [oc_Model qa0 thrown_ volume_ share_ qnow qkept qbooks qkeptBooks layers_ qconductances qcapacities kilograms_ rows_ qrowDamps qrowWaters qtold qlows qhighs qrates hours_ qriskRows qlevels qpointsOf qsums rules_ qruleKinds qruleLevels qholds qalarms qalarmHours qvalues qchecked qrights, aI qrowDamps ca 6 rowDamps_, aI qrowWaters ca 6 rowWaters_] → va_S A s.heap H locs → lv_has ls 4 [(0, .ref qa0), (1, .int x1), (2, .int x2), (3, .int j2_0)] → W p l e rm_Model_row s m ar below meth c H locs 0 0 Q (F0 m 73 ls [.int j13_0, .int j7_0, .ref qa0]) := by
          intro H locs ls hP hD hS hl
          cases hR
          exact hN10 _ _ _ hP hD hS (lv_sub hl [0, 1, 2, 3] rfl)
        refine lv_if_eq (tgt := 72) hx hb nd_Model_row_61 (by decide) (fun c12 => ?_) (fun c12 => ?_)
        · have hR := q_p c12 hJ13
          refine lv_iconst (v := 0) hx hb nd_Model_row_72 (by decide) ?_
          cases hR
          exact hN13 _ _ _ hP hD hS (lv_sub hl [0, 1, 2, 3] rfl)
        · have hR := q_n c12 hJ13
          refine lv_iload_n hx hb nd_Model_row_64 rfl (lv_at hl 3 rfl) ?_
          obtain ⟨j15_0, hJ15, hR⟩ := q_b1 hR
          have hN15 : ∀ (H : Heap) (locs : List Loc) (ls : Array Slot), va_P D vwCl [oc_Model qa0 thrown_ volume_ share_ qnow qkept qbooks qkeptBooks layers_ qconductances qcapacities kilograms_ rows_ qrowDamps qrowWaters qtold qlows qhighs qrates hours_ qriskRows qlevels qpointsOf qsums rules_ qruleKinds qruleLevels qholds qalarms qalarmHours qvalues qchecked qrights, aI qrowDamps ca 6 rowDamps_, aI qrowWaters ca 6 rowWaters_] H → va_D A [oc_Model qa0 thrown_ volume_ share_ qnow qkept qbooks qkeptBooks layers_ qconductances qcapacities kilograms_ rows_ qrowDamps qrowWaters qtold qlows qhighs qrates hours_ qriskRows qlevels qpointsOf qsums rules_ qruleKinds qruleLevels qholds qalarms qalarmHours qvalues qchecked qrights, aI qrowDamps ca 6 rowDamps_, aI qrowWaters ca 6 rowWaters_] → va_S A s.heap H locs → lv_has ls 4 [(0, .ref qa0), (1, .int x1), (2, .int x2), (3, .int j2_0)] → W p l e rm_Model_row s m ar below meth c H locs 0 0 Q (F0 m 73 ls [.int j15_0, .int j7_0, .ref qa0]) := by
            intro H locs ls hP hD hS hl
            cases hR
            exact hN13 _ _ _ hP hD hS (lv_sub hl [0, 1, 2, 3] rfl)
          refine lv_if_eq (tgt := 72) hx hb nd_Model_row_65 (by decide) (fun c14 => ?_) (fun c14 => ?_)
          · have hR := q_p c14 hJ15
            refine lv_iconst (v := 0) hx hb nd_Model_row_72 (by decide) ?_
            cases hR
            exact hN15 _ _ _ hP hD hS (lv_sub hl [0, 1, 2, 3] rfl)
          · have hR := q_n c14 hJ15
            refine lv_iconst (v := 1) hx hb nd_Model_row_68 (by decide) ?_
            refine lv_goto (tgt := 73) hx hb nd_Model_row_69 (by decide) ?_
            cases hR
            exact hN15 _ _ _ hP hD hS (lv_sub hl [0, 1, 2, 3] rfl)
    refine lv_icmp_ge (tgt := 42) hx hb nd_Model_row_35 (by decide) (fun c6 => ?_) (fun c6 => ?_)
    · have hR := q_p c6 hJ7
      refine lv_iconst (v := 0) hx hb nd_Model_row_42 (by decide) ?_
      cases hR
      exact hN7 _ _ _ hP hD hS (lv_sub hl [1, 2, 3, 0] rfl)
    · have hR := q_n c6 hJ7
      refine lv_iconst (v := 1) hx hb nd_Model_row_38 (by decide) ?_
      refine lv_goto (tgt := 43) hx hb nd_Model_row_39 (by decide) ?_
      cases hR
      exact hN7 _ _ _ hP hD hS (lv_sub hl [1, 2, 3, 0] rfl)
  refine lv_if_eq (tgt := 22) hx hb nd_Model_row_4 (by decide) (fun c1 => ?_) (fun c1 => ?_)
  · have hR := q_p c1 hJ2
    refine lv_iconst (v := 1) hx hb nd_Model_row_22 (by decide) ?_
    refine lv_goto (tgt := 27) hx hb nd_Model_row_23 (by decide) ?_
    cases hR
    exact hN2 _ _ _ hP hD hS (lv_sub hl [0, 1, 2] rfl)
  · have hR := q_n c1 hJ2
    refine lv_iload_n hx hb nd_Model_row_7 rfl (lv_at hl 1 rfl) ?_
    refine lv_aload_n hx hb nd_Model_row_8 rfl (lv_at hl 0 rfl) ?_
    refine va_get (D := D) (ci := 9) (v := .ref qrowDamps) (C := nR_Model) (T := nT_Model) (N := 32) hx hb hts ni_Model hown hK hP 0 rfl rfl 12 (by decide) (hts (.fieldLink nR_Model 36 "RoomClimateModel" "rowDamps" "[I") tt_735) (fun _ h9 => h9) rfl nd_Model_row_9 ?_
    refine lv_aload_n hx hb nd_Model_row_12 rfl (lv_at hl 0 rfl) ?_
    refine va_get (D := D) (ci := 9) (v := .int rows_) (C := nR_Model) (T := nT_Model) (N := 32) hx hb hts ni_Model hown hK hP 0 rfl rfl 11 (by decide) (hts (.fieldLink nR_Model 115 "RoomClimateModel" "rows" "I") tt_734) (fun _ h9 => h9) rfl nd_Model_row_13 ?_
    refine lv_iconst (v := 1) hx hb nd_Model_row_16 (by decide) ?_
    refine lv_isub hx hb nd_Model_row_17 ?_
    obtain ⟨h3, hR⟩ := q_ix hR
    refine va_iald hx hb hK hP 1 0 rfl rfl h3 nd_Model_row_18 ?_
    obtain ⟨j5_0, hJ5, hR⟩ := q_b1 hR
    have hN5 : ∀ (H : Heap) (locs : List Loc) (ls : Array Slot), va_P D vwCl [oc_Model qa0 thrown_ volume_ share_ qnow qkept qbooks qkeptBooks layers_ qconductances qcapacities kilograms_ rows_ qrowDamps qrowWaters qtold qlows qhighs qrates hours_ qriskRows qlevels qpointsOf qsums rules_ qruleKinds qruleLevels qholds qalarms qalarmHours qvalues qchecked qrights, aI qrowDamps ca 6 rowDamps_, aI qrowWaters ca 6 rowWaters_] H → va_D A [oc_Model qa0 thrown_ volume_ share_ qnow qkept qbooks qkeptBooks layers_ qconductances qcapacities kilograms_ rows_ qrowDamps qrowWaters qtold qlows qhighs qrates hours_ qriskRows qlevels qpointsOf qsums rules_ qruleKinds qruleLevels qholds qalarms qalarmHours qvalues qchecked qrights, aI qrowDamps ca 6 rowDamps_, aI qrowWaters ca 6 rowWaters_] → va_S A s.heap H locs → lv_has ls 4 [(0, .ref qa0), (1, .int x1), (2, .int x2)] → W p l e rm_Model_row s m ar below meth c H locs 0 0 Q (F0 m 27 ls [.int j5_0]) := by
      intro H locs ls hP hD hS hl
      cases hR
      exact hN2 _ _ _ hP hD hS (lv_sub hl [0, 1, 2] rfl)
    refine lv_icmp_le (tgt := 26) hx hb nd_Model_row_19 (by decide) (fun c4 => ?_) (fun c4 => ?_)
    · have hR := q_p c4 hJ5
      refine lv_iconst (v := 0) hx hb nd_Model_row_26 (by decide) ?_
      cases hR
      exact hN5 _ _ _ hP hD hS (lv_sub hl [0, 1, 2] rfl)
    · have hR := q_n c4 hJ5
      refine lv_iconst (v := 1) hx hb nd_Model_row_22 (by decide) ?_
      refine lv_goto (tgt := 27) hx hb nd_Model_row_23 (by decide) ?_
      cases hR
      exact hN5 _ _ _ hP hD hS (lv_sub hl [0, 1, 2] rfl)
def rm_Model_isLevel : Room := { frames := 1, cells := 0, slots := 0, locals := 22 }
theorem kc_Model_isLevel : k_cal nY_Model_isLevel nC_Model_isLevel 1 (some .boolean) 1 := ⟨tt_855, tt_10, by decide +kernel⟩
theorem ks_Model_isLevel : Cond.static nY_Model_isLevel ∈ TT := tt_854
set_option maxHeartbeats 4000000 in
set_option maxRecDepth 100000 in
theorem cn_Model_isLevel (l : Launch) (D : va_G) (ca : Nat → ClassId) (x0 : Int32) (R0 : Int32) (hR : fn_Model_isLevel x0 = some R0) : Met l nY_Model_isLevel (Cond.code nY_Model_isLevel nC_Model_isLevel 1 (some .boolean) :: TT) rm_Model_isLevel (rd_P [.int x0] D ca []) (vp_Si (fun x => x = R0)) 0 0 (fun _ => False) := by
  refine rd_ofZ (by decide +kernel) (Nat.le_of_ble_eq_true rfl) ?_
  intro p e s m below meth c Q ar ls hx hb hml hts hown hP hK hl hret
  have hown : s.vm.findClass nR_Model = some m.cls := hown
  have hl : lv_has ls 1 [(0, .int x0)] := hl
  unfold fn_Model_isLevel at hR
  refine lv_iload_n hx hb nd_Model_isLevel_0 rfl (lv_at hl 0 rfl) ?_
  refine lv_ldc hx hb hown (hts _ tt_856) nd_Model_isLevel_1 ?_
  refine lv_ldc hx hb hown (hts _ tt_848) nd_Model_isLevel_3 ?_
  obtain ⟨r1, e1, hR⟩ := q_b1 hR
  refine k_rSI (As := [.int x0, .int (-60000 : Int32), .int (60000 : Int32)]) (rest := []) (r := r1) hx hb hml hown hts (cn_Model_within l D ca x0 (-60000 : Int32) (60000 : Int32) r1 e1) kc_Model_within ks_Model_within tt_828 ⟨by decide, by decide⟩ rfl rfl hP hK [] rfl rfl hl.1 (Nat.le_of_ble_eq_true rfl) rfl nd_Model_isLevel_5 ⟨Nat.zero_le _, Nat.zero_le _⟩ ?_
  obtain ⟨h2, hR⟩ := q_bz hR
  exact hret _ _ _ nd_Model_isLevel_8 h2 (Option.some.inj hR)
def rm_Model_machine : Room := { frames := 2, cells := 0, slots := 0, locals := 42 }
theorem kc_Model_machine : k_cal nY_Model_machine nC_Model_machine 5 none 4 := ⟨tt_852, tt_10, by decide +kernel⟩
theorem kv_Model_machine : k_vir nY_Model_machine := ⟨tt_850, tt_851⟩
set_option maxHeartbeats 4000000 in
set_option maxRecDepth 100000 in
theorem cn_Model_machine (l : Launch) (D : va_G) (ca : Nat → ClassId) (qa0 qnow qkept qbooks qkeptBooks qconductances qcapacities qrowDamps qrowWaters qtold qlows qhighs qrates qriskRows qlevels qpointsOf qsums qruleKinds qruleLevels qholds qalarms qalarmHours qvalues qchecked qrights : Nat) (thrown_ : Int32) (volume_ : Int32) (share_ : Int32) (layers_ : Int32) (kilograms_ : Int32) (rows_ : Int32) (hours_ : Int32) (rules_ : Int32) (told_ : Nat → Int32) (lows_ : Nat → Int32) (highs_ : Nat → Int32) (rates_ : Nat → Int32) (now_ : Nat → Int64) (x1 : Int32) (x2 : Int32) (x3 : Int32) (x4 : Int32) (R0 : Int32) (R1 : Nat → Int32) (R2 : Nat → Int32) (R3 : Nat → Int32) (R4 : Nat → Int32) (R5 : Nat → Int64) (hR : fn_Model_machine told_ lows_ highs_ rates_ now_ x1 x2 x3 x4 = some (R0, R1, R2, R3, R4, R5)) (sz : Nat) : Met l nY_Model_machine (Cond.code nY_Model_machine nC_Model_machine 5 none :: TT) rm_Model_machine (wr_P [.ref qa0, .int x1, .int x2, .int x3, .int x4] D ca [oc_Model qa0 thrown_ volume_ share_ qnow qkept qbooks qkeptBooks layers_ qconductances qcapacities kilograms_ rows_ qrowDamps qrowWaters qtold qlows qhighs qrates hours_ qriskRows qlevels qpointsOf qsums rules_ qruleKinds qruleLevels qholds qalarms qalarmHours qvalues qchecked qrights, aZ qtold ca 4 told_, aI qlows ca 4 lows_, aI qhighs ca 4 highs_, aI qrates ca 4 rates_, aJ qnow ca 12 now_] sz) (va_Qv (fun (_ : Unit) => True) (wr_B D [oc_Model qa0 thrown_ volume_ share_ qnow qkept qbooks qkeptBooks layers_ qconductances qcapacities kilograms_ rows_ qrowDamps qrowWaters qtold qlows qhighs qrates hours_ qriskRows qlevels qpointsOf qsums rules_ qruleKinds qruleLevels qholds qalarms qalarmHours qvalues qchecked qrights, aZ qtold ca 4 told_, aI qlows ca 4 lows_, aI qhighs ca 4 highs_, aI qrates ca 4 rates_, aJ qnow ca 12 now_] sz [oc_Model qa0 R0 volume_ share_ qnow qkept qbooks qkeptBooks layers_ qconductances qcapacities kilograms_ rows_ qrowDamps qrowWaters qtold qlows qhighs qrates hours_ qriskRows qlevels qpointsOf qsums rules_ qruleKinds qruleLevels qholds qalarms qalarmHours qvalues qchecked qrights, aZ qtold ca 4 R1, aI qlows ca 4 R2, aI qhighs ca 4 R3, aI qrates ca 4 R4, aJ qnow ca 12 R5]) (va_A [oc_Model qa0 thrown_ volume_ share_ qnow qkept qbooks qkeptBooks layers_ qconductances qcapacities kilograms_ rows_ qrowDamps qrowWaters qtold qlows qhighs qrates hours_ qriskRows qlevels qpointsOf qsums rules_ qruleKinds qruleLevels qholds qalarms qalarmHours qvalues qchecked qrights, aZ qtold ca 4 told_, aI qlows ca 4 lows_, aI qhighs ca 4 highs_, aI qrates ca 4 rates_, aJ qnow ca 12 now_] sz)) 0 0 (va_A [oc_Model qa0 thrown_ volume_ share_ qnow qkept qbooks qkeptBooks layers_ qconductances qcapacities kilograms_ rows_ qrowDamps qrowWaters qtold qlows qhighs qrates hours_ qriskRows qlevels qpointsOf qsums rules_ qruleKinds qruleLevels qholds qalarms qalarmHours qvalues qchecked qrights, aZ qtold ca 4 told_, aI qlows ca 4 lows_, aI qhighs ca 4 highs_, aI qrates ca 4 rates_, aJ qnow ca 12 now_] sz) := by
  refine wr_ofV (R := (R0, R1, R2, R3, R4, R5)) (w1 := fun r : Int32 × (Nat → Int32) × (Nat → Int32) × (Nat → Int32) × (Nat → Int32) × (Nat → Int64) => [oc_Model qa0 r.1 volume_ share_ qnow qkept qbooks qkeptBooks layers_ qconductances qcapacities kilograms_ rows_ qrowDamps qrowWaters qtold qlows qhighs qrates hours_ qriskRows qlevels qpointsOf qsums rules_ qruleKinds qruleLevels qholds qalarms qalarmHours qvalues qchecked qrights, aZ qtold ca 4 r.2.1, aI qlows ca 4 r.2.2.1, aI qhighs ca 4 r.2.2.2.1, aI qrates ca 4 r.2.2.2.2.1, aJ qnow ca 12 r.2.2.2.2.2]) (by decide +kernel) (Nat.le_of_ble_eq_true rfl) ?_
  intro p e s m below meth c Q ar ls hx hb hml hts hown hP hK A hD hA hl hret
  have hS : va_S A s.heap s.heap [] := va_S.rf
  have hown : s.vm.findClass nR_Model = some m.cls := hown
  have hl : lv_has ls 5 [(0, .ref qa0), (1, .int x1), (2, .int x2), (3, .int x3), (4, .int x4)] := hl
  unfold fn_Model_machine at hR
  refine lv_aload_n hx hb nd_Model_machine_0 rfl (lv_at hl 0 rfl) ?_
  refine lv_iload_n hx hb nd_Model_machine_1 rfl (lv_at hl 1 rfl) ?_
  refine lv_iconst (v := 0) hx hb nd_Model_machine_2 (by decide) ?_
  refine lv_iconst (v := 3) hx hb nd_Model_machine_3 (by decide) ?_
  obtain ⟨r1, e1, hR⟩ := q_b1 hR
  refine k_rSI (As := [.int x1, .int (0 : Int32), .int (3 : Int32)]) (rest := [.ref qa0]) (r := r1) hx hb hml hown hts (cn_Model_within l D ca x1 (0 : Int32) (3 : Int32) r1 e1) kc_Model_within ks_Model_within tt_828 ⟨by decide, by decide⟩ rfl rfl hP hK [] rfl rfl hl.1 (Nat.le_of_ble_eq_true rfl) rfl nd_Model_machine_4 ⟨Nat.zero_le _, Nat.zero_le _⟩ ?_
  refine lv_iload_n hx hb nd_Model_machine_7 rfl (lv_at hl 2 rfl) ?_
  obtain ⟨r2, e2, hR⟩ := q_b1 hR
  refine k_rSI (As := [.int x2]) (rest := [.int r1, .ref qa0]) (r := r2) hx hb hml hown hts (cn_Model_isLevel l D ca x2 r2 e2) kc_Model_isLevel ks_Model_isLevel tt_853 ⟨by decide, by decide⟩ rfl rfl hP hK [] rfl rfl hl.1 (Nat.le_of_ble_eq_true rfl) rfl nd_Model_machine_8 ⟨Nat.zero_le _, Nat.zero_le _⟩ ?_
  obtain ⟨j4_0, hJ4, hR⟩ := q_b1 hR
  have hN4 : ∀ (H : Heap) (locs : List Loc) (ls : Array Slot), va_P D vwCl [oc_Model qa0 thrown_ volume_ share_ qnow qkept qbooks qkeptBooks layers_ qconductances qcapacities kilograms_ rows_ qrowDamps qrowWaters qtold qlows qhighs qrates hours_ qriskRows qlevels qpointsOf qsums rules_ qruleKinds qruleLevels qholds qalarms qalarmHours qvalues qchecked qrights, aZ qtold ca 4 told_, aI qlows ca 4 lows_, aI qhighs ca 4 highs_, aI qrates ca 4 rates_, aJ qnow ca 12 now_] H → va_D A [oc_Model qa0 thrown_ volume_ share_ qnow qkept qbooks qkeptBooks layers_ qconductances qcapacities kilograms_ rows_ qrowDamps qrowWaters qtold qlows qhighs qrates hours_ qriskRows qlevels qpointsOf qsums rules_ qruleKinds qruleLevels qholds qalarms qalarmHours qvalues qchecked qrights, aZ qtold ca 4 told_, aI qlows ca 4 lows_, aI qhighs ca 4 highs_, aI qrates ca 4 rates_, aJ qnow ca 12 now_] → va_S A s.heap H locs → lv_has ls 5 [(0, .ref qa0), (1, .int x1), (2, .int x2), (3, .int x3), (4, .int x4)] → W p l e rm_Model_machine s m ar below meth c H locs 0 0 Q (F0 m 42 ls [.int j4_0, .int r1, .ref qa0]) := by
    intro H locs ls hP hD hS hl
    refine lv_iconst (v := 1) hx hb nd_Model_machine_42 (by decide) ?_
    obtain ⟨r13, u13_0, e13, hR⟩ := q_b2 hR
    refine k_wVI (wr := [aZ qtold ca 4 told_, aI qlows ca 4 lows_, aI qhighs ca 4 highs_, aI qrates ca 4 rates_, aJ qnow ca 12 now_]) (w2 := [oc_Model qa0 u13_0 volume_ share_ qnow qkept qbooks qkeptBooks layers_ qconductances qcapacities kilograms_ rows_ qrowDamps qrowWaters qtold qlows qhighs qrates hours_ qriskRows qlevels qpointsOf qsums rules_ qruleKinds qruleLevels qholds qalarms qalarmHours qvalues qchecked qrights, aZ qtold ca 4 told_, aI qlows ca 4 lows_, aI qhighs ca 4 highs_, aI qrates ca 4 rates_, aJ qnow ca 12 now_]) (As := [.int r1, .int j4_0, .int (1 : Int32)]) (rest := []) (r := r13) hx hb hml hown hts (cn_Model_goes l D ca qa0 qnow qkept qbooks qkeptBooks qconductances qcapacities qrowDamps qrowWaters qtold qlows qhighs qrates qriskRows qlevels qpointsOf qsums qruleKinds qruleLevels qholds qalarms qalarmHours qvalues qchecked qrights thrown_ volume_ share_ layers_ kilograms_ rows_ hours_ rules_ r1 j4_0 (1 : Int32) r13 u13_0 e13 _) kc_Model_goes kv_Model_goes tt_831 ⟨by decide, by decide⟩ rfl rfl hP hK hD hS hA [0] [1, 2, 3, 4, 5] [5, 0, 1, 2, 3, 4] rfl (by decide) rfl (by decide) (by decide) rfl (by decide) 0 rfl rfl rfl rfl hl.1 (Nat.le_of_ble_eq_true rfl) rfl nd_Model_machine_43 ⟨Nat.zero_le _, Nat.zero_le _⟩ (fun H locs hP hD hS => ?_)
    obtain ⟨j15_0, j15_1, j15_2, j15_3, j15_4, hJ15, hR⟩ := q_b5 hR
    have hN15 : ∀ (H : Heap) (locs : List Loc) (ls : Array Slot), va_P D vwCl [oc_Model qa0 u13_0 volume_ share_ qnow qkept qbooks qkeptBooks layers_ qconductances qcapacities kilograms_ rows_ qrowDamps qrowWaters qtold qlows qhighs qrates hours_ qriskRows qlevels qpointsOf qsums rules_ qruleKinds qruleLevels qholds qalarms qalarmHours qvalues qchecked qrights, aZ qtold ca 4 j15_0, aI qlows ca 4 j15_1, aI qhighs ca 4 j15_2, aI qrates ca 4 j15_3, aJ qnow ca 12 j15_4] H → va_D A [oc_Model qa0 u13_0 volume_ share_ qnow qkept qbooks qkeptBooks layers_ qconductances qcapacities kilograms_ rows_ qrowDamps qrowWaters qtold qlows qhighs qrates hours_ qriskRows qlevels qpointsOf qsums rules_ qruleKinds qruleLevels qholds qalarms qalarmHours qvalues qchecked qrights, aZ qtold ca 4 j15_0, aI qlows ca 4 j15_1, aI qhighs ca 4 j15_2, aI qrates ca 4 j15_3, aJ qnow ca 12 j15_4] → va_S A s.heap H locs → lv_has ls 5 [(0, .ref qa0), (1, .int x1), (2, .int x2), (3, .int x3), (4, .int x4)] → W p l e rm_Model_machine s m ar below meth c H locs 0 0 Q (F0 m 88 ls []) := by
      intro H locs ls hP hD hS hl
      exact hret (u13_0, j15_0, j15_1, j15_2, j15_3, j15_4) _ _ _ _ nd_Model_machine_88 hR hP hD hS
    refine lv_if_eq (tgt := 88) hx hb nd_Model_machine_46 (by decide) (fun c14 => ?_) (fun c14 => ?_)
    · have hR := q_p c14 hJ15
      cases hR
      exact hN15 _ _ _ hP hD hS (lv_sub hl [0, 1, 2, 3, 4] rfl)
    · have hR := q_n c14 hJ15
      refine lv_aload_n hx hb nd_Model_machine_49 rfl (lv_at hl 0 rfl) ?_
      refine va_get (D := D) (ci := 9) (v := .ref qtold) (C := nR_Model) (T := nT_Model) (N := 32) hx hb hts ni_Model hown hK hP 0 rfl rfl 14 (by decide) (hts (.fieldLink nR_Model 42 "RoomClimateModel" "told" "[Z") tt_737) (fun _ h9 => h9) rfl nd_Model_machine_50 ?_
      refine lv_iload_n hx hb nd_Model_machine_53 rfl (lv_at hl 1 rfl) ?_
      refine lv_iconst (v := 1) hx hb nd_Model_machine_54 (by decide) ?_
      obtain ⟨h16, hR⟩ := q_ix hR
      refine va_zast hx hb hK hP hD hS 1 2 rfl rfl h16 nd_Model_machine_55 (fun H locs hP hD hS => ?_)
      have hP : va_P D vwCl [oc_Model qa0 u13_0 volume_ share_ qnow qkept qbooks qkeptBooks layers_ qconductances qcapacities kilograms_ rows_ qrowDamps qrowWaters qtold qlows qhighs qrates hours_ qriskRows qlevels qpointsOf qsums rules_ qruleKinds qruleLevels qholds qalarms qalarmHours qvalues qchecked qrights, aZ qtold ca 4 (upd told_ x1.toNatClampNeg (vp_nar .boolean (1 : Int32))), aI qlows ca 4 lows_, aI qhighs ca 4 highs_, aI qrates ca 4 rates_, aJ qnow ca 12 now_] H := hP
      have hD : va_D A [oc_Model qa0 u13_0 volume_ share_ qnow qkept qbooks qkeptBooks layers_ qconductances qcapacities kilograms_ rows_ qrowDamps qrowWaters qtold qlows qhighs qrates hours_ qriskRows qlevels qpointsOf qsums rules_ qruleKinds qruleLevels qholds qalarms qalarmHours qvalues qchecked qrights, aZ qtold ca 4 (upd told_ x1.toNatClampNeg (vp_nar .boolean (1 : Int32))), aI qlows ca 4 lows_, aI qhighs ca 4 highs_, aI qrates ca 4 rates_, aJ qnow ca 12 now_] := hD
      refine lv_aload_n hx hb nd_Model_machine_56 rfl (lv_at hl 0 rfl) ?_
      refine va_get (D := D) (ci := 9) (v := .ref qlows) (C := nR_Model) (T := nT_Model) (N := 32) hx hb hts ni_Model hown hK hP 0 rfl rfl 15 (by decide) (hts (.fieldLink nR_Model 46 "RoomClimateModel" "lows" "[I") tt_738) (fun _ h9 => h9) rfl nd_Model_machine_57 ?_
      refine lv_iload_n hx hb nd_Model_machine_60 rfl (lv_at hl 1 rfl) ?_
      refine lv_iload_n hx hb nd_Model_machine_61 rfl (lv_at hl 2 rfl) ?_
      refine va_iast hx hb hK hP hD hS 2 0 rfl rfl h16 nd_Model_machine_62 (fun H locs hP hD hS => ?_)
      have hP : va_P D vwCl [oc_Model qa0 u13_0 volume_ share_ qnow qkept qbooks qkeptBooks layers_ qconductances qcapacities kilograms_ rows_ qrowDamps qrowWaters qtold qlows qhighs qrates hours_ qriskRows qlevels qpointsOf qsums rules_ qruleKinds qruleLevels qholds qalarms qalarmHours qvalues qchecked qrights, aZ qtold ca 4 (upd told_ x1.toNatClampNeg (vp_nar .boolean (1 : Int32))), aI qlows ca 4 (upd lows_ x1.toNatClampNeg x2), aI qhighs ca 4 highs_, aI qrates ca 4 rates_, aJ qnow ca 12 now_] H := hP
      have hD : va_D A [oc_Model qa0 u13_0 volume_ share_ qnow qkept qbooks qkeptBooks layers_ qconductances qcapacities kilograms_ rows_ qrowDamps qrowWaters qtold qlows qhighs qrates hours_ qriskRows qlevels qpointsOf qsums rules_ qruleKinds qruleLevels qholds qalarms qalarmHours qvalues qchecked qrights, aZ qtold ca 4 (upd told_ x1.toNatClampNeg (vp_nar .boolean (1 : Int32))), aI qlows ca 4 (upd lows_ x1.toNatClampNeg x2), aI qhighs ca 4 highs_, aI qrates ca 4 rates_, aJ qnow ca 12 now_] := hD
      refine lv_aload_n hx hb nd_Model_machine_63 rfl (lv_at hl 0 rfl) ?_
      refine va_get (D := D) (ci := 9) (v := .ref qhighs) (C := nR_Model) (T := nT_Model) (N := 32) hx hb hts ni_Model hown hK hP 0 rfl rfl 16 (by decide) (hts (.fieldLink nR_Model 49 "RoomClimateModel" "highs" "[I") tt_739) (fun _ h9 => h9) rfl nd_Model_machine_64 ?_
      refine lv_iload_n hx hb nd_Model_machine_67 rfl (lv_at hl 1 rfl) ?_
      refine lv_iload_n hx hb nd_Model_machine_68 rfl (lv_at hl 3 rfl) ?_
      refine va_iast hx hb hK hP hD hS 3 0 rfl rfl h16 nd_Model_machine_69 (fun H locs hP hD hS => ?_)
      have hP : va_P D vwCl [oc_Model qa0 u13_0 volume_ share_ qnow qkept qbooks qkeptBooks layers_ qconductances qcapacities kilograms_ rows_ qrowDamps qrowWaters qtold qlows qhighs qrates hours_ qriskRows qlevels qpointsOf qsums rules_ qruleKinds qruleLevels qholds qalarms qalarmHours qvalues qchecked qrights, aZ qtold ca 4 (upd told_ x1.toNatClampNeg (vp_nar .boolean (1 : Int32))), aI qlows ca 4 (upd lows_ x1.toNatClampNeg x2), aI qhighs ca 4 (upd highs_ x1.toNatClampNeg x3), aI qrates ca 4 rates_, aJ qnow ca 12 now_] H := hP
      have hD : va_D A [oc_Model qa0 u13_0 volume_ share_ qnow qkept qbooks qkeptBooks layers_ qconductances qcapacities kilograms_ rows_ qrowDamps qrowWaters qtold qlows qhighs qrates hours_ qriskRows qlevels qpointsOf qsums rules_ qruleKinds qruleLevels qholds qalarms qalarmHours qvalues qchecked qrights, aZ qtold ca 4 (upd told_ x1.toNatClampNeg (vp_nar .boolean (1 : Int32))), aI qlows ca 4 (upd lows_ x1.toNatClampNeg x2), aI qhighs ca 4 (upd highs_ x1.toNatClampNeg x3), aI qrates ca 4 rates_, aJ qnow ca 12 now_] := hD
      refine lv_aload_n hx hb nd_Model_machine_70 rfl (lv_at hl 0 rfl) ?_
      refine va_get (D := D) (ci := 9) (v := .ref qrates) (C := nR_Model) (T := nT_Model) (N := 32) hx hb hts ni_Model hown hK hP 0 rfl rfl 17 (by decide) (hts (.fieldLink nR_Model 52 "RoomClimateModel" "rates" "[I") tt_740) (fun _ h9 => h9) rfl nd_Model_machine_71 ?_
      refine lv_iload_n hx hb nd_Model_machine_74 rfl (lv_at hl 1 rfl) ?_
      refine lv_iload hx hb nd_Model_machine_75 (lv_at hl 4 rfl) ?_
      refine va_iast hx hb hK hP hD hS 4 0 rfl rfl h16 nd_Model_machine_77 (fun H locs hP hD hS => ?_)
      have hP : va_P D vwCl [oc_Model qa0 u13_0 volume_ share_ qnow qkept qbooks qkeptBooks layers_ qconductances qcapacities kilograms_ rows_ qrowDamps qrowWaters qtold qlows qhighs qrates hours_ qriskRows qlevels qpointsOf qsums rules_ qruleKinds qruleLevels qholds qalarms qalarmHours qvalues qchecked qrights, aZ qtold ca 4 (upd told_ x1.toNatClampNeg (vp_nar .boolean (1 : Int32))), aI qlows ca 4 (upd lows_ x1.toNatClampNeg x2), aI qhighs ca 4 (upd highs_ x1.toNatClampNeg x3), aI qrates ca 4 (upd rates_ x1.toNatClampNeg x4), aJ qnow ca 12 now_] H := hP
      have hD : va_D A [oc_Model qa0 u13_0 volume_ share_ qnow qkept qbooks qkeptBooks layers_ qconductances qcapacities kilograms_ rows_ qrowDamps qrowWaters qtold qlows qhighs qrates hours_ qriskRows qlevels qpointsOf qsums rules_ qruleKinds qruleLevels qholds qalarms qalarmHours qvalues qchecked qrights, aZ qtold ca 4 (upd told_ x1.toNatClampNeg (vp_nar .boolean (1 : Int32))), aI qlows ca 4 (upd lows_ x1.toNatClampNeg x2), aI qhighs ca 4 (upd highs_ x1.toNatClampNeg x3), aI qrates ca 4 (upd rates_ x1.toNatClampNeg x4), aJ qnow ca 12 now_] := hD
      refine lv_aload_n hx hb nd_Model_machine_78 rfl (lv_at hl 0 rfl) ?_
      refine va_get (D := D) (ci := 9) (v := .ref qnow) (C := nR_Model) (T := nT_Model) (N := 32) hx hb hts ni_Model hown hK hP 0 rfl rfl 3 (by decide) (hts (.fieldLink nR_Model 16 "RoomClimateModel" "now" "[J") tt_726) (fun _ h9 => h9) rfl nd_Model_machine_79 ?_
      refine lv_bipush (v := 8) hx hb nd_Model_machine_82 (by decide) ?_
      refine lv_iload_n hx hb nd_Model_machine_84 rfl (lv_at hl 1 rfl) ?_
      refine lv_iadd hx hb nd_Model_machine_85 ?_
      refine lv_lconst (v := 0) hx hb nd_Model_machine_86 (by decide) ?_
      obtain ⟨h17, hR⟩ := q_ix hR
      refine va_last hx hb hK hP hD hS 5 1 rfl rfl h17 nd_Model_machine_87 (fun H locs hP hD hS => ?_)
      have hP : va_P D vwCl [oc_Model qa0 u13_0 volume_ share_ qnow qkept qbooks qkeptBooks layers_ qconductances qcapacities kilograms_ rows_ qrowDamps qrowWaters qtold qlows qhighs qrates hours_ qriskRows qlevels qpointsOf qsums rules_ qruleKinds qruleLevels qholds qalarms qalarmHours qvalues qchecked qrights, aZ qtold ca 4 (upd told_ x1.toNatClampNeg (vp_nar .boolean (1 : Int32))), aI qlows ca 4 (upd lows_ x1.toNatClampNeg x2), aI qhighs ca 4 (upd highs_ x1.toNatClampNeg x3), aI qrates ca 4 (upd rates_ x1.toNatClampNeg x4), aJ qnow ca 12 (vp_updL now_ ((8 : Int32) + x1).toNatClampNeg (0 : Int64))] H := hP
      have hD : va_D A [oc_Model qa0 u13_0 volume_ share_ qnow qkept qbooks qkeptBooks layers_ qconductances qcapacities kilograms_ rows_ qrowDamps qrowWaters qtold qlows qhighs qrates hours_ qriskRows qlevels qpointsOf qsums rules_ qruleKinds qruleLevels qholds qalarms qalarmHours qvalues qchecked qrights, aZ qtold ca 4 (upd told_ x1.toNatClampNeg (vp_nar .boolean (1 : Int32))), aI qlows ca 4 (upd lows_ x1.toNatClampNeg x2), aI qhighs ca 4 (upd highs_ x1.toNatClampNeg x3), aI qrates ca 4 (upd rates_ x1.toNatClampNeg x4), aJ qnow ca 12 (vp_updL now_ ((8 : Int32) + x1).toNatClampNeg (0 : Int64))] := hD
      cases hR
      exact hN15 _ _ _ hP hD hS (lv_sub hl [0, 1, 2, 3, 4] rfl)
  refine lv_if_eq (tgt := 41) hx hb nd_Model_machine_11 (by decide) (fun c3 => ?_) (fun c3 => ?_)
  · have hR := q_p c3 hJ4
    refine lv_iconst (v := 0) hx hb nd_Model_machine_41 (by decide) ?_
    cases hR
    exact hN4 _ _ _ hP hD hS (lv_sub hl [0, 1, 2, 3, 4] rfl)
  · have hR := q_n c3 hJ4
    refine lv_iload_n hx hb nd_Model_machine_14 rfl (lv_at hl 3 rfl) ?_
    obtain ⟨r5, e5, hR⟩ := q_b1 hR
    refine k_rSI (As := [.int x3]) (rest := [.int r1, .ref qa0]) (r := r5) hx hb hml hown hts (cn_Model_isLevel l D ca x3 r5 e5) kc_Model_isLevel ks_Model_isLevel tt_853 ⟨by decide, by decide⟩ rfl rfl hP hK [] rfl rfl hl.1 (Nat.le_of_ble_eq_true rfl) rfl nd_Model_machine_15 ⟨Nat.zero_le _, Nat.zero_le _⟩ ?_
    obtain ⟨j7_0, hJ7, hR⟩ := q_b1 hR
    have hN7 : ∀ (H : Heap) (locs : List Loc) (ls : Array Slot), va_P D vwCl [oc_Model qa0 thrown_ volume_ share_ qnow qkept qbooks qkeptBooks layers_ qconductances qcapacities kilograms_ rows_ qrowDamps qrowWaters qtold qlows qhighs qrates hours_ qriskRows qlevels qpointsOf qsums rules_ qruleKinds qruleLevels qholds qalarms qalarmHours qvalues qchecked qrights, aZ qtold ca 4 told_, aI qlows ca 4 lows_, aI qhighs ca 4 highs_, aI qrates ca 4 rates_, aJ qnow ca 12 now_] H → va_D A [oc_Model qa0 thrown_ volume_ share_ qnow qkept qbooks qkeptBooks layers_ qconductances qcapacities kilograms_ rows_ qrowDamps qrowWaters qtold qlows qhighs qrates hours_ qriskRows qlevels qpointsOf qsums rules_ qruleKinds qruleLevels qholds qalarms qalarmHours qvalues qchecked qrights, aZ qtold ca 4 told_, aI qlows ca 4 lows_, aI qhighs ca 4 highs_, aI qrates ca 4 rates_, aJ qnow ca 12 now_] → va_S A s.heap H locs → lv_has ls 5 [(0, .ref qa0), (1, .int x1), (2, .int x2), (3, .int x3), (4, .int x4)] → W p l e rm_Model_machine s m ar below meth c H locs 0 0 Q (F0 m 42 ls [.int j7_0, .int r1, .ref qa0]) := by
      intro H locs ls hP hD hS hl
      cases hR
      exact hN4 _ _ _ hP hD hS (lv_sub hl [0, 1, 2, 3, 4] rfl)
    refine lv_if_eq (tgt := 41) hx hb nd_Model_machine_18 (by decide) (fun c6 => ?_) (fun c6 => ?_)
    · have hR := q_p c6 hJ7
      refine lv_iconst (v := 0) hx hb nd_Model_machine_41 (by decide) ?_
      cases hR
      exact hN7 _ _ _ hP hD hS (lv_sub hl [0, 1, 2, 3, 4] rfl)
    · have hR := q_n c6 hJ7
      refine lv_iload_n hx hb nd_Model_machine_21 rfl (lv_at hl 2 rfl) ?_
      refine lv_iload_n hx hb nd_Model_machine_22 rfl (lv_at hl 3 rfl) ?_
      obtain ⟨j9_0, hJ9, hR⟩ := q_b1 hR
      have hN9 : ∀ (H : Heap) (locs : List Loc) (ls : Array Slot), va_P D vwCl [oc_Model qa0 thrown_ volume_ share_ qnow qkept qbooks qkeptBooks layers_ qconductances qcapacities kilograms_ rows_ qrowDamps qrowWaters qtold qlows qhighs qrates hours_ qriskRows qlevels qpointsOf qsums rules_ qruleKinds qruleLevels qholds qalarms qalarmHours qvalues qchecked qrights, aZ qtold ca 4 told_, aI qlows ca 4 lows_, aI qhighs ca 4 highs_, aI qrates ca 4 rates_, aJ qnow ca 12 now_] H → va_D A [oc_Model qa0 thrown_ volume_ share_ qnow qkept qbooks qkeptBooks layers_ qconductances qcapacities kilograms_ rows_ qrowDamps qrowWaters qtold qlows qhighs qrates hours_ qriskRows qlevels qpointsOf qsums rules_ qruleKinds qruleLevels qholds qalarms qalarmHours qvalues qchecked qrights, aZ qtold ca 4 told_, aI qlows ca 4 lows_, aI qhighs ca 4 highs_, aI qrates ca 4 rates_, aJ qnow ca 12 now_] → va_S A s.heap H locs → lv_has ls 5 [(0, .ref qa0), (1, .int x1), (2, .int x2), (3, .int x3), (4, .int x4)] → W p l e rm_Model_machine s m ar below meth c H locs 0 0 Q (F0 m 42 ls [.int j9_0, .int r1, .ref qa0]) := by
        intro H locs ls hP hD hS hl
        cases hR
        exact hN7 _ _ _ hP hD hS (lv_sub hl [0, 1, 2, 3, 4] rfl)
      refine lv_icmp_gt (tgt := 41) hx hb nd_Model_machine_23 (by decide) (fun c8 => ?_) (fun c8 => ?_)
      · have hR := q_p c8 hJ9
        refine lv_iconst (v := 0) hx hb nd_Model_machine_41 (by decide) ?_
        cases hR
        exact hN9 _ _ _ hP hD hS (lv_sub hl [0, 1, 2, 3, 4] rfl)
      · have hR := q_n c8 hJ9
        refine lv_iload hx hb nd_Model_machine_26 (lv_at hl 4 rfl) ?_
        refine lv_iconst (v := 0) hx hb nd_Model_machine_28 (by decide) ?_
        refine lv_ldc hx hb hown (hts _ tt_857) nd_Model_machine_29 ?_
        obtain ⟨r10, e10, hR⟩ := q_b1 hR
        refine k_rSI (As := [.int x4, .int (0 : Int32), .int (100000 : Int32)]) (rest := [.int r1, .ref qa0]) (r := r10) hx hb hml hown hts (cn_Model_within l D ca x4 (0 : Int32) (100000 : Int32) r10 e10) kc_Model_within ks_Model_within tt_828 ⟨by decide, by decide⟩ rfl rfl hP hK [] rfl rfl hl.1 (Nat.le_of_ble_eq_true rfl) rfl nd_Model_machine_31 ⟨Nat.zero_le _, Nat.zero_le _⟩ ?_
        obtain ⟨j12_0, hJ12, hR⟩ := q_b1 hR
        have hN12 : ∀ (H : Heap) (locs : List Loc) (ls : Array Slot), va_P D vwCl [oc_Model qa0 thrown_ volume_ share_ qnow qkept qbooks qkeptBooks layers_ qconductances qcapacities kilograms_ rows_ qrowDamps qrowWaters qtold qlows qhighs qrates hours_ qriskRows qlevels qpointsOf qsums rules_ qruleKinds qruleLevels qholds qalarms qalarmHours qvalues qchecked qrights, aZ qtold ca 4 told_, aI qlows ca 4 lows_, aI qhighs ca 4 highs_, aI qrates ca 4 rates_, aJ qnow ca 12 now_] H → va_D A [oc_Model qa0 thrown_ volume_ share_ qnow qkept qbooks qkeptBooks layers_ qconductances qcapacities kilograms_ rows_ qrowDamps qrowWaters qtold qlows qhighs qrates hours_ qriskRows qlevels qpointsOf qsums rules_ qruleKinds qruleLevels qholds qalarms qalarmHours qvalues qchecked qrights, aZ qtold ca 4 told_, aI qlows ca 4 lows_, aI qhighs ca 4 highs_, aI qrates ca 4 rates_, aJ qnow ca 12 now_] → va_S A s.heap H locs → lv_has ls 5 [(0, .ref qa0), (1, .int x1), (2, .int x2), (3, .int x3), (4, .int x4)] → W p l e rm_Model_machine s m ar below meth c H locs 0 0 Q (F0 m 42 ls [.int j12_0, .int r1, .ref qa0]) := by
          intro H locs ls hP hD hS hl
          cases hR
          exact hN9 _ _ _ hP hD hS (lv_sub hl [0, 1, 2, 3, 4] rfl)
        refine lv_if_eq (tgt := 41) hx hb nd_Model_machine_34 (by decide) (fun c11 => ?_) (fun c11 => ?_)
        · have hR := q_p c11 hJ12
          refine lv_iconst (v := 0) hx hb nd_Model_machine_41 (by decide) ?_
          cases hR
          exact hN12 _ _ _ hP hD hS (lv_sub hl [0, 1, 2, 3, 4] rfl)
        · have hR := q_n c11 hJ12
          refine lv_iconst (v := 1) hx hb nd_Model_machine_37 (by decide) ?_
          refine lv_goto (tgt := 42) hx hb nd_Model_machine_38 (by decide) ?_
          cases hR
          exact hN12 _ _ _ hP hD hS (lv_sub hl [0, 1, 2, 3, 4] rfl)
def rm_Model_degreesNow : Room := { frames := 1, cells := 0, slots := 0, locals := 25 }
theorem kc_Model_degreesNow : k_cal nY_Model_degreesNow nC_Model_degreesNow 1 (some .long) 0 := ⟨tt_876, tt_10, by decide +kernel⟩
theorem kv_Model_degreesNow : k_vir nY_Model_degreesNow := ⟨tt_875, tp_12⟩
set_option maxHeartbeats 4000000 in
set_option maxRecDepth 100000 in
theorem cn_Model_degreesNow (l : Launch) (D : va_G) (ca : Nat → ClassId) (qa0 qnow qkept qbooks qkeptBooks qconductances qcapacities qrowDamps qrowWaters qtold qlows qhighs qrates qriskRows qlevels qpointsOf qsums qruleKinds qruleLevels qholds qalarms qalarmHours qvalues qchecked qrights : Nat) (thrown_ : Int32) (volume_ : Int32) (share_ : Int32) (layers_ : Int32) (kilograms_ : Int32) (rows_ : Int32) (hours_ : Int32) (rules_ : Int32) (now_ : Nat → Int64) (R0 : Int64) (hR : fn_Model_degreesNow volume_ now_ = some R0) : Met l nY_Model_degreesNow (Cond.code nY_Model_degreesNow nC_Model_degreesNow 1 (some .long) :: TT) rm_Model_degreesNow (rd_P [.ref qa0] D ca [oc_Model qa0 thrown_ volume_ share_ qnow qkept qbooks qkeptBooks layers_ qconductances qcapacities kilograms_ rows_ qrowDamps qrowWaters qtold qlows qhighs qrates hours_ qriskRows qlevels qpointsOf qsums rules_ qruleKinds qruleLevels qholds qalarms qalarmHours qvalues qchecked qrights, aJ qnow ca 12 now_]) (vp_Sl (fun x => x = R0)) 0 0 (fun _ => False) := by
  refine rd_ofJ (by decide +kernel) (Nat.le_of_ble_eq_true rfl) ?_
  intro p e s m below meth c Q ar ls hx hb hml hts hown hP hK hl hret
  have hown : s.vm.findClass nR_Model = some m.cls := hown
  have hl : lv_has ls 1 [(0, .ref qa0)] := hl
  unfold fn_Model_degreesNow at hR
  refine lv_aload_n hx hb nd_Model_degreesNow_0 rfl (lv_at hl 0 rfl) ?_
  refine va_get (D := D) (ci := 9) (v := .ref qnow) (C := nR_Model) (T := nT_Model) (N := 32) hx hb hts ni_Model hown hK hP 0 rfl rfl 3 (by decide) (hts (.fieldLink nR_Model 16 "RoomClimateModel" "now" "[J") tt_726) (fun _ h9 => h9) rfl nd_Model_degreesNow_1 ?_
  refine lv_iconst (v := 0) hx hb nd_Model_degreesNow_4 (by decide) ?_
  obtain ⟨h1, hR⟩ := q_ix hR
  refine va_lald hx hb hK hP 1 1 rfl rfl h1 nd_Model_degreesNow_5 ?_
  refine lv_aload_n hx hb nd_Model_degreesNow_6 rfl (lv_at hl 0 rfl) ?_
  refine va_get (D := D) (ci := 9) (v := .int volume_) (C := nR_Model) (T := nT_Model) (N := 32) hx hb hts ni_Model hown hK hP 0 rfl rfl 1 (by decide) (hts (.fieldLink nR_Model 7 "RoomClimateModel" "volume" "I") tt_724) (fun _ h9 => h9) rfl nd_Model_degreesNow_7 ?_
  refine lv_i2l hx hb nd_Model_degreesNow_10 rfl ?_
  obtain ⟨r2, e2, hR⟩ := q_b1 hR
  refine k_rSJ (As := [.long (now_ (0 : Int32).toNatClampNeg), .long volume_.toInt64]) (rest := []) (r := r2) hx hb hml hown hts (cn_Model_by l D ca (now_ (0 : Int32).toNatClampNeg) volume_.toInt64 r2 e2) kc_Model_by ks_Model_by tt_877 ⟨by decide, by decide⟩ rfl rfl hP hK [] rfl rfl hl.1 (Nat.le_of_ble_eq_true rfl) rfl nd_Model_degreesNow_11 ⟨Nat.zero_le _, Nat.zero_le _⟩ ?_
  exact hret _ _ _ nd_Model_degreesNow_14 (Option.some.inj hR)
def rm_Model_dampNow : Room := { frames := 1, cells := 0, slots := 0, locals := 25 }
theorem kc_Model_dampNow : k_cal nY_Model_dampNow nC_Model_dampNow 1 (some .long) 0 := ⟨tt_884, tt_10, by decide +kernel⟩
theorem kv_Model_dampNow : k_vir nY_Model_dampNow := ⟨tt_883, tp_13⟩
set_option maxHeartbeats 4000000 in
set_option maxRecDepth 100000 in
theorem cn_Model_dampNow (l : Launch) (D : va_G) (ca : Nat → ClassId) (qa0 qnow qkept qbooks qkeptBooks qconductances qcapacities qrowDamps qrowWaters qtold qlows qhighs qrates qriskRows qlevels qpointsOf qsums qruleKinds qruleLevels qholds qalarms qalarmHours qvalues qchecked qrights : Nat) (thrown_ : Int32) (volume_ : Int32) (share_ : Int32) (layers_ : Int32) (kilograms_ : Int32) (rows_ : Int32) (hours_ : Int32) (rules_ : Int32) (now_ : Nat → Int64) (R0 : Int64) (hR : fn_Model_dampNow volume_ now_ = some R0) : Met l nY_Model_dampNow (Cond.code nY_Model_dampNow nC_Model_dampNow 1 (some .long) :: TT) rm_Model_dampNow (rd_P [.ref qa0] D ca [oc_Model qa0 thrown_ volume_ share_ qnow qkept qbooks qkeptBooks layers_ qconductances qcapacities kilograms_ rows_ qrowDamps qrowWaters qtold qlows qhighs qrates hours_ qriskRows qlevels qpointsOf qsums rules_ qruleKinds qruleLevels qholds qalarms qalarmHours qvalues qchecked qrights, aJ qnow ca 12 now_]) (vp_Sl (fun x => x = R0)) 0 0 (fun _ => False) := by
  refine rd_ofJ (by decide +kernel) (Nat.le_of_ble_eq_true rfl) ?_
  intro p e s m below meth c Q ar ls hx hb hml hts hown hP hK hl hret
  have hown : s.vm.findClass nR_Model = some m.cls := hown
  have hl : lv_has ls 1 [(0, .ref qa0)] := hl
  unfold fn_Model_dampNow at hR
  refine lv_aload_n hx hb nd_Model_dampNow_0 rfl (lv_at hl 0 rfl) ?_
  refine va_get (D := D) (ci := 9) (v := .ref qnow) (C := nR_Model) (T := nT_Model) (N := 32) hx hb hts ni_Model hown hK hP 0 rfl rfl 3 (by decide) (hts (.fieldLink nR_Model 16 "RoomClimateModel" "now" "[J") tt_726) (fun _ h9 => h9) rfl nd_Model_dampNow_1 ?_
  refine lv_iconst (v := 1) hx hb nd_Model_dampNow_4 (by decide) ?_
  obtain ⟨h1, hR⟩ := q_ix hR
  refine va_lald hx hb hK hP 1 1 rfl rfl h1 nd_Model_dampNow_5 ?_
  refine lv_aload_n hx hb nd_Model_dampNow_6 rfl (lv_at hl 0 rfl) ?_
  refine va_get (D := D) (ci := 9) (v := .int volume_) (C := nR_Model) (T := nT_Model) (N := 32) hx hb hts ni_Model hown hK hP 0 rfl rfl 1 (by decide) (hts (.fieldLink nR_Model 7 "RoomClimateModel" "volume" "I") tt_724) (fun _ h9 => h9) rfl nd_Model_dampNow_7 ?_
  refine lv_i2l hx hb nd_Model_dampNow_10 rfl ?_
  obtain ⟨r2, e2, hR⟩ := q_b1 hR
  refine k_rSJ (As := [.long (now_ (1 : Int32).toNatClampNeg), .long volume_.toInt64]) (rest := []) (r := r2) hx hb hml hown hts (cn_Model_by l D ca (now_ (1 : Int32).toNatClampNeg) volume_.toInt64 r2 e2) kc_Model_by ks_Model_by tt_877 ⟨by decide, by decide⟩ rfl rfl hP hK [] rfl rfl hl.1 (Nat.le_of_ble_eq_true rfl) rfl nd_Model_dampNow_11 ⟨Nat.zero_le _, Nat.zero_le _⟩ ?_
  exact hret _ _ _ nd_Model_dampNow_14 (Option.some.inj hR)
def rm_Model_layerNow : Room := { frames := 1, cells := 0, slots := 0, locals := 25 }
theorem kc_Model_layerNow : k_cal nY_Model_layerNow nC_Model_layerNow 2 (some .long) 1 := ⟨tt_896, tt_10, by decide +kernel⟩
theorem kv_Model_layerNow : k_vir nY_Model_layerNow := ⟨tt_895, tp_16⟩
set_option maxHeartbeats 4000000 in
set_option maxRecDepth 100000 in
theorem cn_Model_layerNow (l : Launch) (D : va_G) (ca : Nat → ClassId) (qa0 qnow qkept qbooks qkeptBooks qconductances qcapacities qrowDamps qrowWaters qtold qlows qhighs qrates qriskRows qlevels qpointsOf qsums qruleKinds qruleLevels qholds qalarms qalarmHours qvalues qchecked qrights : Nat) (thrown_ : Int32) (volume_ : Int32) (share_ : Int32) (layers_ : Int32) (kilograms_ : Int32) (rows_ : Int32) (hours_ : Int32) (rules_ : Int32) (now_ : Nat → Int64) (capacities_ : Nat → Int32) (x1 : Int32) (R0 : Int64) (hR : fn_Model_layerNow now_ capacities_ x1 = some R0) : Met l nY_Model_layerNow (Cond.code nY_Model_layerNow nC_Model_layerNow 2 (some .long) :: TT) rm_Model_layerNow (rd_P [.ref qa0, .int x1] D ca [oc_Model qa0 thrown_ volume_ share_ qnow qkept qbooks qkeptBooks layers_ qconductances qcapacities kilograms_ rows_ qrowDamps qrowWaters qtold qlows qhighs qrates hours_ qriskRows qlevels qpointsOf qsums rules_ qruleKinds qruleLevels qholds qalarms qalarmHours qvalues qchecked qrights, aJ qnow ca 12 now_, aI qcapacities ca 5 capacities_]) (vp_Sl (fun x => x = R0)) 0 0 (fun _ => False) := by
  refine rd_ofJ (by decide +kernel) (Nat.le_of_ble_eq_true rfl) ?_
  intro p e s m below meth c Q ar ls hx hb hml hts hown hP hK hl hret
  have hown : s.vm.findClass nR_Model = some m.cls := hown
  have hl : lv_has ls 2 [(0, .ref qa0), (1, .int x1)] := hl
  unfold fn_Model_layerNow at hR
  refine lv_aload_n hx hb nd_Model_layerNow_0 rfl (lv_at hl 0 rfl) ?_
  refine va_get (D := D) (ci := 9) (v := .ref qnow) (C := nR_Model) (T := nT_Model) (N := 32) hx hb hts ni_Model hown hK hP 0 rfl rfl 3 (by decide) (hts (.fieldLink nR_Model 16 "RoomClimateModel" "now" "[J") tt_726) (fun _ h9 => h9) rfl nd_Model_layerNow_1 ?_
  refine lv_iconst (v := 3) hx hb nd_Model_layerNow_4 (by decide) ?_
  refine lv_iload_n hx hb nd_Model_layerNow_5 rfl (lv_at hl 1 rfl) ?_
  refine lv_iadd hx hb nd_Model_layerNow_6 ?_
  obtain ⟨h1, hR⟩ := q_ix hR
  refine va_lald hx hb hK hP 1 1 rfl rfl h1 nd_Model_layerNow_7 ?_
  refine lv_aload_n hx hb nd_Model_layerNow_8 rfl (lv_at hl 0 rfl) ?_
  refine va_get (D := D) (ci := 9) (v := .ref qcapacities) (C := nR_Model) (T := nT_Model) (N := 32) hx hb hts ni_Model hown hK hP 0 rfl rfl 9 (by decide) (hts (.fieldLink nR_Model 33 "RoomClimateModel" "capacities" "[I") tt_732) (fun _ h9 => h9) rfl nd_Model_layerNow_9 ?_
  refine lv_iload_n hx hb nd_Model_layerNow_12 rfl (lv_at hl 1 rfl) ?_
  obtain ⟨h2, hR⟩ := q_ix hR
  refine va_iald hx hb hK hP 2 0 rfl rfl h2 nd_Model_layerNow_13 ?_
  refine lv_i2l hx hb nd_Model_layerNow_14 rfl ?_
  obtain ⟨r3, e3, hR⟩ := q_b1 hR
  refine k_rSJ (As := [.long (now_ ((3 : Int32) + x1).toNatClampNeg), .long ((capacities_ x1.toNatClampNeg).toInt64)]) (rest := []) (r := r3) hx hb hml hown hts (cn_Model_by l D ca (now_ ((3 : Int32) + x1).toNatClampNeg) ((capacities_ x1.toNatClampNeg).toInt64) r3 e3) kc_Model_by ks_Model_by tt_877 ⟨by decide, by decide⟩ rfl rfl hP hK [] rfl rfl hl.1 (Nat.le_of_ble_eq_true rfl) rfl nd_Model_layerNow_15 ⟨Nat.zero_le _, Nat.zero_le _⟩ ?_
  exact hret _ _ _ nd_Model_layerNow_18 (Option.some.inj hR)
def rm_Model_change : Room := { frames := 0, cells := 0, slots := 0, locals := 0 }
theorem kc_Model_change : k_cal nY_Model_change nC_Model_change 6 none 3 := ⟨tt_888, tt_10, by decide +kernel⟩
theorem kv_Model_change : k_vir nY_Model_change := ⟨tt_887, tp_14⟩
set_option maxHeartbeats 4000000 in
set_option maxRecDepth 100000 in
theorem cn_Model_change (l : Launch) (D : va_G) (ca : Nat → ClassId) (qa0 qnow qkept qbooks qkeptBooks qconductances qcapacities qrowDamps qrowWaters qtold qlows qhighs qrates qriskRows qlevels qpointsOf qsums qruleKinds qruleLevels qholds qalarms qalarmHours qvalues qchecked qrights : Nat) (thrown_ : Int32) (volume_ : Int32) (share_ : Int32) (layers_ : Int32) (kilograms_ : Int32) (rows_ : Int32) (hours_ : Int32) (rules_ : Int32) (now_ : Nat → Int64) (books_ : Nat → Int64) (x1 : Int32) (x2 : Int64) (x4 : Int64) (R0 : Nat → Int64) (R1 : Nat → Int64) (hR : fn_Model_change now_ books_ x1 x2 x4 = some (R0, R1)) (sz : Nat) : Met l nY_Model_change (Cond.code nY_Model_change nC_Model_change 6 none :: TT) rm_Model_change (wr_P [.ref qa0, .int x1, .long x2, .long x4] D ca [oc_Model qa0 thrown_ volume_ share_ qnow qkept qbooks qkeptBooks layers_ qconductances qcapacities kilograms_ rows_ qrowDamps qrowWaters qtold qlows qhighs qrates hours_ qriskRows qlevels qpointsOf qsums rules_ qruleKinds qruleLevels qholds qalarms qalarmHours qvalues qchecked qrights, aJ qnow ca 12 now_, aJ qbooks ca 10 books_] sz) (va_Qv (fun (_ : Unit) => True) (wr_B D [oc_Model qa0 thrown_ volume_ share_ qnow qkept qbooks qkeptBooks layers_ qconductances qcapacities kilograms_ rows_ qrowDamps qrowWaters qtold qlows qhighs qrates hours_ qriskRows qlevels qpointsOf qsums rules_ qruleKinds qruleLevels qholds qalarms qalarmHours qvalues qchecked qrights, aJ qnow ca 12 now_, aJ qbooks ca 10 books_] sz [oc_Model qa0 thrown_ volume_ share_ qnow qkept qbooks qkeptBooks layers_ qconductances qcapacities kilograms_ rows_ qrowDamps qrowWaters qtold qlows qhighs qrates hours_ qriskRows qlevels qpointsOf qsums rules_ qruleKinds qruleLevels qholds qalarms qalarmHours qvalues qchecked qrights, aJ qnow ca 12 R0, aJ qbooks ca 10 R1]) (va_A [oc_Model qa0 thrown_ volume_ share_ qnow qkept qbooks qkeptBooks layers_ qconductances qcapacities kilograms_ rows_ qrowDamps qrowWaters qtold qlows qhighs qrates hours_ qriskRows qlevels qpointsOf qsums rules_ qruleKinds qruleLevels qholds qalarms qalarmHours qvalues qchecked qrights, aJ qnow ca 12 now_, aJ qbooks ca 10 books_] sz)) 0 0 (va_A [oc_Model qa0 thrown_ volume_ share_ qnow qkept qbooks qkeptBooks layers_ qconductances qcapacities kilograms_ rows_ qrowDamps qrowWaters qtold qlows qhighs qrates hours_ qriskRows qlevels qpointsOf qsums rules_ qruleKinds qruleLevels qholds qalarms qalarmHours qvalues qchecked qrights, aJ qnow ca 12 now_, aJ qbooks ca 10 books_] sz) := by
  refine wr_ofV (R := (R0, R1)) (w1 := fun r : (Nat → Int64) × (Nat → Int64) => [oc_Model qa0 thrown_ volume_ share_ qnow qkept qbooks qkeptBooks layers_ qconductances qcapacities kilograms_ rows_ qrowDamps qrowWaters qtold qlows qhighs qrates hours_ qriskRows qlevels qpointsOf qsums rules_ qruleKinds qruleLevels qholds qalarms qalarmHours qvalues qchecked qrights, aJ qnow ca 12 r.1, aJ qbooks ca 10 r.2]) (by decide +kernel) (Nat.le_of_ble_eq_true rfl) ?_
  intro p e s m below meth c Q ar ls hx hb hml hts hown hP hK A hD hA hl hret
  have hS : va_S A s.heap s.heap [] := va_S.rf
  have hown : s.vm.findClass nR_Model = some m.cls := hown
  have hl : lv_has ls 6 [(0, .ref qa0), (1, .int x1), (2, .long x2), (4, .long x4)] := hl
  unfold fn_Model_change at hR
  refine lv_aload_n hx hb nd_Model_change_0 rfl (lv_at hl 0 rfl) ?_
  refine va_get (D := D) (ci := 9) (v := .ref qnow) (C := nR_Model) (T := nT_Model) (N := 32) hx hb hts ni_Model hown hK hP 0 rfl rfl 3 (by decide) (hts (.fieldLink nR_Model 16 "RoomClimateModel" "now" "[J") tt_726) (fun _ h9 => h9) rfl nd_Model_change_1 ?_
  refine lv_iconst (v := 0) hx hb nd_Model_change_4 (by decide) ?_
  refine lv_aload_n hx hb nd_Model_change_5 rfl (lv_at hl 0 rfl) ?_
  refine va_get (D := D) (ci := 9) (v := .ref qnow) (C := nR_Model) (T := nT_Model) (N := 32) hx hb hts ni_Model hown hK hP 0 rfl rfl 3 (by decide) (hts (.fieldLink nR_Model 16 "RoomClimateModel" "now" "[J") tt_726) (fun _ h9 => h9) rfl nd_Model_change_6 ?_
  refine lv_iconst (v := 0) hx hb nd_Model_change_9 (by decide) ?_
  obtain ⟨h1, hR⟩ := q_ix hR
  refine va_lald hx hb hK hP 1 1 rfl rfl h1 nd_Model_change_10 ?_
  refine lv_lload_n hx hb nd_Model_change_11 rfl (lv_at hl 2 rfl) ?_
  refine lv_ladd hx hb nd_Model_change_12 ?_
  refine va_last hx hb hK hP hD hS 1 1 rfl rfl h1 nd_Model_change_13 (fun H locs hP hD hS => ?_)
  have hP : va_P D vwCl [oc_Model qa0 thrown_ volume_ share_ qnow qkept qbooks qkeptBooks layers_ qconductances qcapacities kilograms_ rows_ qrowDamps qrowWaters qtold qlows qhighs qrates hours_ qriskRows qlevels qpointsOf qsums rules_ qruleKinds qruleLevels qholds qalarms qalarmHours qvalues qchecked qrights, aJ qnow ca 12 (vp_updL now_ (0 : Int32).toNatClampNeg ((now_ (0 : Int32).toNatClampNeg) + x2)), aJ qbooks ca 10 books_] H := hP
  have hD : va_D A [oc_Model qa0 thrown_ volume_ share_ qnow qkept qbooks qkeptBooks layers_ qconductances qcapacities kilograms_ rows_ qrowDamps qrowWaters qtold qlows qhighs qrates hours_ qriskRows qlevels qpointsOf qsums rules_ qruleKinds qruleLevels qholds qalarms qalarmHours qvalues qchecked qrights, aJ qnow ca 12 (vp_updL now_ (0 : Int32).toNatClampNeg ((now_ (0 : Int32).toNatClampNeg) + x2)), aJ qbooks ca 10 books_] := hD
  refine lv_aload_n hx hb nd_Model_change_14 rfl (lv_at hl 0 rfl) ?_
  refine va_get (D := D) (ci := 9) (v := .ref qnow) (C := nR_Model) (T := nT_Model) (N := 32) hx hb hts ni_Model hown hK hP 0 rfl rfl 3 (by decide) (hts (.fieldLink nR_Model 16 "RoomClimateModel" "now" "[J") tt_726) (fun _ h9 => h9) rfl nd_Model_change_15 ?_
  refine lv_iconst (v := 1) hx hb nd_Model_change_18 (by decide) ?_
  refine lv_aload_n hx hb nd_Model_change_19 rfl (lv_at hl 0 rfl) ?_
  refine va_get (D := D) (ci := 9) (v := .ref qnow) (C := nR_Model) (T := nT_Model) (N := 32) hx hb hts ni_Model hown hK hP 0 rfl rfl 3 (by decide) (hts (.fieldLink nR_Model 16 "RoomClimateModel" "now" "[J") tt_726) (fun _ h9 => h9) rfl nd_Model_change_20 ?_
  refine lv_iconst (v := 1) hx hb nd_Model_change_23 (by decide) ?_
  obtain ⟨h2, hR⟩ := q_ix hR
  refine va_lald hx hb hK hP 1 1 rfl rfl h2 nd_Model_change_24 ?_
  refine lv_lload hx hb nd_Model_change_25 (lv_at hl 3 rfl) ?_
  refine lv_ladd hx hb nd_Model_change_27 ?_
  refine va_last hx hb hK hP hD hS 1 1 rfl rfl h2 nd_Model_change_28 (fun H locs hP hD hS => ?_)
  have hP : va_P D vwCl [oc_Model qa0 thrown_ volume_ share_ qnow qkept qbooks qkeptBooks layers_ qconductances qcapacities kilograms_ rows_ qrowDamps qrowWaters qtold qlows qhighs qrates hours_ qriskRows qlevels qpointsOf qsums rules_ qruleKinds qruleLevels qholds qalarms qalarmHours qvalues qchecked qrights, aJ qnow ca 12 (vp_updL (vp_updL now_ (0 : Int32).toNatClampNeg ((now_ (0 : Int32).toNatClampNeg) + x2)) (1 : Int32).toNatClampNeg (((vp_updL now_ (0 : Int32).toNatClampNeg ((now_ (0 : Int32).toNatClampNeg) + x2)) (1 : Int32).toNatClampNeg) + x4)), aJ qbooks ca 10 books_] H := hP
  have hD : va_D A [oc_Model qa0 thrown_ volume_ share_ qnow qkept qbooks qkeptBooks layers_ qconductances qcapacities kilograms_ rows_ qrowDamps qrowWaters qtold qlows qhighs qrates hours_ qriskRows qlevels qpointsOf qsums rules_ qruleKinds qruleLevels qholds qalarms qalarmHours qvalues qchecked qrights, aJ qnow ca 12 (vp_updL (vp_updL now_ (0 : Int32).toNatClampNeg ((now_ (0 : Int32).toNatClampNeg) + x2)) (1 : Int32).toNatClampNeg (((vp_updL now_ (0 : Int32).toNatClampNeg ((now_ (0 : Int32).toNatClampNeg) + x2)) (1 : Int32).toNatClampNeg) + x4)), aJ qbooks ca 10 books_] := hD
  refine lv_aload_n hx hb nd_Model_change_29 rfl (lv_at hl 0 rfl) ?_
  refine va_get (D := D) (ci := 9) (v := .ref qbooks) (C := nR_Model) (T := nT_Model) (N := 32) hx hb hts ni_Model hown hK hP 0 rfl rfl 5 (by decide) (hts (.fieldLink nR_Model 23 "RoomClimateModel" "books" "[J") tt_728) (fun _ h9 => h9) rfl nd_Model_change_30 ?_
  refine lv_iload_n hx hb nd_Model_change_33 rfl (lv_at hl 1 rfl) ?_
  refine lv_aload_n hx hb nd_Model_change_34 rfl (lv_at hl 0 rfl) ?_
  refine va_get (D := D) (ci := 9) (v := .ref qbooks) (C := nR_Model) (T := nT_Model) (N := 32) hx hb hts ni_Model hown hK hP 0 rfl rfl 5 (by decide) (hts (.fieldLink nR_Model 23 "RoomClimateModel" "books" "[J") tt_728) (fun _ h9 => h9) rfl nd_Model_change_35 ?_
  refine lv_iload_n hx hb nd_Model_change_38 rfl (lv_at hl 1 rfl) ?_
  obtain ⟨h3, hR⟩ := q_ix hR
  refine va_lald hx hb hK hP 2 1 rfl rfl h3 nd_Model_change_39 ?_
  refine lv_lload_n hx hb nd_Model_change_40 rfl (lv_at hl 2 rfl) ?_
  refine lv_ladd hx hb nd_Model_change_41 ?_
  refine va_last hx hb hK hP hD hS 2 1 rfl rfl h3 nd_Model_change_42 (fun H locs hP hD hS => ?_)
  have hP : va_P D vwCl [oc_Model qa0 thrown_ volume_ share_ qnow qkept qbooks qkeptBooks layers_ qconductances qcapacities kilograms_ rows_ qrowDamps qrowWaters qtold qlows qhighs qrates hours_ qriskRows qlevels qpointsOf qsums rules_ qruleKinds qruleLevels qholds qalarms qalarmHours qvalues qchecked qrights, aJ qnow ca 12 (vp_updL (vp_updL now_ (0 : Int32).toNatClampNeg ((now_ (0 : Int32).toNatClampNeg) + x2)) (1 : Int32).toNatClampNeg (((vp_updL now_ (0 : Int32).toNatClampNeg ((now_ (0 : Int32).toNatClampNeg) + x2)) (1 : Int32).toNatClampNeg) + x4)), aJ qbooks ca 10 (vp_updL books_ x1.toNatClampNeg ((books_ x1.toNatClampNeg) + x2))] H := hP
  have hD : va_D A [oc_Model qa0 thrown_ volume_ share_ qnow qkept qbooks qkeptBooks layers_ qconductances qcapacities kilograms_ rows_ qrowDamps qrowWaters qtold qlows qhighs qrates hours_ qriskRows qlevels qpointsOf qsums rules_ qruleKinds qruleLevels qholds qalarms qalarmHours qvalues qchecked qrights, aJ qnow ca 12 (vp_updL (vp_updL now_ (0 : Int32).toNatClampNeg ((now_ (0 : Int32).toNatClampNeg) + x2)) (1 : Int32).toNatClampNeg (((vp_updL now_ (0 : Int32).toNatClampNeg ((now_ (0 : Int32).toNatClampNeg) + x2)) (1 : Int32).toNatClampNeg) + x4)), aJ qbooks ca 10 (vp_updL books_ x1.toNatClampNeg ((books_ x1.toNatClampNeg) + x2))] := hD
  refine lv_aload_n hx hb nd_Model_change_43 rfl (lv_at hl 0 rfl) ?_
  refine va_get (D := D) (ci := 9) (v := .ref qbooks) (C := nR_Model) (T := nT_Model) (N := 32) hx hb hts ni_Model hown hK hP 0 rfl rfl 5 (by decide) (hts (.fieldLink nR_Model 23 "RoomClimateModel" "books" "[J") tt_728) (fun _ h9 => h9) rfl nd_Model_change_44 ?_
  refine lv_iconst (v := 5) hx hb nd_Model_change_47 (by decide) ?_
  refine lv_iload_n hx hb nd_Model_change_48 rfl (lv_at hl 1 rfl) ?_
  refine lv_iadd hx hb nd_Model_change_49 ?_
  refine lv_aload_n hx hb nd_Model_change_50 rfl (lv_at hl 0 rfl) ?_
  refine va_get (D := D) (ci := 9) (v := .ref qbooks) (C := nR_Model) (T := nT_Model) (N := 32) hx hb hts ni_Model hown hK hP 0 rfl rfl 5 (by decide) (hts (.fieldLink nR_Model 23 "RoomClimateModel" "books" "[J") tt_728) (fun _ h9 => h9) rfl nd_Model_change_51 ?_
  refine lv_iconst (v := 5) hx hb nd_Model_change_54 (by decide) ?_
  refine lv_iload_n hx hb nd_Model_change_55 rfl (lv_at hl 1 rfl) ?_
  refine lv_iadd hx hb nd_Model_change_56 ?_
  obtain ⟨h4, hR⟩ := q_ix hR
  refine va_lald hx hb hK hP 2 1 rfl rfl h4 nd_Model_change_57 ?_
  refine lv_lload hx hb nd_Model_change_58 (lv_at hl 3 rfl) ?_
  refine lv_ladd hx hb nd_Model_change_60 ?_
  refine va_last hx hb hK hP hD hS 2 1 rfl rfl h4 nd_Model_change_61 (fun H locs hP hD hS => ?_)
  have hP : va_P D vwCl [oc_Model qa0 thrown_ volume_ share_ qnow qkept qbooks qkeptBooks layers_ qconductances qcapacities kilograms_ rows_ qrowDamps qrowWaters qtold qlows qhighs qrates hours_ qriskRows qlevels qpointsOf qsums rules_ qruleKinds qruleLevels qholds qalarms qalarmHours qvalues qchecked qrights, aJ qnow ca 12 (vp_updL (vp_updL now_ (0 : Int32).toNatClampNeg ((now_ (0 : Int32).toNatClampNeg) + x2)) (1 : Int32).toNatClampNeg (((vp_updL now_ (0 : Int32).toNatClampNeg ((now_ (0 : Int32).toNatClampNeg) + x2)) (1 : Int32).toNatClampNeg) + x4)), aJ qbooks ca 10 (vp_updL (vp_updL books_ x1.toNatClampNeg ((books_ x1.toNatClampNeg) + x2)) ((5 : Int32) + x1).toNatClampNeg (((vp_updL books_ x1.toNatClampNeg ((books_ x1.toNatClampNeg) + x2)) ((5 : Int32) + x1).toNatClampNeg) + x4))] H := hP
  have hD : va_D A [oc_Model qa0 thrown_ volume_ share_ qnow qkept qbooks qkeptBooks layers_ qconductances qcapacities kilograms_ rows_ qrowDamps qrowWaters qtold qlows qhighs qrates hours_ qriskRows qlevels qpointsOf qsums rules_ qruleKinds qruleLevels qholds qalarms qalarmHours qvalues qchecked qrights, aJ qnow ca 12 (vp_updL (vp_updL now_ (0 : Int32).toNatClampNeg ((now_ (0 : Int32).toNatClampNeg) + x2)) (1 : Int32).toNatClampNeg (((vp_updL now_ (0 : Int32).toNatClampNeg ((now_ (0 : Int32).toNatClampNeg) + x2)) (1 : Int32).toNatClampNeg) + x4)), aJ qbooks ca 10 (vp_updL (vp_updL books_ x1.toNatClampNeg ((books_ x1.toNatClampNeg) + x2)) ((5 : Int32) + x1).toNatClampNeg (((vp_updL books_ x1.toNatClampNeg ((books_ x1.toNatClampNeg) + x2)) ((5 : Int32) + x1).toNatClampNeg) + x4))] := hD
  exact hret (vp_updL (vp_updL now_ (0 : Int32).toNatClampNeg ((now_ (0 : Int32).toNatClampNeg) + x2)) (1 : Int32).toNatClampNeg (((vp_updL now_ (0 : Int32).toNatClampNeg ((now_ (0 : Int32).toNatClampNeg) + x2)) (1 : Int32).toNatClampNeg) + x4), vp_updL (vp_updL books_ x1.toNatClampNeg ((books_ x1.toNatClampNeg) + x2)) ((5 : Int32) + x1).toNatClampNeg (((vp_updL books_ x1.toNatClampNeg ((books_ x1.toNatClampNeg) + x2)) ((5 : Int32) + x1).toNatClampNeg) + x4)) _ _ _ _ nd_Model_change_62 hR hP hD hS
def rm_Model_air : Room := { frames := 2, cells := 0, slots := 0, locals := 45 }
theorem kc_Model_air : k_cal nY_Model_air nC_Model_air 7 none 2 := ⟨tt_872, tt_10, by decide +kernel⟩
theorem kv_Model_air : k_vir nY_Model_air := ⟨tt_871, tp_11⟩
set_option maxHeartbeats 4000000 in
set_option maxRecDepth 100000 in
theorem cn_Model_air (l : Launch) (D : va_G) (ca : Nat → ClassId) (qa0 qnow qkept qbooks qkeptBooks qconductances qcapacities qrowDamps qrowWaters qtold qlows qhighs qrates qriskRows qlevels qpointsOf qsums qruleKinds qruleLevels qholds qalarms qalarmHours qvalues qchecked qrights : Nat) (thrown_ : Int32) (volume_ : Int32) (share_ : Int32) (layers_ : Int32) (kilograms_ : Int32) (rows_ : Int32) (hours_ : Int32) (rules_ : Int32) (now_ : Nat → Int64) (books_ : Nat → Int64) (x1 : Int32) (x2 : Int32) (R0 : Nat → Int64) (R1 : Nat → Int64) (hR : fn_Model_air volume_ share_ now_ books_ x1 x2 = some (R0, R1)) (sz : Nat) : Met l nY_Model_air (Cond.code nY_Model_air nC_Model_air 7 none :: TT) rm_Model_air (wr_P [.ref qa0, .int x1, .int x2] D ca [oc_Model qa0 thrown_ volume_ share_ qnow qkept qbooks qkeptBooks layers_ qconductances qcapacities kilograms_ rows_ qrowDamps qrowWaters qtold qlows qhighs qrates hours_ qriskRows qlevels qpointsOf qsums rules_ qruleKinds qruleLevels qholds qalarms qalarmHours qvalues qchecked qrights, aJ qnow ca 12 now_, aJ qbooks ca 10 books_] sz) (va_Qv (fun (_ : Unit) => True) (wr_B D [oc_Model qa0 thrown_ volume_ share_ qnow qkept qbooks qkeptBooks layers_ qconductances qcapacities kilograms_ rows_ qrowDamps qrowWaters qtold qlows qhighs qrates hours_ qriskRows qlevels qpointsOf qsums rules_ qruleKinds qruleLevels qholds qalarms qalarmHours qvalues qchecked qrights, aJ qnow ca 12 now_, aJ qbooks ca 10 books_] sz [oc_Model qa0 thrown_ volume_ share_ qnow qkept qbooks qkeptBooks layers_ qconductances qcapacities kilograms_ rows_ qrowDamps qrowWaters qtold qlows qhighs qrates hours_ qriskRows qlevels qpointsOf qsums rules_ qruleKinds qruleLevels qholds qalarms qalarmHours qvalues qchecked qrights, aJ qnow ca 12 R0, aJ qbooks ca 10 R1]) (va_A [oc_Model qa0 thrown_ volume_ share_ qnow qkept qbooks qkeptBooks layers_ qconductances qcapacities kilograms_ rows_ qrowDamps qrowWaters qtold qlows qhighs qrates hours_ qriskRows qlevels qpointsOf qsums rules_ qruleKinds qruleLevels qholds qalarms qalarmHours qvalues qchecked qrights, aJ qnow ca 12 now_, aJ qbooks ca 10 books_] sz)) 0 0 (va_A [oc_Model qa0 thrown_ volume_ share_ qnow qkept qbooks qkeptBooks layers_ qconductances qcapacities kilograms_ rows_ qrowDamps qrowWaters qtold qlows qhighs qrates hours_ qriskRows qlevels qpointsOf qsums rules_ qruleKinds qruleLevels qholds qalarms qalarmHours qvalues qchecked qrights, aJ qnow ca 12 now_, aJ qbooks ca 10 books_] sz) := by
  refine wr_ofV (R := (R0, R1)) (w1 := fun r : (Nat → Int64) × (Nat → Int64) => [oc_Model qa0 thrown_ volume_ share_ qnow qkept qbooks qkeptBooks layers_ qconductances qcapacities kilograms_ rows_ qrowDamps qrowWaters qtold qlows qhighs qrates hours_ qriskRows qlevels qpointsOf qsums rules_ qruleKinds qruleLevels qholds qalarms qalarmHours qvalues qchecked qrights, aJ qnow ca 12 r.1, aJ qbooks ca 10 r.2]) (by decide +kernel) (Nat.le_of_ble_eq_true rfl) ?_
  intro p e s m below meth c Q ar ls hx hb hml hts hown hP hK A hD hA hl hret
  have hS : va_S A s.heap s.heap [] := va_S.rf
  have hown : s.vm.findClass nR_Model = some m.cls := hown
  have hl : lv_has ls 7 [(0, .ref qa0), (1, .int x1), (2, .int x2)] := hl
  unfold fn_Model_air at hR
  refine lv_aload_n hx hb nd_Model_air_0 rfl (lv_at hl 0 rfl) ?_
  refine va_get (D := D) (ci := 9) (v := .int share_) (C := nR_Model) (T := nT_Model) (N := 32) hx hb hts ni_Model hown hK hP 0 rfl rfl 2 (by decide) (hts (.fieldLink nR_Model 13 "RoomClimateModel" "share" "I") tt_725) (fun _ h9 => h9) rfl nd_Model_air_1 ?_
  refine lv_i2l hx hb nd_Model_air_4 rfl ?_
  refine lv_iload_n hx hb nd_Model_air_5 rfl (lv_at hl 1 rfl) ?_
  refine lv_i2l hx hb nd_Model_air_6 rfl ?_
  refine lv_aload_n hx hb nd_Model_air_7 rfl (lv_at hl 0 rfl) ?_
  obtain ⟨r1, e1, hR⟩ := q_b1 hR
  refine k_rVJ (As := []) (rest := [.long x1.toInt64, .long share_.toInt64]) (r := r1) hx hb hml hown hts (cn_Model_degreesNow l D ca qa0 qnow qkept qbooks qkeptBooks qconductances qcapacities qrowDamps qrowWaters qtold qlows qhighs qrates qriskRows qlevels qpointsOf qsums qruleKinds qruleLevels qholds qalarms qalarmHours qvalues qchecked qrights thrown_ volume_ share_ layers_ kilograms_ rows_ hours_ rules_ now_ r1 e1) kc_Model_degreesNow kv_Model_degreesNow tt_873 ⟨by decide, by decide⟩ rfl rfl hP hK [0, 1] rfl 0 rfl rfl rfl rfl hl.1 (Nat.le_of_ble_eq_true rfl) rfl nd_Model_air_8 ⟨Nat.zero_le _, Nat.zero_le _⟩ ?_
  refine lv_lsub hx hb nd_Model_air_11 ?_
  refine lv_lmul hx hb nd_Model_air_12 ?_
  refine lv_aload_n hx hb nd_Model_air_13 rfl (lv_at hl 0 rfl) ?_
  refine va_get (D := D) (ci := 9) (v := .int volume_) (C := nR_Model) (T := nT_Model) (N := 32) hx hb hts ni_Model hown hK hP 0 rfl rfl 1 (by decide) (hts (.fieldLink nR_Model 7 "RoomClimateModel" "volume" "I") tt_724) (fun _ h9 => h9) rfl nd_Model_air_14 ?_
  refine lv_i2l hx hb nd_Model_air_17 rfl ?_
  refine lv_lmul hx hb nd_Model_air_18 ?_
  refine lv_ldc2 hx hb hown (hts _ tt_880) nd_Model_air_19 ?_
  obtain ⟨r2, e2, hR⟩ := q_b1 hR
  refine k_rSJ (As := [.long ((share_.toInt64 * (x1.toInt64 - r1)) * volume_.toInt64), .long (1000 : Int64)]) (rest := []) (r := r2) hx hb hml hown hts (cn_Model_by l D ca ((share_.toInt64 * (x1.toInt64 - r1)) * volume_.toInt64) (1000 : Int64) r2 e2) kc_Model_by ks_Model_by tt_877 ⟨by decide, by decide⟩ rfl rfl hP hK [] rfl rfl hl.1 (Nat.le_of_ble_eq_true rfl) rfl nd_Model_air_22 ⟨Nat.zero_le _, Nat.zero_le _⟩ ?_
  refine lv_lstore_n (lv' := [(3, .long r2), (0, .ref qa0), (1, .int x1), (2, .int x2)]) hx hb nd_Model_air_25 rfl hl (by decide) rfl (fun ls hl => ?_)
  refine lv_aload_n hx hb nd_Model_air_26 rfl (lv_at hl 1 rfl) ?_
  refine va_get (D := D) (ci := 9) (v := .int share_) (C := nR_Model) (T := nT_Model) (N := 32) hx hb hts ni_Model hown hK hP 0 rfl rfl 2 (by decide) (hts (.fieldLink nR_Model 13 "RoomClimateModel" "share" "I") tt_725) (fun _ h9 => h9) rfl nd_Model_air_27 ?_
  refine lv_i2l hx hb nd_Model_air_30 rfl ?_
  refine lv_iload_n hx hb nd_Model_air_31 rfl (lv_at hl 3 rfl) ?_
  refine lv_i2l hx hb nd_Model_air_32 rfl ?_
  refine lv_aload_n hx hb nd_Model_air_33 rfl (lv_at hl 1 rfl) ?_
  obtain ⟨r3, e3, hR⟩ := q_b1 hR
  refine k_rVJ (As := []) (rest := [.long x2.toInt64, .long share_.toInt64]) (r := r3) hx hb hml hown hts (cn_Model_dampNow l D ca qa0 qnow qkept qbooks qkeptBooks qconductances qcapacities qrowDamps qrowWaters qtold qlows qhighs qrates qriskRows qlevels qpointsOf qsums qruleKinds qruleLevels qholds qalarms qalarmHours qvalues qchecked qrights thrown_ volume_ share_ layers_ kilograms_ rows_ hours_ rules_ now_ r3 e3) kc_Model_dampNow kv_Model_dampNow tt_881 ⟨by decide, by decide⟩ rfl rfl hP hK [0, 1] rfl 0 rfl rfl rfl rfl hl.1 (Nat.le_of_ble_eq_true rfl) rfl nd_Model_air_34 ⟨Nat.zero_le _, Nat.zero_le _⟩ ?_
  refine lv_lsub hx hb nd_Model_air_37 ?_
  refine lv_lmul hx hb nd_Model_air_38 ?_
  refine lv_aload_n hx hb nd_Model_air_39 rfl (lv_at hl 1 rfl) ?_
  refine va_get (D := D) (ci := 9) (v := .int volume_) (C := nR_Model) (T := nT_Model) (N := 32) hx hb hts ni_Model hown hK hP 0 rfl rfl 1 (by decide) (hts (.fieldLink nR_Model 7 "RoomClimateModel" "volume" "I") tt_724) (fun _ h9 => h9) rfl nd_Model_air_40 ?_
  refine lv_i2l hx hb nd_Model_air_43 rfl ?_
  refine lv_lmul hx hb nd_Model_air_44 ?_
  refine lv_ldc2 hx hb hown (hts _ tt_880) nd_Model_air_45 ?_
  obtain ⟨r4, e4, hR⟩ := q_b1 hR
  refine k_rSJ (As := [.long ((share_.toInt64 * (x2.toInt64 - r3)) * volume_.toInt64), .long (1000 : Int64)]) (rest := []) (r := r4) hx hb hml hown hts (cn_Model_by l D ca ((share_.toInt64 * (x2.toInt64 - r3)) * volume_.toInt64) (1000 : Int64) r4 e4) kc_Model_by ks_Model_by tt_877 ⟨by decide, by decide⟩ rfl rfl hP hK [] rfl rfl hl.1 (Nat.le_of_ble_eq_true rfl) rfl nd_Model_air_48 ⟨Nat.zero_le _, Nat.zero_le _⟩ ?_
  refine lv_lstore (lv' := [(5, .long r4), (3, .long r2), (0, .ref qa0), (1, .int x1), (2, .int x2)]) hx hb nd_Model_air_51 hl (by decide) rfl (fun ls hl => ?_)
  refine lv_aload_n hx hb nd_Model_air_53 rfl (lv_at hl 2 rfl) ?_
  refine lv_iconst (v := 0) hx hb nd_Model_air_54 (by decide) ?_
  refine lv_lload_n hx hb nd_Model_air_55 rfl (lv_at hl 1 rfl) ?_
  refine lv_lload hx hb nd_Model_air_56 (lv_at hl 0 rfl) ?_
  obtain ⟨u5_0, u5_1, e5, hR⟩ := q_b2 hR
  refine k_wVV (wr := []) (w2 := [oc_Model qa0 thrown_ volume_ share_ qnow qkept qbooks qkeptBooks layers_ qconductances qcapacities kilograms_ rows_ qrowDamps qrowWaters qtold qlows qhighs qrates hours_ qriskRows qlevels qpointsOf qsums rules_ qruleKinds qruleLevels qholds qalarms qalarmHours qvalues qchecked qrights, aJ qnow ca 12 u5_0, aJ qbooks ca 10 u5_1]) (As := [.int (0 : Int32), .long r2, .long r4]) (rest := []) hx hb hml hown hts (cn_Model_change l D ca qa0 qnow qkept qbooks qkeptBooks qconductances qcapacities qrowDamps qrowWaters qtold qlows qhighs qrates qriskRows qlevels qpointsOf qsums qruleKinds qruleLevels qholds qalarms qalarmHours qvalues qchecked qrights thrown_ volume_ share_ layers_ kilograms_ rows_ hours_ rules_ now_ books_ (0 : Int32) r2 r4 u5_0 u5_1 e5 _) kc_Model_change kv_Model_change tt_885 ⟨by decide, by decide⟩ rfl rfl hP hK hD hS hA [0, 1, 2] [] [0, 1, 2] rfl (by decide) rfl (by decide) (by decide) rfl (by decide) 0 rfl rfl rfl rfl hl.1 (Nat.le_of_ble_eq_true rfl) rfl nd_Model_air_58 ⟨Nat.zero_le _, Nat.zero_le _⟩ (fun H locs hP hD hS => ?_)
  exact hret (u5_0, u5_1) _ _ _ _ nd_Model_air_61 hR hP hD hS
def rm_Model_walls : Room := { frames := 2, cells := 0, slots := 0, locals := 46 }
theorem kc_Model_walls : k_cal nY_Model_walls nC_Model_walls 7 none 1 := ⟨tt_892, tt_10, by decide +kernel⟩
theorem kv_Model_walls : k_vir nY_Model_walls := ⟨tt_891, tp_15⟩
set_option maxHeartbeats 4000000 in
set_option maxRecDepth 100000 in
theorem cn_Model_walls (l : Launch) (D : va_G) (ca : Nat → ClassId) (qa0 qnow qkept qbooks qkeptBooks qconductances qcapacities qrowDamps qrowWaters qtold qlows qhighs qrates qriskRows qlevels qpointsOf qsums qruleKinds qruleLevels qholds qalarms qalarmHours qvalues qchecked qrights : Nat) (thrown_ : Int32) (volume_ : Int32) (share_ : Int32) (layers_ : Int32) (kilograms_ : Int32) (rows_ : Int32) (hours_ : Int32) (rules_ : Int32) (now_ : Nat → Int64) (conductances_ : Nat → Int32) (capacities_ : Nat → Int32) (books_ : Nat → Int64) (x1 : Int32) (R0 : Nat → Int64) (R1 : Nat → Int64) (hR : fn_Model_walls volume_ layers_ now_ conductances_ capacities_ books_ x1 = some (R0, R1)) (sz : Nat) : Met l nY_Model_walls (Cond.code nY_Model_walls nC_Model_walls 7 none :: TT) rm_Model_walls (wr_P [.ref qa0, .int x1] D ca [oc_Model qa0 thrown_ volume_ share_ qnow qkept qbooks qkeptBooks layers_ qconductances qcapacities kilograms_ rows_ qrowDamps qrowWaters qtold qlows qhighs qrates hours_ qriskRows qlevels qpointsOf qsums rules_ qruleKinds qruleLevels qholds qalarms qalarmHours qvalues qchecked qrights, aJ qnow ca 12 now_, aI qconductances ca 5 conductances_, aI qcapacities ca 5 capacities_, aJ qbooks ca 10 books_] sz) (va_Qv (fun (_ : Unit) => True) (wr_B D [oc_Model qa0 thrown_ volume_ share_ qnow qkept qbooks qkeptBooks layers_ qconductances qcapacities kilograms_ rows_ qrowDamps qrowWaters qtold qlows qhighs qrates hours_ qriskRows qlevels qpointsOf qsums rules_ qruleKinds qruleLevels qholds qalarms qalarmHours qvalues qchecked qrights, aJ qnow ca 12 now_, aI qconductances ca 5 conductances_, aI qcapacities ca 5 capacities_, aJ qbooks ca 10 books_] sz [oc_Model qa0 thrown_ volume_ share_ qnow qkept qbooks qkeptBooks layers_ qconductances qcapacities kilograms_ rows_ qrowDamps qrowWaters qtold qlows qhighs qrates hours_ qriskRows qlevels qpointsOf qsums rules_ qruleKinds qruleLevels qholds qalarms qalarmHours qvalues qchecked qrights, aJ qnow ca 12 R0, aI qconductances ca 5 conductances_, aI qcapacities ca 5 capacities_, aJ qbooks ca 10 R1]) (va_A [oc_Model qa0 thrown_ volume_ share_ qnow qkept qbooks qkeptBooks layers_ qconductances qcapacities kilograms_ rows_ qrowDamps qrowWaters qtold qlows qhighs qrates hours_ qriskRows qlevels qpointsOf qsums rules_ qruleKinds qruleLevels qholds qalarms qalarmHours qvalues qchecked qrights, aJ qnow ca 12 now_, aI qconductances ca 5 conductances_, aI qcapacities ca 5 capacities_, aJ qbooks ca 10 books_] sz)) 0 0 (va_A [oc_Model qa0 thrown_ volume_ share_ qnow qkept qbooks qkeptBooks layers_ qconductances qcapacities kilograms_ rows_ qrowDamps qrowWaters qtold qlows qhighs qrates hours_ qriskRows qlevels qpointsOf qsums rules_ qruleKinds qruleLevels qholds qalarms qalarmHours qvalues qchecked qrights, aJ qnow ca 12 now_, aI qconductances ca 5 conductances_, aI qcapacities ca 5 capacities_, aJ qbooks ca 10 books_] sz) := by
  refine wr_ofV (R := (R0, R1)) (w1 := fun r : (Nat → Int64) × (Nat → Int64) => [oc_Model qa0 thrown_ volume_ share_ qnow qkept qbooks qkeptBooks layers_ qconductances qcapacities kilograms_ rows_ qrowDamps qrowWaters qtold qlows qhighs qrates hours_ qriskRows qlevels qpointsOf qsums rules_ qruleKinds qruleLevels qholds qalarms qalarmHours qvalues qchecked qrights, aJ qnow ca 12 r.1, aI qconductances ca 5 conductances_, aI qcapacities ca 5 capacities_, aJ qbooks ca 10 r.2]) (by decide +kernel) (Nat.le_of_ble_eq_true rfl) ?_
  intro p e s m below meth c Q ar ls hx hb hml hts hown hP hK A hD hA hl hret
  have hS : va_S A s.heap s.heap [] := va_S.rf
  have hown : s.vm.findClass nR_Model = some m.cls := hown
  have hl : lv_has ls 7 [(0, .ref qa0), (1, .int x1)] := hl
  unfold fn_Model_walls at hR
  refine lv_iconst (v := 0) hx hb nd_Model_walls_0 (by decide) ?_
  refine lv_istore_n (lv' := [(2, .int (0 : Int32)), (0, .ref qa0), (1, .int x1)]) hx hb nd_Model_walls_1 rfl hl (by decide) rfl (fun ls hl => ?_)
  have hL2 : ∀ (n2 : Nat) (i2_2 : Int32) (now_L2 : Nat → Int64) (books_L2 : Nat → Int64) (H : Heap) (locs : List Loc) (ls : Array Slot), fn_Model_walls_L2 x1 layers_ conductances_ capacities_ volume_ n2 i2_2 now_L2 books_L2 = some (R0, R1) → va_P D vwCl [oc_Model qa0 thrown_ volume_ share_ qnow qkept qbooks qkeptBooks layers_ qconductances qcapacities kilograms_ rows_ qrowDamps qrowWaters qtold qlows qhighs qrates hours_ qriskRows qlevels qpointsOf qsums rules_ qruleKinds qruleLevels qholds qalarms qalarmHours qvalues qchecked qrights, aJ qnow ca 12 now_L2, aI qconductances ca 5 conductances_, aI qcapacities ca 5 capacities_, aJ qbooks ca 10 books_L2] H → va_D A [oc_Model qa0 thrown_ volume_ share_ qnow qkept qbooks qkeptBooks layers_ qconductances qcapacities kilograms_ rows_ qrowDamps qrowWaters qtold qlows qhighs qrates hours_ qriskRows qlevels qpointsOf qsums rules_ qruleKinds qruleLevels qholds qalarms qalarmHours qvalues qchecked qrights, aJ qnow ca 12 now_L2, aI qconductances ca 5 conductances_, aI qcapacities ca 5 capacities_, aJ qbooks ca 10 books_L2] → va_S A s.heap H locs → lv_has ls 7 [(0, .ref qa0), (1, .int x1), (2, .int i2_2)] → W p l e rm_Model_walls s m ar below meth c H locs 0 0 Q (F0 m 2 ls []) := by
    intro n2
    induction n2 with
    | zero => intro i2_2 now_L2 books_L2 H locs ls hR; exact nomatch hR
    | succ n2 ih2 =>
      intro i2_2 now_L2 books_L2 H locs ls hR hP hD hS hl
      rw [fn_Model_walls_L2] at hR
      refine lv_iload_n hx hb nd_Model_walls_2 rfl (lv_at hl 2 rfl) ?_
      refine lv_aload_n hx hb nd_Model_walls_3 rfl (lv_at hl 0 rfl) ?_
      refine va_get (D := D) (ci := 9) (v := .int layers_) (C := nR_Model) (T := nT_Model) (N := 32) hx hb hts ni_Model hown hK hP 0 rfl rfl 7 (by decide) (hts (.fieldLink nR_Model 107 "RoomClimateModel" "layers" "I") tt_730) (fun _ h9 => h9) rfl nd_Model_walls_4 ?_
      refine lv_icmp_ge (tgt := 113) hx hb nd_Model_walls_7 (by decide) (fun c1 => ?_) (fun c1 => ?_)
      · replace hR := q_p c1 hR
        refine lv_aload_n hx hb nd_Model_walls_113 rfl (lv_at hl 0 rfl) ?_
        refine va_get (D := D) (ci := 9) (v := .int layers_) (C := nR_Model) (T := nT_Model) (N := 32) hx hb hts ni_Model hown hK hP 0 rfl rfl 7 (by decide) (hts (.fieldLink nR_Model 107 "RoomClimateModel" "layers" "I") tt_730) (fun _ h9 => h9) rfl nd_Model_walls_114 ?_
        obtain ⟨j3_0, j3_1, hJ3, hR⟩ := q_b2 hR
        have hN3 : ∀ (H : Heap) (locs : List Loc) (ls : Array Slot), va_P D vwCl [oc_Model qa0 thrown_ volume_ share_ qnow qkept qbooks qkeptBooks layers_ qconductances qcapacities kilograms_ rows_ qrowDamps qrowWaters qtold qlows qhighs qrates hours_ qriskRows qlevels qpointsOf qsums rules_ qruleKinds qruleLevels qholds qalarms qalarmHours qvalues qchecked qrights, aJ qnow ca 12 j3_1, aI qconductances ca 5 conductances_, aI qcapacities ca 5 capacities_, aJ qbooks ca 10 books_L2] H → va_D A [oc_Model qa0 thrown_ volume_ share_ qnow qkept qbooks qkeptBooks layers_ qconductances qcapacities kilograms_ rows_ qrowDamps qrowWaters qtold qlows qhighs qrates hours_ qriskRows qlevels qpointsOf qsums rules_ qruleKinds qruleLevels qholds qalarms qalarmHours qvalues qchecked qrights, aJ qnow ca 12 j3_1, aI qconductances ca 5 conductances_, aI qcapacities ca 5 capacities_, aJ qbooks ca 10 books_L2] → va_S A s.heap H locs → lv_has ls 7 [(0, .ref qa0), (1, .int x1), (2, .int j3_0)] → W p l e rm_Model_walls s m ar below meth c H locs 0 0 Q (F0 m 166 ls []) := by
          intro H locs ls hP hD hS hl
          exact hret (j3_1, books_L2) _ _ _ _ nd_Model_walls_166 hR hP hD hS
        refine lv_if_le (tgt := 166) hx hb nd_Model_walls_117 (by decide) (fun c2 => ?_) (fun c2 => ?_)
        · have hR := q_p c2 hJ3
          cases hR
          exact hN3 _ _ _ hP hD hS (lv_sub hl [0, 1, 2] rfl)
        · have hR := q_n c2 hJ3
          refine lv_aload_n hx hb nd_Model_walls_120 rfl (lv_at hl 0 rfl) ?_
          refine va_get (D := D) (ci := 9) (v := .int layers_) (C := nR_Model) (T := nT_Model) (N := 32) hx hb hts ni_Model hown hK hP 0 rfl rfl 7 (by decide) (hts (.fieldLink nR_Model 107 "RoomClimateModel" "layers" "I") tt_730) (fun _ h9 => h9) rfl nd_Model_walls_121 ?_
          refine lv_iconst (v := 1) hx hb nd_Model_walls_124 (by decide) ?_
          refine lv_isub hx hb nd_Model_walls_125 ?_
          refine lv_istore_n (lv' := [(2, .int (layers_ - (1 : Int32))), (0, .ref qa0), (1, .int x1)]) hx hb nd_Model_walls_126 rfl hl (by decide) rfl (fun ls hl => ?_)
          refine lv_aload_n hx hb nd_Model_walls_127 rfl (lv_at hl 1 rfl) ?_
          refine va_get (D := D) (ci := 9) (v := .ref qnow) (C := nR_Model) (T := nT_Model) (N := 32) hx hb hts ni_Model hown hK hP 0 rfl rfl 3 (by decide) (hts (.fieldLink nR_Model 16 "RoomClimateModel" "now" "[J") tt_726) (fun _ h9 => h9) rfl nd_Model_walls_128 ?_
          refine lv_iconst (v := 3) hx hb nd_Model_walls_131 (by decide) ?_
          refine lv_iload_n hx hb nd_Model_walls_132 rfl (lv_at hl 0 rfl) ?_
          refine lv_iadd hx hb nd_Model_walls_133 ?_
          refine lv_aload_n hx hb nd_Model_walls_134 rfl (lv_at hl 1 rfl) ?_
          refine va_get (D := D) (ci := 9) (v := .ref qnow) (C := nR_Model) (T := nT_Model) (N := 32) hx hb hts ni_Model hown hK hP 0 rfl rfl 3 (by decide) (hts (.fieldLink nR_Model 16 "RoomClimateModel" "now" "[J") tt_726) (fun _ h9 => h9) rfl nd_Model_walls_135 ?_
          refine lv_iconst (v := 3) hx hb nd_Model_walls_138 (by decide) ?_
          refine lv_iload_n hx hb nd_Model_walls_139 rfl (lv_at hl 0 rfl) ?_
          refine lv_iadd hx hb nd_Model_walls_140 ?_
          obtain ⟨h4, hR⟩ := q_ix hR
          refine va_lald hx hb hK hP 1 1 rfl rfl h4 nd_Model_walls_141 ?_
          refine lv_aload_n hx hb nd_Model_walls_142 rfl (lv_at hl 1 rfl) ?_
          refine va_get (D := D) (ci := 9) (v := .ref qconductances) (C := nR_Model) (T := nT_Model) (N := 32) hx hb hts ni_Model hown hK hP 0 rfl rfl 8 (by decide) (hts (.fieldLink nR_Model 29 "RoomClimateModel" "conductances" "[I") tt_731) (fun _ h9 => h9) rfl nd_Model_walls_143 ?_
          refine lv_iload_n hx hb nd_Model_walls_146 rfl (lv_at hl 0 rfl) ?_
          obtain ⟨h5, hR⟩ := q_ix hR
          refine va_iald hx hb hK hP 2 0 rfl rfl h5 nd_Model_walls_147 ?_
          refine lv_i2l hx hb nd_Model_walls_148 rfl ?_
          refine lv_iload_n hx hb nd_Model_walls_149 rfl (lv_at hl 2 rfl) ?_
          refine lv_i2l hx hb nd_Model_walls_150 rfl ?_
          refine lv_aload_n hx hb nd_Model_walls_151 rfl (lv_at hl 1 rfl) ?_
          refine lv_iload_n hx hb nd_Model_walls_152 rfl (lv_at hl 0 rfl) ?_
          obtain ⟨r6, e6, hR⟩ := q_b1 hR
          refine k_rVJ (As := [.int (layers_ - (1 : Int32))]) (rest := [.long x1.toInt64, .long ((conductances_ (layers_ - (1 : Int32)).toNatClampNeg).toInt64), .long (now_L2 ((3 : Int32) + (layers_ - (1 : Int32))).toNatClampNeg), .int ((3 : Int32) + (layers_ - (1 : Int32))), .ref qnow]) (r := r6) hx hb hml hown hts (cn_Model_layerNow l D ca qa0 qnow qkept qbooks qkeptBooks qconductances qcapacities qrowDamps qrowWaters qtold qlows qhighs qrates qriskRows qlevels qpointsOf qsums qruleKinds qruleLevels qholds qalarms qalarmHours qvalues qchecked qrights thrown_ volume_ share_ layers_ kilograms_ rows_ hours_ rules_ now_L2 capacities_ (layers_ - (1 : Int32)) r6 e6) kc_Model_layerNow kv_Model_layerNow tt_893 ⟨by decide, by decide⟩ rfl rfl hP hK [0, 1, 3] rfl 0 rfl rfl rfl rfl hl.1 (Nat.le_of_ble_eq_true rfl) rfl nd_Model_walls_153 ⟨Nat.zero_le _, Nat.zero_le _⟩ ?_
          refine lv_lsub hx hb nd_Model_walls_156 ?_
          refine lv_lmul hx hb nd_Model_walls_157 ?_
          refine lv_ldc2 hx hb hown (hts _ tt_897) nd_Model_walls_158 ?_
          obtain ⟨r7, e7, hR⟩ := q_b1 hR
          refine k_rSJ (As := [.long (((conductances_ (layers_ - (1 : Int32)).toNatClampNeg).toInt64) * (x1.toInt64 - r6)), .long (100 : Int64)]) (rest := [.long (now_L2 ((3 : Int32) + (layers_ - (1 : Int32))).toNatClampNeg), .int ((3 : Int32) + (layers_ - (1 : Int32))), .ref qnow]) (r := r7) hx hb hml hown hts (cn_Model_by l D ca (((conductances_ (layers_ - (1 : Int32)).toNatClampNeg).toInt64) * (x1.toInt64 - r6)) (100 : Int64) r7 e7) kc_Model_by ks_Model_by tt_877 ⟨by decide, by decide⟩ rfl rfl hP hK [] rfl rfl hl.1 (Nat.le_of_ble_eq_true rfl) rfl nd_Model_walls_161 ⟨Nat.zero_le _, Nat.zero_le _⟩ ?_
          refine lv_ladd hx hb nd_Model_walls_164 ?_
          refine va_last hx hb hK hP hD hS 1 1 rfl rfl h4 nd_Model_walls_165 (fun H locs hP hD hS => ?_)
          have hP : va_P D vwCl [oc_Model qa0 thrown_ volume_ share_ qnow qkept qbooks qkeptBooks layers_ qconductances qcapacities kilograms_ rows_ qrowDamps qrowWaters qtold qlows qhighs qrates hours_ qriskRows qlevels qpointsOf qsums rules_ qruleKinds qruleLevels qholds qalarms qalarmHours qvalues qchecked qrights, aJ qnow ca 12 (vp_updL now_L2 ((3 : Int32) + (layers_ - (1 : Int32))).toNatClampNeg ((now_L2 ((3 : Int32) + (layers_ - (1 : Int32))).toNatClampNeg) + r7)), aI qconductances ca 5 conductances_, aI qcapacities ca 5 capacities_, aJ qbooks ca 10 books_L2] H := hP
          have hD : va_D A [oc_Model qa0 thrown_ volume_ share_ qnow qkept qbooks qkeptBooks layers_ qconductances qcapacities kilograms_ rows_ qrowDamps qrowWaters qtold qlows qhighs qrates hours_ qriskRows qlevels qpointsOf qsums rules_ qruleKinds qruleLevels qholds qalarms qalarmHours qvalues qchecked qrights, aJ qnow ca 12 (vp_updL now_L2 ((3 : Int32) + (layers_ - (1 : Int32))).toNatClampNeg ((now_L2 ((3 : Int32) + (layers_ - (1 : Int32))).toNatClampNeg) + r7)), aI qconductances ca 5 conductances_, aI qcapacities ca 5 capacities_, aJ qbooks ca 10 books_L2] := hD
          cases hR
          exact hN3 _ _ _ hP hD hS (lv_sub hl [1, 2, 0] rfl)
      · replace hR := q_n c1 hR
        refine lv_iload_n hx hb nd_Model_walls_10 rfl (lv_at hl 2 rfl) ?_
        obtain ⟨j9_0, hJ9, hR⟩ := q_b1 hR
        have hN9 : ∀ (H : Heap) (locs : List Loc) (ls : Array Slot), va_P D vwCl [oc_Model qa0 thrown_ volume_ share_ qnow qkept qbooks qkeptBooks layers_ qconductances qcapacities kilograms_ rows_ qrowDamps qrowWaters qtold qlows qhighs qrates hours_ qriskRows qlevels qpointsOf qsums rules_ qruleKinds qruleLevels qholds qalarms qalarmHours qvalues qchecked qrights, aJ qnow ca 12 now_L2, aI qconductances ca 5 conductances_, aI qcapacities ca 5 capacities_, aJ qbooks ca 10 books_L2] H → va_D A [oc_Model qa0 thrown_ volume_ share_ qnow qkept qbooks qkeptBooks layers_ qconductances qcapacities kilograms_ rows_ qrowDamps qrowWaters qtold qlows qhighs qrates hours_ qriskRows qlevels qpointsOf qsums rules_ qruleKinds qruleLevels qholds qalarms qalarmHours qvalues qchecked qrights, aJ qnow ca 12 now_L2, aI qconductances ca 5 conductances_, aI qcapacities ca 5 capacities_, aJ qbooks ca 10 books_L2] → va_S A s.heap H locs → lv_has ls 7 [(0, .ref qa0), (1, .int x1), (2, .int i2_2)] → W p l e rm_Model_walls s m ar below meth c H locs 0 0 Q (F0 m 28 ls [.long j9_0]) := by
          intro H locs ls hP hD hS hl
          refine lv_lstore_n (lv' := [(3, .long j9_0), (0, .ref qa0), (1, .int x1), (2, .int i2_2)]) hx hb nd_Model_walls_28 rfl hl (by decide) rfl (fun ls hl => ?_)
          refine lv_aload_n hx hb nd_Model_walls_29 rfl (lv_at hl 1 rfl) ?_
          refine va_get (D := D) (ci := 9) (v := .ref qconductances) (C := nR_Model) (T := nT_Model) (N := 32) hx hb hts ni_Model hown hK hP 0 rfl rfl 8 (by decide) (hts (.fieldLink nR_Model 29 "RoomClimateModel" "conductances" "[I") tt_731) (fun _ h9 => h9) rfl nd_Model_walls_30 ?_
          refine lv_iload_n hx hb nd_Model_walls_33 rfl (lv_at hl 3 rfl) ?_
          obtain ⟨h12, hR⟩ := q_ix hR
          refine va_iald hx hb hK hP 2 0 rfl rfl h12 nd_Model_walls_34 ?_
          refine lv_i2l hx hb nd_Model_walls_35 rfl ?_
          refine lv_lload_n hx hb nd_Model_walls_36 rfl (lv_at hl 0 rfl) ?_
          refine lv_aload_n hx hb nd_Model_walls_37 rfl (lv_at hl 1 rfl) ?_
          refine lv_iload_n hx hb nd_Model_walls_38 rfl (lv_at hl 3 rfl) ?_
          obtain ⟨r13, e13, hR⟩ := q_b1 hR
          refine k_rVJ (As := [.int i2_2]) (rest := [.long j9_0, .long ((conductances_ i2_2.toNatClampNeg).toInt64)]) (r := r13) hx hb hml hown hts (cn_Model_layerNow l D ca qa0 qnow qkept qbooks qkeptBooks qconductances qcapacities qrowDamps qrowWaters qtold qlows qhighs qrates qriskRows qlevels qpointsOf qsums qruleKinds qruleLevels qholds qalarms qalarmHours qvalues qchecked qrights thrown_ volume_ share_ layers_ kilograms_ rows_ hours_ rules_ now_L2 capacities_ i2_2 r13 e13) kc_Model_layerNow kv_Model_layerNow tt_893 ⟨by decide, by decide⟩ rfl rfl hP hK [0, 1, 3] rfl 0 rfl rfl rfl rfl hl.1 (Nat.le_of_ble_eq_true rfl) rfl nd_Model_walls_39 ⟨Nat.zero_le _, Nat.zero_le _⟩ ?_
          refine lv_lsub hx hb nd_Model_walls_42 ?_
          refine lv_lmul hx hb nd_Model_walls_43 ?_
          refine lv_ldc2 hx hb hown (hts _ tt_897) nd_Model_walls_44 ?_
          obtain ⟨r14, e14, hR⟩ := q_b1 hR
          refine k_rSJ (As := [.long (((conductances_ i2_2.toNatClampNeg).toInt64) * (j9_0 - r13)), .long (100 : Int64)]) (rest := []) (r := r14) hx hb hml hown hts (cn_Model_by l D ca (((conductances_ i2_2.toNatClampNeg).toInt64) * (j9_0 - r13)) (100 : Int64) r14 e14) kc_Model_by ks_Model_by tt_877 ⟨by decide, by decide⟩ rfl rfl hP hK [] rfl rfl hl.1 (Nat.le_of_ble_eq_true rfl) rfl nd_Model_walls_47 ⟨Nat.zero_le _, Nat.zero_le _⟩ ?_
          refine lv_lstore (lv' := [(5, .long r14), (3, .long j9_0), (0, .ref qa0), (1, .int x1), (2, .int i2_2)]) hx hb nd_Model_walls_50 hl (by decide) rfl (fun ls hl => ?_)
          refine lv_iload_n hx hb nd_Model_walls_52 rfl (lv_at hl 4 rfl) ?_
          obtain ⟨j16_0, j16_1, hJ16, hR⟩ := q_b2 hR
          have hN16 : ∀ (H : Heap) (locs : List Loc) (ls : Array Slot), va_P D vwCl [oc_Model qa0 thrown_ volume_ share_ qnow qkept qbooks qkeptBooks layers_ qconductances qcapacities kilograms_ rows_ qrowDamps qrowWaters qtold qlows qhighs qrates hours_ qriskRows qlevels qpointsOf qsums rules_ qruleKinds qruleLevels qholds qalarms qalarmHours qvalues qchecked qrights, aJ qnow ca 12 j16_0, aI qconductances ca 5 conductances_, aI qcapacities ca 5 capacities_, aJ qbooks ca 10 j16_1] H → va_D A [oc_Model qa0 thrown_ volume_ share_ qnow qkept qbooks qkeptBooks layers_ qconductances qcapacities kilograms_ rows_ qrowDamps qrowWaters qtold qlows qhighs qrates hours_ qriskRows qlevels qpointsOf qsums rules_ qruleKinds qruleLevels qholds qalarms qalarmHours qvalues qchecked qrights, aJ qnow ca 12 j16_0, aI qconductances ca 5 conductances_, aI qcapacities ca 5 capacities_, aJ qbooks ca 10 j16_1] → va_S A s.heap H locs → lv_has ls 7 [(0, .ref qa0), (1, .int x1), (2, .int i2_2), (3, .long j9_0), (5, .long r14)] → W p l e rm_Model_walls s m ar below meth c H locs 0 0 Q (F0 m 88 ls []) := by
            intro H locs ls hP hD hS hl
            refine lv_aload_n hx hb nd_Model_walls_88 rfl (lv_at hl 0 rfl) ?_
            refine va_get (D := D) (ci := 9) (v := .ref qnow) (C := nR_Model) (T := nT_Model) (N := 32) hx hb hts ni_Model hown hK hP 0 rfl rfl 3 (by decide) (hts (.fieldLink nR_Model 16 "RoomClimateModel" "now" "[J") tt_726) (fun _ h9 => h9) rfl nd_Model_walls_89 ?_
            refine lv_iconst (v := 3) hx hb nd_Model_walls_92 (by decide) ?_
            refine lv_iload_n hx hb nd_Model_walls_93 rfl (lv_at hl 2 rfl) ?_
            refine lv_iadd hx hb nd_Model_walls_94 ?_
            refine lv_aload_n hx hb nd_Model_walls_95 rfl (lv_at hl 0 rfl) ?_
            refine va_get (D := D) (ci := 9) (v := .ref qnow) (C := nR_Model) (T := nT_Model) (N := 32) hx hb hts ni_Model hown hK hP 0 rfl rfl 3 (by decide) (hts (.fieldLink nR_Model 16 "RoomClimateModel" "now" "[J") tt_726) (fun _ h9 => h9) rfl nd_Model_walls_96 ?_
            refine lv_iconst (v := 3) hx hb nd_Model_walls_99 (by decide) ?_
            refine lv_iload_n hx hb nd_Model_walls_100 rfl (lv_at hl 2 rfl) ?_
            refine lv_iadd hx hb nd_Model_walls_101 ?_
            obtain ⟨h19, hR⟩ := q_ix hR
            refine va_lald hx hb hK hP 1 1 rfl rfl h19 nd_Model_walls_102 ?_
            refine lv_lload hx hb nd_Model_walls_103 (lv_at hl 4 rfl) ?_
            refine lv_ladd hx hb nd_Model_walls_105 ?_
            refine va_last hx hb hK hP hD hS 1 1 rfl rfl h19 nd_Model_walls_106 (fun H locs hP hD hS => ?_)
            have hP : va_P D vwCl [oc_Model qa0 thrown_ volume_ share_ qnow qkept qbooks qkeptBooks layers_ qconductances qcapacities kilograms_ rows_ qrowDamps qrowWaters qtold qlows qhighs qrates hours_ qriskRows qlevels qpointsOf qsums rules_ qruleKinds qruleLevels qholds qalarms qalarmHours qvalues qchecked qrights, aJ qnow ca 12 (vp_updL j16_0 ((3 : Int32) + i2_2).toNatClampNeg ((j16_0 ((3 : Int32) + i2_2).toNatClampNeg) + r14)), aI qconductances ca 5 conductances_, aI qcapacities ca 5 capacities_, aJ qbooks ca 10 j16_1] H := hP
            have hD : va_D A [oc_Model qa0 thrown_ volume_ share_ qnow qkept qbooks qkeptBooks layers_ qconductances qcapacities kilograms_ rows_ qrowDamps qrowWaters qtold qlows qhighs qrates hours_ qriskRows qlevels qpointsOf qsums rules_ qruleKinds qruleLevels qholds qalarms qalarmHours qvalues qchecked qrights, aJ qnow ca 12 (vp_updL j16_0 ((3 : Int32) + i2_2).toNatClampNeg ((j16_0 ((3 : Int32) + i2_2).toNatClampNeg) + r14)), aI qconductances ca 5 conductances_, aI qcapacities ca 5 capacities_, aJ qbooks ca 10 j16_1] := hD
            refine lv_iinc (v := i2_2 + 1) (lv' := [(2, .int (i2_2 + 1)), (0, .ref qa0), (1, .int x1), (3, .long j9_0), (5, .long r14)]) hx hb nd_Model_walls_107 hl (k := 2) rfl (by first | rfl | decide) (by decide) rfl (fun ls hl => ?_)
            refine lv_goto (tgt := 2) hx hb nd_Model_walls_110 (by decide) ?_
            exact ih2 (i2_2 + 1) (vp_updL j16_0 ((3 : Int32) + i2_2).toNatClampNeg ((j16_0 ((3 : Int32) + i2_2).toNatClampNeg) + r14)) j16_1 _ _ _ hR hP hD hS (lv_sub hl [1, 2, 0] rfl)
          refine lv_if_ne (tgt := 69) hx hb nd_Model_walls_53 (by decide) (fun c15 => ?_) (fun c15 => ?_)
          · have hR := q_n c15 hJ16
            refine lv_aload_n hx hb nd_Model_walls_69 rfl (lv_at hl 2 rfl) ?_
            refine va_get (D := D) (ci := 9) (v := .ref qnow) (C := nR_Model) (T := nT_Model) (N := 32) hx hb hts ni_Model hown hK hP 0 rfl rfl 3 (by decide) (hts (.fieldLink nR_Model 16 "RoomClimateModel" "now" "[J") tt_726) (fun _ h9 => h9) rfl nd_Model_walls_70 ?_
            refine lv_iconst (v := 2) hx hb nd_Model_walls_73 (by decide) ?_
            refine lv_iload_n hx hb nd_Model_walls_74 rfl (lv_at hl 4 rfl) ?_
            refine lv_iadd hx hb nd_Model_walls_75 ?_
            refine lv_aload_n hx hb nd_Model_walls_76 rfl (lv_at hl 2 rfl) ?_
            refine va_get (D := D) (ci := 9) (v := .ref qnow) (C := nR_Model) (T := nT_Model) (N := 32) hx hb hts ni_Model hown hK hP 0 rfl rfl 3 (by decide) (hts (.fieldLink nR_Model 16 "RoomClimateModel" "now" "[J") tt_726) (fun _ h9 => h9) rfl nd_Model_walls_77 ?_
            refine lv_iconst (v := 2) hx hb nd_Model_walls_80 (by decide) ?_
            refine lv_iload_n hx hb nd_Model_walls_81 rfl (lv_at hl 4 rfl) ?_
            refine lv_iadd hx hb nd_Model_walls_82 ?_
            obtain ⟨h17, hR⟩ := q_ix hR
            refine va_lald hx hb hK hP 1 1 rfl rfl h17 nd_Model_walls_83 ?_
            refine lv_lload hx hb nd_Model_walls_84 (lv_at hl 0 rfl) ?_
            refine lv_lsub hx hb nd_Model_walls_86 ?_
            refine va_last hx hb hK hP hD hS 1 1 rfl rfl h17 nd_Model_walls_87 (fun H locs hP hD hS => ?_)
            have hP : va_P D vwCl [oc_Model qa0 thrown_ volume_ share_ qnow qkept qbooks qkeptBooks layers_ qconductances qcapacities kilograms_ rows_ qrowDamps qrowWaters qtold qlows qhighs qrates hours_ qriskRows qlevels qpointsOf qsums rules_ qruleKinds qruleLevels qholds qalarms qalarmHours qvalues qchecked qrights, aJ qnow ca 12 (vp_updL now_L2 ((2 : Int32) + i2_2).toNatClampNeg ((now_L2 ((2 : Int32) + i2_2).toNatClampNeg) - r14)), aI qconductances ca 5 conductances_, aI qcapacities ca 5 capacities_, aJ qbooks ca 10 books_L2] H := hP
            have hD : va_D A [oc_Model qa0 thrown_ volume_ share_ qnow qkept qbooks qkeptBooks layers_ qconductances qcapacities kilograms_ rows_ qrowDamps qrowWaters qtold qlows qhighs qrates hours_ qriskRows qlevels qpointsOf qsums rules_ qruleKinds qruleLevels qholds qalarms qalarmHours qvalues qchecked qrights, aJ qnow ca 12 (vp_updL now_L2 ((2 : Int32) + i2_2).toNatClampNeg ((now_L2 ((2 : Int32) + i2_2).toNatClampNeg) - r14)), aI qconductances ca 5 conductances_, aI qcapacities ca 5 capacities_, aJ qbooks ca 10 books_L2] := hD
            cases hR
            exact hN16 _ _ _ hP hD hS (lv_sub hl [2, 3, 4, 1, 0] rfl)
          · have hR := q_p c15 hJ16
            refine lv_aload_n hx hb nd_Model_walls_56 rfl (lv_at hl 2 rfl) ?_
            refine lv_iconst (v := 1) hx hb nd_Model_walls_57 (by decide) ?_
            refine lv_lconst (v := 0) hx hb nd_Model_walls_58 (by decide) ?_
            refine lv_lload hx hb nd_Model_walls_59 (lv_at hl 0 rfl) ?_
            refine lv_lsub hx hb nd_Model_walls_61 ?_
            refine lv_lconst (v := 0) hx hb nd_Model_walls_62 (by decide) ?_
            obtain ⟨u18_0, u18_1, e18, hR⟩ := q_b2 hR
            refine k_wVV (wr := [aI qconductances ca 5 conductances_, aI qcapacities ca 5 capacities_]) (w2 := [oc_Model qa0 thrown_ volume_ share_ qnow qkept qbooks qkeptBooks layers_ qconductances qcapacities kilograms_ rows_ qrowDamps qrowWaters qtold qlows qhighs qrates hours_ qriskRows qlevels qpointsOf qsums rules_ qruleKinds qruleLevels qholds qalarms qalarmHours qvalues qchecked qrights, aJ qnow ca 12 u18_0, aI qconductances ca 5 conductances_, aI qcapacities ca 5 capacities_, aJ qbooks ca 10 u18_1]) (As := [.int (1 : Int32), .long ((0 : Int64) - r14), .long (0 : Int64)]) (rest := []) hx hb hml hown hts (cn_Model_change l D ca qa0 qnow qkept qbooks qkeptBooks qconductances qcapacities qrowDamps qrowWaters qtold qlows qhighs qrates qriskRows qlevels qpointsOf qsums qruleKinds qruleLevels qholds qalarms qalarmHours qvalues qchecked qrights thrown_ volume_ share_ layers_ kilograms_ rows_ hours_ rules_ now_L2 books_L2 (1 : Int32) ((0 : Int64) - r14) (0 : Int64) u18_0 u18_1 e18 _) kc_Model_change kv_Model_change tt_885 ⟨by decide, by decide⟩ rfl rfl hP hK hD hS hA [0, 1, 4] [2, 3] [2, 3, 0, 1, 4] rfl (by decide) rfl (by decide) (by decide) rfl (by decide) 0 rfl rfl rfl rfl hl.1 (Nat.le_of_ble_eq_true rfl) rfl nd_Model_walls_63 ⟨Nat.zero_le _, Nat.zero_le _⟩ (fun H locs hP hD hS => ?_)
            refine lv_goto (tgt := 88) hx hb nd_Model_walls_66 (by decide) ?_
            cases hR
            exact hN16 _ _ _ hP hD hS (lv_sub hl [2, 3, 4, 1, 0] rfl)
        refine lv_if_ne (tgt := 21) hx hb nd_Model_walls_11 (by decide) (fun c8 => ?_) (fun c8 => ?_)
        · have hR := q_n c8 hJ9
          refine lv_aload_n hx hb nd_Model_walls_21 rfl (lv_at hl 0 rfl) ?_
          refine lv_iload_n hx hb nd_Model_walls_22 rfl (lv_at hl 2 rfl) ?_
          refine lv_iconst (v := 1) hx hb nd_Model_walls_23 (by decide) ?_
          refine lv_isub hx hb nd_Model_walls_24 ?_
          obtain ⟨r10, e10, hR⟩ := q_b1 hR
          refine k_rVJ (As := [.int (i2_2 - (1 : Int32))]) (rest := []) (r := r10) hx hb hml hown hts (cn_Model_layerNow l D ca qa0 qnow qkept qbooks qkeptBooks qconductances qcapacities qrowDamps qrowWaters qtold qlows qhighs qrates qriskRows qlevels qpointsOf qsums qruleKinds qruleLevels qholds qalarms qalarmHours qvalues qchecked qrights thrown_ volume_ share_ layers_ kilograms_ rows_ hours_ rules_ now_L2 capacities_ (i2_2 - (1 : Int32)) r10 e10) kc_Model_layerNow kv_Model_layerNow tt_893 ⟨by decide, by decide⟩ rfl rfl hP hK [0, 1, 3] rfl 0 rfl rfl rfl rfl hl.1 (Nat.le_of_ble_eq_true rfl) rfl nd_Model_walls_25 ⟨Nat.zero_le _, Nat.zero_le _⟩ ?_
          cases hR
          exact hN9 _ _ _ hP hD hS (lv_sub hl [0, 1, 2] rfl)
        · have hR := q_p c8 hJ9
          refine lv_aload_n hx hb nd_Model_walls_14 rfl (lv_at hl 0 rfl) ?_
          obtain ⟨r11, e11, hR⟩ := q_b1 hR
          refine k_rVJ (As := []) (rest := []) (r := r11) hx hb hml hown hts (cn_Model_degreesNow l D ca qa0 qnow qkept qbooks qkeptBooks qconductances qcapacities qrowDamps qrowWaters qtold qlows qhighs qrates qriskRows qlevels qpointsOf qsums qruleKinds qruleLevels qholds qalarms qalarmHours qvalues qchecked qrights thrown_ volume_ share_ layers_ kilograms_ rows_ hours_ rules_ now_L2 r11 e11) kc_Model_degreesNow kv_Model_degreesNow tt_873 ⟨by decide, by decide⟩ rfl rfl hP hK [0, 1] rfl 0 rfl rfl rfl rfl hl.1 (Nat.le_of_ble_eq_true rfl) rfl nd_Model_walls_15 ⟨Nat.zero_le _, Nat.zero_le _⟩ ?_
          refine lv_goto (tgt := 28) hx hb nd_Model_walls_18 (by decide) ?_
          cases hR
          exact hN9 _ _ _ hP hD hS (lv_sub hl [0, 1, 2] rfl)
  exact hL2 400 (0 : Int32) now_ books_ _ _ _ hR hP hD hS (lv_sub hl [1, 2, 0] rfl)
def rm_Model_due : Room := { frames := 2, cells := 0, slots := 0, locals := 45 }
theorem kc_Model_due : k_cal nY_Model_due nC_Model_due 4 (some .long) 0 := ⟨tt_905, tt_10, by decide +kernel⟩
theorem kv_Model_due : k_vir nY_Model_due := ⟨tt_904, tp_18⟩
set_option maxHeartbeats 4000000 in
set_option maxRecDepth 100000 in
theorem cn_Model_due (l : Launch) (D : va_G) (ca : Nat → ClassId) (qa0 qnow qkept qbooks qkeptBooks qconductances qcapacities qrowDamps qrowWaters qtold qlows qhighs qrates qriskRows qlevels qpointsOf qsums qruleKinds qruleLevels qholds qalarms qalarmHours qvalues qchecked qrights : Nat) (thrown_ : Int32) (volume_ : Int32) (share_ : Int32) (layers_ : Int32) (kilograms_ : Int32) (rows_ : Int32) (hours_ : Int32) (rules_ : Int32) (now_ : Nat → Int64) (rowWaters_ : Nat → Int32) (rowDamps_ : Nat → Int32) (R0 : Int64) (hR : fn_Model_due volume_ kilograms_ rows_ now_ rowWaters_ rowDamps_ = some R0) : Met l nY_Model_due (Cond.code nY_Model_due nC_Model_due 4 (some .long) :: TT) rm_Model_due (rd_P [.ref qa0] D ca [oc_Model qa0 thrown_ volume_ share_ qnow qkept qbooks qkeptBooks layers_ qconductances qcapacities kilograms_ rows_ qrowDamps qrowWaters qtold qlows qhighs qrates hours_ qriskRows qlevels qpointsOf qsums rules_ qruleKinds qruleLevels qholds qalarms qalarmHours qvalues qchecked qrights, aJ qnow ca 12 now_, aI qrowWaters ca 6 rowWaters_, aI qrowDamps ca 6 rowDamps_]) (vp_Sl (fun x => x = R0)) 0 0 (fun _ => False) := by
  refine rd_ofJ (by decide +kernel) (Nat.le_of_ble_eq_true rfl) ?_
  intro p e s m below meth c Q ar ls hx hb hml hts hown hP hK hl hret
  have hown : s.vm.findClass nR_Model = some m.cls := hown
  have hl : lv_has ls 4 [(0, .ref qa0)] := hl
  unfold fn_Model_due at hR
  refine lv_aload_n hx hb nd_Model_due_0 rfl (lv_at hl 0 rfl) ?_
  obtain ⟨r1, e1, hR⟩ := q_b1 hR
  refine k_rVJ (As := []) (rest := []) (r := r1) hx hb hml hown hts (cn_Model_dampNow l D ca qa0 qnow qkept qbooks qkeptBooks qconductances qcapacities qrowDamps qrowWaters qtold qlows qhighs qrates qriskRows qlevels qpointsOf qsums qruleKinds qruleLevels qholds qalarms qalarmHours qvalues qchecked qrights thrown_ volume_ share_ layers_ kilograms_ rows_ hours_ rules_ now_ r1 e1) kc_Model_dampNow kv_Model_dampNow tt_881 ⟨by decide, by decide⟩ rfl rfl hP hK [0, 1] rfl 0 rfl rfl rfl rfl hl.1 (Nat.le_of_ble_eq_true rfl) rfl nd_Model_due_1 ⟨Nat.zero_le _, Nat.zero_le _⟩ ?_
  refine lv_lstore_n (lv' := [(1, .long r1), (0, .ref qa0)]) hx hb nd_Model_due_4 rfl hl (by decide) rfl (fun ls hl => ?_)
  refine lv_iconst (v := 0) hx hb nd_Model_due_5 (by decide) ?_
  refine lv_istore_n (lv' := [(3, .int (0 : Int32)), (1, .long r1), (0, .ref qa0)]) hx hb nd_Model_due_6 rfl hl (by decide) rfl (fun ls hl => ?_)
  have hL7 : ∀ (n7 : Nat) (i3_7 : Int32) (ls : Array Slot), fn_Model_due_L7 r1 rows_ kilograms_ rowWaters_ rowDamps_ n7 i3_7 = some R0 → lv_has ls 4 [(0, .ref qa0), (1, .long r1), (3, .int i3_7)] → W p l e rm_Model_due s m ar below meth c s.heap [] 0 0 Q (F0 m 7 ls []) := by
    intro n7
    induction n7 with
    | zero => intro i3_7 ls hR; exact nomatch hR
    | succ n7 ih7 =>
      intro i3_7 ls hR  hl
      rw [fn_Model_due_L7] at hR
      refine lv_iload_n hx hb nd_Model_due_7 rfl (lv_at hl 2 rfl) ?_
      refine lv_aload_n hx hb nd_Model_due_8 rfl (lv_at hl 0 rfl) ?_
      refine va_get (D := D) (ci := 9) (v := .int rows_) (C := nR_Model) (T := nT_Model) (N := 32) hx hb hts ni_Model hown hK hP 0 rfl rfl 11 (by decide) (hts (.fieldLink nR_Model 115 "RoomClimateModel" "rows" "I") tt_734) (fun _ h9 => h9) rfl nd_Model_due_9 ?_
      refine lv_iconst (v := 1) hx hb nd_Model_due_12 (by decide) ?_
      refine lv_isub hx hb nd_Model_due_13 ?_
      refine lv_icmp_ge (tgt := 35) hx hb nd_Model_due_14 (by decide) (fun c2 => ?_) (fun c2 => ?_)
      · replace hR := q_p c2 hR
        refine lv_aload_n hx hb nd_Model_due_35 rfl (lv_at hl 0 rfl) ?_
        refine va_get (D := D) (ci := 9) (v := .int rows_) (C := nR_Model) (T := nT_Model) (N := 32) hx hb hts ni_Model hown hK hP 0 rfl rfl 11 (by decide) (hts (.fieldLink nR_Model 115 "RoomClimateModel" "rows" "I") tt_734) (fun _ h9 => h9) rfl nd_Model_due_36 ?_
        obtain ⟨j4_0, hJ4, hR⟩ := q_b1 hR
        have hN4 : ∀ (ls : Array Slot), lv_has ls 4 [(0, .ref qa0), (1, .long r1), (3, .int i3_7)] → W p l e rm_Model_due s m ar below meth c s.heap [] 0 0 Q (F0 m 59 ls [.long j4_0]) := by
          intro ls  hl
          exact hret _ _ _ nd_Model_due_59 (Option.some.inj hR)
        refine lv_if_ne (tgt := 46) hx hb nd_Model_due_39 (by decide) (fun c3 => ?_) (fun c3 => ?_)
        · have hR := q_n c3 hJ4
          refine lv_aload_n hx hb nd_Model_due_46 rfl (lv_at hl 0 rfl) ?_
          refine va_get (D := D) (ci := 9) (v := .int kilograms_) (C := nR_Model) (T := nT_Model) (N := 32) hx hb hts ni_Model hown hK hP 0 rfl rfl 10 (by decide) (hts (.fieldLink nR_Model 112 "RoomClimateModel" "kilograms" "I") tt_733) (fun _ h9 => h9) rfl nd_Model_due_47 ?_
          refine lv_i2l hx hb nd_Model_due_50 rfl ?_
          refine lv_aload_n hx hb nd_Model_due_51 rfl (lv_at hl 0 rfl) ?_
          refine va_get (D := D) (ci := 9) (v := .ref qrowWaters) (C := nR_Model) (T := nT_Model) (N := 32) hx hb hts ni_Model hown hK hP 0 rfl rfl 13 (by decide) (hts (.fieldLink nR_Model 39 "RoomClimateModel" "rowWaters" "[I") tt_736) (fun _ h9 => h9) rfl nd_Model_due_52 ?_
          refine lv_iload_n hx hb nd_Model_due_55 rfl (lv_at hl 2 rfl) ?_
          obtain ⟨h5, hR⟩ := q_ix hR
          refine va_iald hx hb hK hP 2 0 rfl rfl h5 nd_Model_due_56 ?_
          refine lv_i2l hx hb nd_Model_due_57 rfl ?_
          refine lv_lmul hx hb nd_Model_due_58 ?_
          cases hR
          exact hN4 _  (lv_sub hl [0, 1, 2] rfl)
        · have hR := q_p c3 hJ4
          refine lv_lconst (v := 0) hx hb nd_Model_due_42 (by decide) ?_
          refine lv_goto (tgt := 59) hx hb nd_Model_due_43 (by decide) ?_
          cases hR
          exact hN4 _  (lv_sub hl [0, 1, 2] rfl)
      · replace hR := q_n c2 hR
        refine lv_aload_n hx hb nd_Model_due_17 rfl (lv_at hl 0 rfl) ?_
        refine va_get (D := D) (ci := 9) (v := .ref qrowDamps) (C := nR_Model) (T := nT_Model) (N := 32) hx hb hts ni_Model hown hK hP 0 rfl rfl 12 (by decide) (hts (.fieldLink nR_Model 36 "RoomClimateModel" "rowDamps" "[I") tt_735) (fun _ h9 => h9) rfl nd_Model_due_18 ?_
        refine lv_iload_n hx hb nd_Model_due_21 rfl (lv_at hl 2 rfl) ?_
        obtain ⟨h6, hR⟩ := q_ix hR
        refine va_iald hx hb hK hP 3 0 rfl rfl h6 nd_Model_due_22 ?_
        refine lv_i2l hx hb nd_Model_due_23 rfl ?_
        refine lv_lload_n hx hb nd_Model_due_24 rfl (lv_at hl 1 rfl) ?_
        refine W.lcmp hx hb nd_Model_due_25 ?_
        refine lv_if_ge (tgt := 35) hx hb nd_Model_due_26 (by decide) (fun c7 => ?_) (fun c7 => ?_)
        · replace hR := q_p c7 hR
          refine lv_aload_n hx hb nd_Model_due_35 rfl (lv_at hl 0 rfl) ?_
          refine va_get (D := D) (ci := 9) (v := .int rows_) (C := nR_Model) (T := nT_Model) (N := 32) hx hb hts ni_Model hown hK hP 0 rfl rfl 11 (by decide) (hts (.fieldLink nR_Model 115 "RoomClimateModel" "rows" "I") tt_734) (fun _ h9 => h9) rfl nd_Model_due_36 ?_
          obtain ⟨j9_0, hJ9, hR⟩ := q_b1 hR
          have hN9 : ∀ (ls : Array Slot), lv_has ls 4 [(0, .ref qa0), (1, .long r1), (3, .int i3_7)] → W p l e rm_Model_due s m ar below meth c s.heap [] 0 0 Q (F0 m 59 ls [.long j9_0]) := by
            intro ls  hl
            exact hret _ _ _ nd_Model_due_59 (Option.some.inj hR)
          refine lv_if_ne (tgt := 46) hx hb nd_Model_due_39 (by decide) (fun c8 => ?_) (fun c8 => ?_)
          · have hR := q_n c8 hJ9
            refine lv_aload_n hx hb nd_Model_due_46 rfl (lv_at hl 0 rfl) ?_
            refine va_get (D := D) (ci := 9) (v := .int kilograms_) (C := nR_Model) (T := nT_Model) (N := 32) hx hb hts ni_Model hown hK hP 0 rfl rfl 10 (by decide) (hts (.fieldLink nR_Model 112 "RoomClimateModel" "kilograms" "I") tt_733) (fun _ h9 => h9) rfl nd_Model_due_47 ?_
            refine lv_i2l hx hb nd_Model_due_50 rfl ?_
            refine lv_aload_n hx hb nd_Model_due_51 rfl (lv_at hl 0 rfl) ?_
            refine va_get (D := D) (ci := 9) (v := .ref qrowWaters) (C := nR_Model) (T := nT_Model) (N := 32) hx hb hts ni_Model hown hK hP 0 rfl rfl 13 (by decide) (hts (.fieldLink nR_Model 39 "RoomClimateModel" "rowWaters" "[I") tt_736) (fun _ h9 => h9) rfl nd_Model_due_52 ?_
            refine lv_iload_n hx hb nd_Model_due_55 rfl (lv_at hl 2 rfl) ?_
            refine va_iald hx hb hK hP 2 0 rfl rfl h6 nd_Model_due_56 ?_
            refine lv_i2l hx hb nd_Model_due_57 rfl ?_
            refine lv_lmul hx hb nd_Model_due_58 ?_
            cases hR
            exact hN9 _  (lv_sub hl [0, 1, 2] rfl)
          · have hR := q_p c8 hJ9
            refine lv_lconst (v := 0) hx hb nd_Model_due_42 (by decide) ?_
            refine lv_goto (tgt := 59) hx hb nd_Model_due_43 (by decide) ?_
            cases hR
            exact hN9 _  (lv_sub hl [0, 1, 2] rfl)
        · replace hR := q_n c7 hR
          refine lv_iinc (v := i3_7 + 1) (lv' := [(3, .int (i3_7 + 1)), (0, .ref qa0), (1, .long r1)]) hx hb nd_Model_due_29 hl (k := 2) rfl (by first | rfl | decide) (by decide) rfl (fun ls hl => ?_)
          refine lv_goto (tgt := 7) hx hb nd_Model_due_32 (by decide) ?_
          exact ih7 (i3_7 + 1) _ hR  (lv_sub hl [1, 2, 0] rfl)
  exact hL7 400 (0 : Int32) _ hR  (lv_sub hl [2, 1, 0] rfl)
def rm_Model_goodsTake : Room := { frames := 3, cells := 0, slots := 0, locals := 68 }
theorem kc_Model_goodsTake : k_cal nY_Model_goodsTake nC_Model_goodsTake 3 none 0 := ⟨tt_901, tt_10, by decide +kernel⟩
theorem kv_Model_goodsTake : k_vir nY_Model_goodsTake := ⟨tt_900, tp_17⟩
set_option maxHeartbeats 4000000 in
set_option maxRecDepth 100000 in
theorem cn_Model_goodsTake (l : Launch) (D : va_G) (ca : Nat → ClassId) (qa0 qnow qkept qbooks qkeptBooks qconductances qcapacities qrowDamps qrowWaters qtold qlows qhighs qrates qriskRows qlevels qpointsOf qsums qruleKinds qruleLevels qholds qalarms qalarmHours qvalues qchecked qrights : Nat) (thrown_ : Int32) (volume_ : Int32) (share_ : Int32) (layers_ : Int32) (kilograms_ : Int32) (rows_ : Int32) (hours_ : Int32) (rules_ : Int32) (now_ : Nat → Int64) (rowWaters_ : Nat → Int32) (rowDamps_ : Nat → Int32) (books_ : Nat → Int64) (R0 : Nat → Int64) (R1 : Nat → Int64) (hR : fn_Model_goodsTake volume_ kilograms_ rows_ now_ rowWaters_ rowDamps_ books_ = some (R0, R1)) (sz : Nat) : Met l nY_Model_goodsTake (Cond.code nY_Model_goodsTake nC_Model_goodsTake 3 none :: TT) rm_Model_goodsTake (wr_P [.ref qa0] D ca [oc_Model qa0 thrown_ volume_ share_ qnow qkept qbooks qkeptBooks layers_ qconductances qcapacities kilograms_ rows_ qrowDamps qrowWaters qtold qlows qhighs qrates hours_ qriskRows qlevels qpointsOf qsums rules_ qruleKinds qruleLevels qholds qalarms qalarmHours qvalues qchecked qrights, aJ qnow ca 12 now_, aI qrowWaters ca 6 rowWaters_, aI qrowDamps ca 6 rowDamps_, aJ qbooks ca 10 books_] sz) (va_Qv (fun (_ : Unit) => True) (wr_B D [oc_Model qa0 thrown_ volume_ share_ qnow qkept qbooks qkeptBooks layers_ qconductances qcapacities kilograms_ rows_ qrowDamps qrowWaters qtold qlows qhighs qrates hours_ qriskRows qlevels qpointsOf qsums rules_ qruleKinds qruleLevels qholds qalarms qalarmHours qvalues qchecked qrights, aJ qnow ca 12 now_, aI qrowWaters ca 6 rowWaters_, aI qrowDamps ca 6 rowDamps_, aJ qbooks ca 10 books_] sz [oc_Model qa0 thrown_ volume_ share_ qnow qkept qbooks qkeptBooks layers_ qconductances qcapacities kilograms_ rows_ qrowDamps qrowWaters qtold qlows qhighs qrates hours_ qriskRows qlevels qpointsOf qsums rules_ qruleKinds qruleLevels qholds qalarms qalarmHours qvalues qchecked qrights, aJ qnow ca 12 R0, aI qrowWaters ca 6 rowWaters_, aI qrowDamps ca 6 rowDamps_, aJ qbooks ca 10 R1]) (va_A [oc_Model qa0 thrown_ volume_ share_ qnow qkept qbooks qkeptBooks layers_ qconductances qcapacities kilograms_ rows_ qrowDamps qrowWaters qtold qlows qhighs qrates hours_ qriskRows qlevels qpointsOf qsums rules_ qruleKinds qruleLevels qholds qalarms qalarmHours qvalues qchecked qrights, aJ qnow ca 12 now_, aI qrowWaters ca 6 rowWaters_, aI qrowDamps ca 6 rowDamps_, aJ qbooks ca 10 books_] sz)) 0 0 (va_A [oc_Model qa0 thrown_ volume_ share_ qnow qkept qbooks qkeptBooks layers_ qconductances qcapacities kilograms_ rows_ qrowDamps qrowWaters qtold qlows qhighs qrates hours_ qriskRows qlevels qpointsOf qsums rules_ qruleKinds qruleLevels qholds qalarms qalarmHours qvalues qchecked qrights, aJ qnow ca 12 now_, aI qrowWaters ca 6 rowWaters_, aI qrowDamps ca 6 rowDamps_, aJ qbooks ca 10 books_] sz) := by
  refine wr_ofV (R := (R0, R1)) (w1 := fun r : (Nat → Int64) × (Nat → Int64) => [oc_Model qa0 thrown_ volume_ share_ qnow qkept qbooks qkeptBooks layers_ qconductances qcapacities kilograms_ rows_ qrowDamps qrowWaters qtold qlows qhighs qrates hours_ qriskRows qlevels qpointsOf qsums rules_ qruleKinds qruleLevels qholds qalarms qalarmHours qvalues qchecked qrights, aJ qnow ca 12 r.1, aI qrowWaters ca 6 rowWaters_, aI qrowDamps ca 6 rowDamps_, aJ qbooks ca 10 r.2]) (by decide +kernel) (Nat.le_of_ble_eq_true rfl) ?_
  intro p e s m below meth c Q ar ls hx hb hml hts hown hP hK A hD hA hl hret
  have hS : va_S A s.heap s.heap [] := va_S.rf
  have hown : s.vm.findClass nR_Model = some m.cls := hown
  have hl : lv_has ls 3 [(0, .ref qa0)] := hl
  unfold fn_Model_goodsTake at hR
  refine lv_aload_n hx hb nd_Model_goodsTake_0 rfl (lv_at hl 0 rfl) ?_
  obtain ⟨r1, e1, hR⟩ := q_b1 hR
  refine k_rVJ (As := []) (rest := []) (r := r1) hx hb hml hown hts (cn_Model_due l D ca qa0 qnow qkept qbooks qkeptBooks qconductances qcapacities qrowDamps qrowWaters qtold qlows qhighs qrates qriskRows qlevels qpointsOf qsums qruleKinds qruleLevels qholds qalarms qalarmHours qvalues qchecked qrights thrown_ volume_ share_ layers_ kilograms_ rows_ hours_ rules_ now_ rowWaters_ rowDamps_ r1 e1) kc_Model_due kv_Model_due tt_902 ⟨by decide, by decide⟩ rfl rfl hP hK [0, 1, 2, 3] rfl 0 rfl rfl rfl rfl hl.1 (Nat.le_of_ble_eq_true rfl) rfl nd_Model_goodsTake_1 ⟨Nat.zero_le _, Nat.zero_le _⟩ ?_
  refine lv_aload_n hx hb nd_Model_goodsTake_4 rfl (lv_at hl 0 rfl) ?_
  refine va_get (D := D) (ci := 9) (v := .ref qnow) (C := nR_Model) (T := nT_Model) (N := 32) hx hb hts ni_Model hown hK hP 0 rfl rfl 3 (by decide) (hts (.fieldLink nR_Model 16 "RoomClimateModel" "now" "[J") tt_726) (fun _ h9 => h9) rfl nd_Model_goodsTake_5 ?_
  refine lv_iconst (v := 2) hx hb nd_Model_goodsTake_8 (by decide) ?_
  obtain ⟨h2, hR⟩ := q_ix hR
  refine va_lald hx hb hK hP 1 1 rfl rfl h2 nd_Model_goodsTake_9 ?_
  refine lv_lsub hx hb nd_Model_goodsTake_10 ?_
  refine lv_ldc2 hx hb hown (hts _ tt_906) nd_Model_goodsTake_11 ?_
  obtain ⟨r3, e3, hR⟩ := q_b1 hR
  refine k_rSJ (As := [.long (r1 - (now_ (2 : Int32).toNatClampNeg)), .long (4 : Int64)]) (rest := []) (r := r3) hx hb hml hown hts (cn_Model_by l D ca (r1 - (now_ (2 : Int32).toNatClampNeg)) (4 : Int64) r3 e3) kc_Model_by ks_Model_by tt_877 ⟨by decide, by decide⟩ rfl rfl hP hK [] rfl rfl hl.1 (Nat.le_of_ble_eq_true rfl) rfl nd_Model_goodsTake_14 ⟨Nat.zero_le _, Nat.zero_le _⟩ ?_
  refine lv_lstore_n (lv' := [(1, .long r3), (0, .ref qa0)]) hx hb nd_Model_goodsTake_17 rfl hl (by decide) rfl (fun ls hl => ?_)
  refine lv_lload_n hx hb nd_Model_goodsTake_18 rfl (lv_at hl 0 rfl) ?_
  refine lv_aload_n hx hb nd_Model_goodsTake_19 rfl (lv_at hl 1 rfl) ?_
  refine va_get (D := D) (ci := 9) (v := .ref qnow) (C := nR_Model) (T := nT_Model) (N := 32) hx hb hts ni_Model hown hK hP 0 rfl rfl 3 (by decide) (hts (.fieldLink nR_Model 16 "RoomClimateModel" "now" "[J") tt_726) (fun _ h9 => h9) rfl nd_Model_goodsTake_20 ?_
  refine lv_iconst (v := 1) hx hb nd_Model_goodsTake_23 (by decide) ?_
  obtain ⟨h4, hR⟩ := q_ix hR
  refine va_lald hx hb hK hP 1 1 rfl rfl h4 nd_Model_goodsTake_24 ?_
  refine W.lcmp hx hb nd_Model_goodsTake_25 ?_
  obtain ⟨j6_0, hJ6, hR⟩ := q_b1 hR
  have hN6 : ∀ (H : Heap) (locs : List Loc) (ls : Array Slot), va_P D vwCl [oc_Model qa0 thrown_ volume_ share_ qnow qkept qbooks qkeptBooks layers_ qconductances qcapacities kilograms_ rows_ qrowDamps qrowWaters qtold qlows qhighs qrates hours_ qriskRows qlevels qpointsOf qsums rules_ qruleKinds qruleLevels qholds qalarms qalarmHours qvalues qchecked qrights, aJ qnow ca 12 now_, aI qrowWaters ca 6 rowWaters_, aI qrowDamps ca 6 rowDamps_, aJ qbooks ca 10 books_] H → va_D A [oc_Model qa0 thrown_ volume_ share_ qnow qkept qbooks qkeptBooks layers_ qconductances qcapacities kilograms_ rows_ qrowDamps qrowWaters qtold qlows qhighs qrates hours_ qriskRows qlevels qpointsOf qsums rules_ qruleKinds qruleLevels qholds qalarms qalarmHours qvalues qchecked qrights, aJ qnow ca 12 now_, aI qrowWaters ca 6 rowWaters_, aI qrowDamps ca 6 rowDamps_, aJ qbooks ca 10 books_] → va_S A s.heap H locs → lv_has ls 3 [(0, .ref qa0), (1, .long r3)] → W p l e rm_Model_goodsTake s m ar below meth c H locs 0 0 Q (F0 m 39 ls [.long j6_0]) := by
    intro H locs ls hP hD hS hl
    refine lv_lstore_n (lv' := [(1, .long j6_0), (0, .ref qa0)]) hx hb nd_Model_goodsTake_39 rfl hl (by decide) rfl (fun ls hl => ?_)
    refine lv_aload_n hx hb nd_Model_goodsTake_40 rfl (lv_at hl 1 rfl) ?_
    refine va_get (D := D) (ci := 9) (v := .ref qnow) (C := nR_Model) (T := nT_Model) (N := 32) hx hb hts ni_Model hown hK hP 0 rfl rfl 3 (by decide) (hts (.fieldLink nR_Model 16 "RoomClimateModel" "now" "[J") tt_726) (fun _ h9 => h9) rfl nd_Model_goodsTake_41 ?_
    refine lv_iconst (v := 2) hx hb nd_Model_goodsTake_44 (by decide) ?_
    refine lv_aload_n hx hb nd_Model_goodsTake_45 rfl (lv_at hl 1 rfl) ?_
    refine va_get (D := D) (ci := 9) (v := .ref qnow) (C := nR_Model) (T := nT_Model) (N := 32) hx hb hts ni_Model hown hK hP 0 rfl rfl 3 (by decide) (hts (.fieldLink nR_Model 16 "RoomClimateModel" "now" "[J") tt_726) (fun _ h9 => h9) rfl nd_Model_goodsTake_46 ?_
    refine lv_iconst (v := 2) hx hb nd_Model_goodsTake_49 (by decide) ?_
    refine va_lald hx hb hK hP 1 1 rfl rfl h2 nd_Model_goodsTake_50 ?_
    refine lv_lload_n hx hb nd_Model_goodsTake_51 rfl (lv_at hl 0 rfl) ?_
    refine lv_ladd hx hb nd_Model_goodsTake_52 ?_
    refine va_last hx hb hK hP hD hS 1 1 rfl rfl h2 nd_Model_goodsTake_53 (fun H locs hP hD hS => ?_)
    have hP : va_P D vwCl [oc_Model qa0 thrown_ volume_ share_ qnow qkept qbooks qkeptBooks layers_ qconductances qcapacities kilograms_ rows_ qrowDamps qrowWaters qtold qlows qhighs qrates hours_ qriskRows qlevels qpointsOf qsums rules_ qruleKinds qruleLevels qholds qalarms qalarmHours qvalues qchecked qrights, aJ qnow ca 12 (vp_updL now_ (2 : Int32).toNatClampNeg ((now_ (2 : Int32).toNatClampNeg) + j6_0)), aI qrowWaters ca 6 rowWaters_, aI qrowDamps ca 6 rowDamps_, aJ qbooks ca 10 books_] H := hP
    have hD : va_D A [oc_Model qa0 thrown_ volume_ share_ qnow qkept qbooks qkeptBooks layers_ qconductances qcapacities kilograms_ rows_ qrowDamps qrowWaters qtold qlows qhighs qrates hours_ qriskRows qlevels qpointsOf qsums rules_ qruleKinds qruleLevels qholds qalarms qalarmHours qvalues qchecked qrights, aJ qnow ca 12 (vp_updL now_ (2 : Int32).toNatClampNeg ((now_ (2 : Int32).toNatClampNeg) + j6_0)), aI qrowWaters ca 6 rowWaters_, aI qrowDamps ca 6 rowDamps_, aJ qbooks ca 10 books_] := hD
    refine lv_aload_n hx hb nd_Model_goodsTake_54 rfl (lv_at hl 1 rfl) ?_
    refine lv_iconst (v := 2) hx hb nd_Model_goodsTake_55 (by decide) ?_
    refine lv_lconst (v := 0) hx hb nd_Model_goodsTake_56 (by decide) ?_
    refine lv_lconst (v := 0) hx hb nd_Model_goodsTake_57 (by decide) ?_
    refine lv_lload_n hx hb nd_Model_goodsTake_58 rfl (lv_at hl 0 rfl) ?_
    refine lv_lsub hx hb nd_Model_goodsTake_59 ?_
    obtain ⟨u7_0, u7_1, e7, hR⟩ := q_b2 hR
    refine k_wVV (wr := [aI qrowWaters ca 6 rowWaters_, aI qrowDamps ca 6 rowDamps_]) (w2 := [oc_Model qa0 thrown_ volume_ share_ qnow qkept qbooks qkeptBooks layers_ qconductances qcapacities kilograms_ rows_ qrowDamps qrowWaters qtold qlows qhighs qrates hours_ qriskRows qlevels qpointsOf qsums rules_ qruleKinds qruleLevels qholds qalarms qalarmHours qvalues qchecked qrights, aJ qnow ca 12 u7_0, aI qrowWaters ca 6 rowWaters_, aI qrowDamps ca 6 rowDamps_, aJ qbooks ca 10 u7_1]) (As := [.int (2 : Int32), .long (0 : Int64), .long ((0 : Int64) - j6_0)]) (rest := []) hx hb hml hown hts (cn_Model_change l D ca qa0 qnow qkept qbooks qkeptBooks qconductances qcapacities qrowDamps qrowWaters qtold qlows qhighs qrates qriskRows qlevels qpointsOf qsums qruleKinds qruleLevels qholds qalarms qalarmHours qvalues qchecked qrights thrown_ volume_ share_ layers_ kilograms_ rows_ hours_ rules_ (vp_updL now_ (2 : Int32).toNatClampNeg ((now_ (2 : Int32).toNatClampNeg) + j6_0)) books_ (2 : Int32) (0 : Int64) ((0 : Int64) - j6_0) u7_0 u7_1 e7 _) kc_Model_change kv_Model_change tt_885 ⟨by decide, by decide⟩ rfl rfl hP hK hD hS hA [0, 1, 4] [2, 3] [2, 3, 0, 1, 4] rfl (by decide) rfl (by decide) (by decide) rfl (by decide) 0 rfl rfl rfl rfl hl.1 (Nat.le_of_ble_eq_true rfl) rfl nd_Model_goodsTake_60 ⟨Nat.zero_le _, Nat.zero_le _⟩ (fun H locs hP hD hS => ?_)
    exact hret (u7_0, u7_1) _ _ _ _ nd_Model_goodsTake_63 hR hP hD hS
  refine lv_if_le (tgt := 38) hx hb nd_Model_goodsTake_26 (by decide) (fun c5 => ?_) (fun c5 => ?_)
  · have hR := q_p c5 hJ6
    refine lv_lload_n hx hb nd_Model_goodsTake_38 rfl (lv_at hl 0 rfl) ?_
    cases hR
    exact hN6 _ _ _ hP hD hS (lv_sub hl [1, 0] rfl)
  · have hR := q_n c5 hJ6
    refine lv_aload_n hx hb nd_Model_goodsTake_29 rfl (lv_at hl 1 rfl) ?_
    refine va_get (D := D) (ci := 9) (v := .ref qnow) (C := nR_Model) (T := nT_Model) (N := 32) hx hb hts ni_Model hown hK hP 0 rfl rfl 3 (by decide) (hts (.fieldLink nR_Model 16 "RoomClimateModel" "now" "[J") tt_726) (fun _ h9 => h9) rfl nd_Model_goodsTake_30 ?_
    refine lv_iconst (v := 1) hx hb nd_Model_goodsTake_33 (by decide) ?_
    refine va_lald hx hb hK hP 1 1 rfl rfl h4 nd_Model_goodsTake_34 ?_
    refine lv_goto (tgt := 39) hx hb nd_Model_goodsTake_35 (by decide) ?_
    cases hR
    exact hN6 _ _ _ hP hD hS (lv_sub hl [1, 0] rfl)
def rm_Model_works : Room := { frames := 2, cells := 0, slots := 0, locals := 45 }
theorem kc_Model_works : k_cal nY_Model_works nC_Model_works 9 (some .long) 1 := ⟨tt_911, tt_10, by decide +kernel⟩
theorem kv_Model_works : k_vir nY_Model_works := ⟨tt_910, tp_19⟩
set_option maxHeartbeats 4000000 in
set_option maxRecDepth 100000 in
theorem cn_Model_works (l : Launch) (D : va_G) (ca : Nat → ClassId) (qa0 qnow qkept qbooks qkeptBooks qconductances qcapacities qrowDamps qrowWaters qtold qlows qhighs qrates qriskRows qlevels qpointsOf qsums qruleKinds qruleLevels qholds qalarms qalarmHours qvalues qchecked qrights : Nat) (thrown_ : Int32) (volume_ : Int32) (share_ : Int32) (layers_ : Int32) (kilograms_ : Int32) (rows_ : Int32) (hours_ : Int32) (rules_ : Int32) (now_ : Nat → Int64) (highs_ : Nat → Int32) (lows_ : Nat → Int32) (told_ : Nat → Int32) (rates_ : Nat → Int32) (x1 : Int32) (R0 : Int64) (R1 : Nat → Int64) (hR : fn_Model_works volume_ now_ highs_ lows_ told_ rates_ x1 = some (R0, R1)) (sz : Nat) : Met l nY_Model_works (Cond.code nY_Model_works nC_Model_works 9 (some .long) :: TT) rm_Model_works (wr_P [.ref qa0, .int x1] D ca [oc_Model qa0 thrown_ volume_ share_ qnow qkept qbooks qkeptBooks layers_ qconductances qcapacities kilograms_ rows_ qrowDamps qrowWaters qtold qlows qhighs qrates hours_ qriskRows qlevels qpointsOf qsums rules_ qruleKinds qruleLevels qholds qalarms qalarmHours qvalues qchecked qrights, aJ qnow ca 12 now_, aI qhighs ca 4 highs_, aI qlows ca 4 lows_, aZ qtold ca 4 told_, aI qrates ca 4 rates_] sz) (va_Ql (fun x (_ : Unit) => x = R0) (wr_B D [oc_Model qa0 thrown_ volume_ share_ qnow qkept qbooks qkeptBooks layers_ qconductances qcapacities kilograms_ rows_ qrowDamps qrowWaters qtold qlows qhighs qrates hours_ qriskRows qlevels qpointsOf qsums rules_ qruleKinds qruleLevels qholds qalarms qalarmHours qvalues qchecked qrights, aJ qnow ca 12 now_, aI qhighs ca 4 highs_, aI qlows ca 4 lows_, aZ qtold ca 4 told_, aI qrates ca 4 rates_] sz [oc_Model qa0 thrown_ volume_ share_ qnow qkept qbooks qkeptBooks layers_ qconductances qcapacities kilograms_ rows_ qrowDamps qrowWaters qtold qlows qhighs qrates hours_ qriskRows qlevels qpointsOf qsums rules_ qruleKinds qruleLevels qholds qalarms qalarmHours qvalues qchecked qrights, aJ qnow ca 12 R1, aI qhighs ca 4 highs_, aI qlows ca 4 lows_, aZ qtold ca 4 told_, aI qrates ca 4 rates_]) (va_A [oc_Model qa0 thrown_ volume_ share_ qnow qkept qbooks qkeptBooks layers_ qconductances qcapacities kilograms_ rows_ qrowDamps qrowWaters qtold qlows qhighs qrates hours_ qriskRows qlevels qpointsOf qsums rules_ qruleKinds qruleLevels qholds qalarms qalarmHours qvalues qchecked qrights, aJ qnow ca 12 now_, aI qhighs ca 4 highs_, aI qlows ca 4 lows_, aZ qtold ca 4 told_, aI qrates ca 4 rates_] sz)) 0 0 (va_A [oc_Model qa0 thrown_ volume_ share_ qnow qkept qbooks qkeptBooks layers_ qconductances qcapacities kilograms_ rows_ qrowDamps qrowWaters qtold qlows qhighs qrates hours_ qriskRows qlevels qpointsOf qsums rules_ qruleKinds qruleLevels qholds qalarms qalarmHours qvalues qchecked qrights, aJ qnow ca 12 now_, aI qhighs ca 4 highs_, aI qlows ca 4 lows_, aZ qtold ca 4 told_, aI qrates ca 4 rates_] sz) := by
  refine wr_ofJ (R := (R0, R1)) (val := fun r => r.1) (w1 := fun r : Int64 × (Nat → Int64) => [oc_Model qa0 thrown_ volume_ share_ qnow qkept qbooks qkeptBooks layers_ qconductances qcapacities kilograms_ rows_ qrowDamps qrowWaters qtold qlows qhighs qrates hours_ qriskRows qlevels qpointsOf qsums rules_ qruleKinds qruleLevels qholds qalarms qalarmHours qvalues qchecked qrights, aJ qnow ca 12 r.2, aI qhighs ca 4 highs_, aI qlows ca 4 lows_, aZ qtold ca 4 told_, aI qrates ca 4 rates_]) (by decide +kernel) (Nat.le_of_ble_eq_true rfl) ?_
  intro p e s m below meth c Q ar ls hx hb hml hts hown hP hK A hD hA hl hret
  have hS : va_S A s.heap s.heap [] := va_S.rf
  have hown : s.vm.findClass nR_Model = some m.cls := hown
  have hl : lv_has ls 9 [(0, .ref qa0), (1, .int x1)] := hl
  unfold fn_Model_works at hR
  refine lv_iload_n hx hb nd_Model_works_0 rfl (lv_at hl 1 rfl) ?_
  refine lv_iconst (v := 2) hx hb nd_Model_works_1 (by decide) ?_
  obtain ⟨j2_0, hJ2, hR⟩ := q_b1 hR
  have hN2 : ∀ (H : Heap) (locs : List Loc) (ls : Array Slot), va_P D vwCl [oc_Model qa0 thrown_ volume_ share_ qnow qkept qbooks qkeptBooks layers_ qconductances qcapacities kilograms_ rows_ qrowDamps qrowWaters qtold qlows qhighs qrates hours_ qriskRows qlevels qpointsOf qsums rules_ qruleKinds qruleLevels qholds qalarms qalarmHours qvalues qchecked qrights, aJ qnow ca 12 now_, aI qhighs ca 4 highs_, aI qlows ca 4 lows_, aZ qtold ca 4 told_, aI qrates ca 4 rates_] H → va_D A [oc_Model qa0 thrown_ volume_ share_ qnow qkept qbooks qkeptBooks layers_ qconductances qcapacities kilograms_ rows_ qrowDamps qrowWaters qtold qlows qhighs qrates hours_ qriskRows qlevels qpointsOf qsums rules_ qruleKinds qruleLevels qholds qalarms qalarmHours qvalues qchecked qrights, aJ qnow ca 12 now_, aI qhighs ca 4 highs_, aI qlows ca 4 lows_, aZ qtold ca 4 told_, aI qrates ca 4 rates_] → va_S A s.heap H locs → lv_has ls 9 [(0, .ref qa0), (1, .int x1)] → W p l e rm_Model_works s m ar below meth c H locs 0 0 Q (F0 m 16 ls [.long j2_0]) := by
    intro H locs ls hP hD hS hl
    refine lv_lstore_n (lv' := [(2, .long j2_0), (0, .ref qa0), (1, .int x1)]) hx hb nd_Model_works_16 rfl hl (by decide) rfl (fun ls hl => ?_)
    refine lv_iload_n hx hb nd_Model_works_17 rfl (lv_at hl 2 rfl) ?_
    obtain ⟨j6_0, hJ6, hR⟩ := q_b1 hR
    have hN6 : ∀ (H : Heap) (locs : List Loc) (ls : Array Slot), va_P D vwCl [oc_Model qa0 thrown_ volume_ share_ qnow qkept qbooks qkeptBooks layers_ qconductances qcapacities kilograms_ rows_ qrowDamps qrowWaters qtold qlows qhighs qrates hours_ qriskRows qlevels qpointsOf qsums rules_ qruleKinds qruleLevels qholds qalarms qalarmHours qvalues qchecked qrights, aJ qnow ca 12 now_, aI qhighs ca 4 highs_, aI qlows ca 4 lows_, aZ qtold ca 4 told_, aI qrates ca 4 rates_] H → va_D A [oc_Model qa0 thrown_ volume_ share_ qnow qkept qbooks qkeptBooks layers_ qconductances qcapacities kilograms_ rows_ qrowDamps qrowWaters qtold qlows qhighs qrates hours_ qriskRows qlevels qpointsOf qsums rules_ qruleKinds qruleLevels qholds qalarms qalarmHours qvalues qchecked qrights, aJ qnow ca 12 now_, aI qhighs ca 4 highs_, aI qlows ca 4 lows_, aZ qtold ca 4 told_, aI qrates ca 4 rates_] → va_S A s.heap H locs → lv_has ls 9 [(0, .ref qa0), (1, .int x1), (2, .long j2_0)] → W p l e rm_Model_works s m ar below meth c H locs 0 0 Q (F0 m 31 ls [.int j6_0]) := by
      intro H locs ls hP hD hS hl
      refine lv_istore (lv' := [(4, .int j6_0), (0, .ref qa0), (1, .int x1), (2, .long j2_0)]) hx hb nd_Model_works_31 hl (by decide) rfl (fun ls hl => ?_)
      refine lv_iload hx hb nd_Model_works_33 (lv_at hl 0 rfl) ?_
      obtain ⟨j10_0, hJ10, hR⟩ := q_b1 hR
      have hN10 : ∀ (H : Heap) (locs : List Loc) (ls : Array Slot), va_P D vwCl [oc_Model qa0 thrown_ volume_ share_ qnow qkept qbooks qkeptBooks layers_ qconductances qcapacities kilograms_ rows_ qrowDamps qrowWaters qtold qlows qhighs qrates hours_ qriskRows qlevels qpointsOf qsums rules_ qruleKinds qruleLevels qholds qalarms qalarmHours qvalues qchecked qrights, aJ qnow ca 12 now_, aI qhighs ca 4 highs_, aI qlows ca 4 lows_, aZ qtold ca 4 told_, aI qrates ca 4 rates_] H → va_D A [oc_Model qa0 thrown_ volume_ share_ qnow qkept qbooks qkeptBooks layers_ qconductances qcapacities kilograms_ rows_ qrowDamps qrowWaters qtold qlows qhighs qrates hours_ qriskRows qlevels qpointsOf qsums rules_ qruleKinds qruleLevels qholds qalarms qalarmHours qvalues qchecked qrights, aJ qnow ca 12 now_, aI qhighs ca 4 highs_, aI qlows ca 4 lows_, aZ qtold ca 4 told_, aI qrates ca 4 rates_] → va_S A s.heap H locs → lv_has ls 9 [(0, .ref qa0), (1, .int x1), (2, .long j2_0), (4, .int j6_0)] → W p l e rm_Model_works s m ar below meth c H locs 0 0 Q (F0 m 75 ls [.int j10_0]) := by
        intro H locs ls hP hD hS hl
        refine lv_istore (lv' := [(5, .int j10_0), (0, .ref qa0), (1, .int x1), (2, .long j2_0), (4, .int j6_0)]) hx hb nd_Model_works_75 hl (by decide) rfl (fun ls hl => ?_)
        refine lv_iload hx hb nd_Model_works_77 (lv_at hl 4 rfl) ?_
        obtain ⟨j18_0, hJ18, hR⟩ := q_b1 hR
        have hN18 : ∀ (H : Heap) (locs : List Loc) (ls : Array Slot), va_P D vwCl [oc_Model qa0 thrown_ volume_ share_ qnow qkept qbooks qkeptBooks layers_ qconductances qcapacities kilograms_ rows_ qrowDamps qrowWaters qtold qlows qhighs qrates hours_ qriskRows qlevels qpointsOf qsums rules_ qruleKinds qruleLevels qholds qalarms qalarmHours qvalues qchecked qrights, aJ qnow ca 12 now_, aI qhighs ca 4 highs_, aI qlows ca 4 lows_, aZ qtold ca 4 told_, aI qrates ca 4 rates_] H → va_D A [oc_Model qa0 thrown_ volume_ share_ qnow qkept qbooks qkeptBooks layers_ qconductances qcapacities kilograms_ rows_ qrowDamps qrowWaters qtold qlows qhighs qrates hours_ qriskRows qlevels qpointsOf qsums rules_ qruleKinds qruleLevels qholds qalarms qalarmHours qvalues qchecked qrights, aJ qnow ca 12 now_, aI qhighs ca 4 highs_, aI qlows ca 4 lows_, aZ qtold ca 4 told_, aI qrates ca 4 rates_] → va_S A s.heap H locs → lv_has ls 9 [(0, .ref qa0), (1, .int x1), (2, .long j2_0), (4, .int j6_0), (5, .int j10_0)] → W p l e rm_Model_works s m ar below meth c H locs 0 0 Q (F0 m 119 ls [.int j18_0]) := by
          intro H locs ls hP hD hS hl
          refine lv_istore (lv' := [(6, .int j18_0), (0, .ref qa0), (1, .int x1), (2, .long j2_0), (4, .int j6_0), (5, .int j10_0)]) hx hb nd_Model_works_119 hl (by decide) rfl (fun ls hl => ?_)
          refine lv_aload_n hx hb nd_Model_works_121 rfl (lv_at hl 1 rfl) ?_
          refine va_get (D := D) (ci := 9) (v := .ref qnow) (C := nR_Model) (T := nT_Model) (N := 32) hx hb hts ni_Model hown hK hP 0 rfl rfl 3 (by decide) (hts (.fieldLink nR_Model 16 "RoomClimateModel" "now" "[J") tt_726) (fun _ h9 => h9) rfl nd_Model_works_122 ?_
          refine lv_bipush (v := 8) hx hb nd_Model_works_125 (by decide) ?_
          refine lv_iload_n hx hb nd_Model_works_127 rfl (lv_at hl 2 rfl) ?_
          refine lv_iadd hx hb nd_Model_works_128 ?_
          refine lv_aload_n hx hb nd_Model_works_129 rfl (lv_at hl 1 rfl) ?_
          refine va_get (D := D) (ci := 9) (v := .ref qtold) (C := nR_Model) (T := nT_Model) (N := 32) hx hb hts ni_Model hown hK hP 0 rfl rfl 14 (by decide) (hts (.fieldLink nR_Model 42 "RoomClimateModel" "told" "[Z") tt_737) (fun _ h9 => h9) rfl nd_Model_works_130 ?_
          refine lv_iload_n hx hb nd_Model_works_133 rfl (lv_at hl 2 rfl) ?_
          obtain ⟨h25, hR⟩ := q_ix hR
          refine va_zald hx hb hK hP 4 2 rfl rfl h25 nd_Model_works_134 ?_
          obtain ⟨j27_0, hJ27, hR⟩ := q_b1 hR
          have hN27 : ∀ (H : Heap) (locs : List Loc) (ls : Array Slot), va_P D vwCl [oc_Model qa0 thrown_ volume_ share_ qnow qkept qbooks qkeptBooks layers_ qconductances qcapacities kilograms_ rows_ qrowDamps qrowWaters qtold qlows qhighs qrates hours_ qriskRows qlevels qpointsOf qsums rules_ qruleKinds qruleLevels qholds qalarms qalarmHours qvalues qchecked qrights, aJ qnow ca 12 now_, aI qhighs ca 4 highs_, aI qlows ca 4 lows_, aZ qtold ca 4 told_, aI qrates ca 4 rates_] H → va_D A [oc_Model qa0 thrown_ volume_ share_ qnow qkept qbooks qkeptBooks layers_ qconductances qcapacities kilograms_ rows_ qrowDamps qrowWaters qtold qlows qhighs qrates hours_ qriskRows qlevels qpointsOf qsums rules_ qruleKinds qruleLevels qholds qalarms qalarmHours qvalues qchecked qrights, aJ qnow ca 12 now_, aI qhighs ca 4 highs_, aI qlows ca 4 lows_, aZ qtold ca 4 told_, aI qrates ca 4 rates_] → va_S A s.heap H locs → lv_has ls 9 [(0, .ref qa0), (1, .int x1), (2, .long j2_0), (4, .int j6_0), (5, .int j10_0), (6, .int j18_0)] → W p l e rm_Model_works s m ar below meth c H locs 0 0 Q (F0 m 169 ls [.long j27_0, .int ((8 : Int32) + x1), .ref qnow]) := by
            intro H locs ls hP hD hS hl
            obtain ⟨h33, hR⟩ := q_ix hR
            refine va_last hx hb hK hP hD hS 1 1 rfl rfl h33 nd_Model_works_169 (fun H locs hP hD hS => ?_)
            have hP : va_P D vwCl [oc_Model qa0 thrown_ volume_ share_ qnow qkept qbooks qkeptBooks layers_ qconductances qcapacities kilograms_ rows_ qrowDamps qrowWaters qtold qlows qhighs qrates hours_ qriskRows qlevels qpointsOf qsums rules_ qruleKinds qruleLevels qholds qalarms qalarmHours qvalues qchecked qrights, aJ qnow ca 12 (vp_updL now_ ((8 : Int32) + x1).toNatClampNeg j27_0), aI qhighs ca 4 highs_, aI qlows ca 4 lows_, aZ qtold ca 4 told_, aI qrates ca 4 rates_] H := hP
            have hD : va_D A [oc_Model qa0 thrown_ volume_ share_ qnow qkept qbooks qkeptBooks layers_ qconductances qcapacities kilograms_ rows_ qrowDamps qrowWaters qtold qlows qhighs qrates hours_ qriskRows qlevels qpointsOf qsums rules_ qruleKinds qruleLevels qholds qalarms qalarmHours qvalues qchecked qrights, aJ qnow ca 12 (vp_updL now_ ((8 : Int32) + x1).toNatClampNeg j27_0), aI qhighs ca 4 highs_, aI qlows ca 4 lows_, aZ qtold ca 4 told_, aI qrates ca 4 rates_] := hD
            refine lv_aload_n hx hb nd_Model_works_170 rfl (lv_at hl 0 rfl) ?_
            refine va_get (D := D) (ci := 9) (v := .ref qnow) (C := nR_Model) (T := nT_Model) (N := 32) hx hb hts ni_Model hown hK hP 0 rfl rfl 3 (by decide) (hts (.fieldLink nR_Model 16 "RoomClimateModel" "now" "[J") tt_726) (fun _ h9 => h9) rfl nd_Model_works_171 ?_
            refine lv_bipush (v := 8) hx hb nd_Model_works_174 (by decide) ?_
            refine lv_iload_n hx hb nd_Model_works_176 rfl (lv_at hl 1 rfl) ?_
            refine lv_iadd hx hb nd_Model_works_177 ?_
            refine va_lald hx hb hK hP 1 1 rfl rfl h33 nd_Model_works_178 ?_
            refine lv_aload_n hx hb nd_Model_works_179 rfl (lv_at hl 0 rfl) ?_
            refine va_get (D := D) (ci := 9) (v := .ref qrates) (C := nR_Model) (T := nT_Model) (N := 32) hx hb hts ni_Model hown hK hP 0 rfl rfl 17 (by decide) (hts (.fieldLink nR_Model 52 "RoomClimateModel" "rates" "[I") tt_740) (fun _ h9 => h9) rfl nd_Model_works_180 ?_
            refine lv_iload_n hx hb nd_Model_works_183 rfl (lv_at hl 1 rfl) ?_
            refine va_iald hx hb hK hP 5 0 rfl rfl h25 nd_Model_works_184 ?_
            refine lv_i2l hx hb nd_Model_works_185 rfl ?_
            refine lv_lmul hx hb nd_Model_works_186 ?_
            refine lv_lstore (lv' := [(7, .long (((vp_updL now_ ((8 : Int32) + x1).toNatClampNeg j27_0) ((8 : Int32) + x1).toNatClampNeg) * ((rates_ x1.toNatClampNeg).toInt64))), (0, .ref qa0), (1, .int x1), (2, .long j2_0), (4, .int j6_0), (5, .int j10_0), (6, .int j18_0)]) hx hb nd_Model_works_187 hl (by decide) rfl (fun ls hl => ?_)
            refine lv_iload_n hx hb nd_Model_works_189 rfl (lv_at hl 2 rfl) ?_
            refine lv_iconst (v := 3) hx hb nd_Model_works_190 (by decide) ?_
            obtain ⟨j35_0, hJ35, hR⟩ := q_b1 hR
            have hN35 : ∀ (H : Heap) (locs : List Loc) (ls : Array Slot), va_P D vwCl [oc_Model qa0 thrown_ volume_ share_ qnow qkept qbooks qkeptBooks layers_ qconductances qcapacities kilograms_ rows_ qrowDamps qrowWaters qtold qlows qhighs qrates hours_ qriskRows qlevels qpointsOf qsums rules_ qruleKinds qruleLevels qholds qalarms qalarmHours qvalues qchecked qrights, aJ qnow ca 12 (vp_updL now_ ((8 : Int32) + x1).toNatClampNeg j27_0), aI qhighs ca 4 highs_, aI qlows ca 4 lows_, aZ qtold ca 4 told_, aI qrates ca 4 rates_] H → va_D A [oc_Model qa0 thrown_ volume_ share_ qnow qkept qbooks qkeptBooks layers_ qconductances qcapacities kilograms_ rows_ qrowDamps qrowWaters qtold qlows qhighs qrates hours_ qriskRows qlevels qpointsOf qsums rules_ qruleKinds qruleLevels qholds qalarms qalarmHours qvalues qchecked qrights, aJ qnow ca 12 (vp_updL now_ ((8 : Int32) + x1).toNatClampNeg j27_0), aI qhighs ca 4 highs_, aI qlows ca 4 lows_, aZ qtold ca 4 told_, aI qrates ca 4 rates_] → va_S A s.heap H locs → lv_has ls 9 [(0, .ref qa0), (1, .int x1), (2, .long j2_0), (4, .int j6_0), (5, .int j10_0), (6, .int j18_0), (7, .long (((vp_updL now_ ((8 : Int32) + x1).toNatClampNeg j27_0) ((8 : Int32) + x1).toNatClampNeg) * ((rates_ x1.toNatClampNeg).toInt64)))] → W p l e rm_Model_works s m ar below meth c H locs 0 0 Q (F0 m 217 ls [.long j35_0]) := by
              intro H locs ls hP hD hS hl
              exact hret (j35_0, vp_updL now_ ((8 : Int32) + x1).toNatClampNeg j27_0) _ _ _ _ nd_Model_works_217 hR hP hD hS
            refine lv_icmp_ne (tgt := 215) hx hb nd_Model_works_191 (by decide) (fun c34 => ?_) (fun c34 => ?_)
            · have hR := q_n c34 hJ35
              refine lv_lload hx hb nd_Model_works_215 (lv_at hl 0 rfl) ?_
              cases hR
              exact hN35 _ _ _ hP hD hS (lv_sub hl [1, 2, 3, 4, 5, 6, 0] rfl)
            · have hR := q_p c34 hJ35
              refine lv_lload hx hb nd_Model_works_194 (lv_at hl 0 rfl) ?_
              refine lv_aload_n hx hb nd_Model_works_196 rfl (lv_at hl 1 rfl) ?_
              refine va_get (D := D) (ci := 9) (v := .ref qnow) (C := nR_Model) (T := nT_Model) (N := 32) hx hb hts ni_Model hown hK hP 0 rfl rfl 3 (by decide) (hts (.fieldLink nR_Model 16 "RoomClimateModel" "now" "[J") tt_726) (fun _ h9 => h9) rfl nd_Model_works_197 ?_
              refine lv_iconst (v := 1) hx hb nd_Model_works_200 (by decide) ?_
              obtain ⟨h36, hR⟩ := q_ix hR
              refine va_lald hx hb hK hP 1 1 rfl rfl h36 nd_Model_works_201 ?_
              refine W.lcmp hx hb nd_Model_works_202 ?_
              obtain ⟨j38_0, hJ38, hR⟩ := q_b1 hR
              have hN38 : ∀ (H : Heap) (locs : List Loc) (ls : Array Slot), va_P D vwCl [oc_Model qa0 thrown_ volume_ share_ qnow qkept qbooks qkeptBooks layers_ qconductances qcapacities kilograms_ rows_ qrowDamps qrowWaters qtold qlows qhighs qrates hours_ qriskRows qlevels qpointsOf qsums rules_ qruleKinds qruleLevels qholds qalarms qalarmHours qvalues qchecked qrights, aJ qnow ca 12 (vp_updL now_ ((8 : Int32) + x1).toNatClampNeg j27_0), aI qhighs ca 4 highs_, aI qlows ca 4 lows_, aZ qtold ca 4 told_, aI qrates ca 4 rates_] H → va_D A [oc_Model qa0 thrown_ volume_ share_ qnow qkept qbooks qkeptBooks layers_ qconductances qcapacities kilograms_ rows_ qrowDamps qrowWaters qtold qlows qhighs qrates hours_ qriskRows qlevels qpointsOf qsums rules_ qruleKinds qruleLevels qholds qalarms qalarmHours qvalues qchecked qrights, aJ qnow ca 12 (vp_updL now_ ((8 : Int32) + x1).toNatClampNeg j27_0), aI qhighs ca 4 highs_, aI qlows ca 4 lows_, aZ qtold ca 4 told_, aI qrates ca 4 rates_] → va_S A s.heap H locs → lv_has ls 9 [(0, .ref qa0), (1, .int x1), (2, .long j2_0), (4, .int j6_0), (5, .int j10_0), (6, .int j18_0), (7, .long (((vp_updL now_ ((8 : Int32) + x1).toNatClampNeg j27_0) ((8 : Int32) + x1).toNatClampNeg) * ((rates_ x1.toNatClampNeg).toInt64)))] → W p l e rm_Model_works s m ar below meth c H locs 0 0 Q (F0 m 217 ls [.long j38_0]) := by
                intro H locs ls hP hD hS hl
                cases hR
                exact hN35 _ _ _ hP hD hS (lv_sub hl [0, 1, 2, 3, 4, 5, 6] rfl)
              refine lv_if_le (tgt := 215) hx hb nd_Model_works_203 (by decide) (fun c37 => ?_) (fun c37 => ?_)
              · have hR := q_p c37 hJ38
                refine lv_lload hx hb nd_Model_works_215 (lv_at hl 0 rfl) ?_
                cases hR
                exact hN38 _ _ _ hP hD hS (lv_sub hl [1, 2, 3, 4, 5, 6, 0] rfl)
              · have hR := q_n c37 hJ38
                refine lv_aload_n hx hb nd_Model_works_206 rfl (lv_at hl 1 rfl) ?_
                refine va_get (D := D) (ci := 9) (v := .ref qnow) (C := nR_Model) (T := nT_Model) (N := 32) hx hb hts ni_Model hown hK hP 0 rfl rfl 3 (by decide) (hts (.fieldLink nR_Model 16 "RoomClimateModel" "now" "[J") tt_726) (fun _ h9 => h9) rfl nd_Model_works_207 ?_
                refine lv_iconst (v := 1) hx hb nd_Model_works_210 (by decide) ?_
                refine va_lald hx hb hK hP 1 1 rfl rfl h36 nd_Model_works_211 ?_
                refine lv_goto (tgt := 217) hx hb nd_Model_works_212 (by decide) ?_
                cases hR
                exact hN38 _ _ _ hP hD hS (lv_sub hl [1, 2, 3, 4, 5, 6, 0] rfl)
          refine lv_if_ne (tgt := 142) hx hb nd_Model_works_135 (by decide) (fun c26 => ?_) (fun c26 => ?_)
          · have hR := q_n c26 hJ27
            refine lv_iload hx hb nd_Model_works_142 (lv_at hl 5 rfl) ?_
            obtain ⟨j29_0, hJ29, hR⟩ := q_b1 hR
            have hN29 : ∀ (H : Heap) (locs : List Loc) (ls : Array Slot), va_P D vwCl [oc_Model qa0 thrown_ volume_ share_ qnow qkept qbooks qkeptBooks layers_ qconductances qcapacities kilograms_ rows_ qrowDamps qrowWaters qtold qlows qhighs qrates hours_ qriskRows qlevels qpointsOf qsums rules_ qruleKinds qruleLevels qholds qalarms qalarmHours qvalues qchecked qrights, aJ qnow ca 12 now_, aI qhighs ca 4 highs_, aI qlows ca 4 lows_, aZ qtold ca 4 told_, aI qrates ca 4 rates_] H → va_D A [oc_Model qa0 thrown_ volume_ share_ qnow qkept qbooks qkeptBooks layers_ qconductances qcapacities kilograms_ rows_ qrowDamps qrowWaters qtold qlows qhighs qrates hours_ qriskRows qlevels qpointsOf qsums rules_ qruleKinds qruleLevels qholds qalarms qalarmHours qvalues qchecked qrights, aJ qnow ca 12 now_, aI qhighs ca 4 highs_, aI qlows ca 4 lows_, aZ qtold ca 4 told_, aI qrates ca 4 rates_] → va_S A s.heap H locs → lv_has ls 9 [(0, .ref qa0), (1, .int x1), (2, .long j2_0), (4, .int j6_0), (5, .int j10_0), (6, .int j18_0)] → W p l e rm_Model_works s m ar below meth c H locs 0 0 Q (F0 m 169 ls [.long j29_0, .int ((8 : Int32) + x1), .ref qnow]) := by
              intro H locs ls hP hD hS hl
              cases hR
              exact hN27 _ _ _ hP hD hS (lv_sub hl [0, 1, 2, 3, 4, 5] rfl)
            refine lv_if_eq (tgt := 151) hx hb nd_Model_works_144 (by decide) (fun c28 => ?_) (fun c28 => ?_)
            · have hR := q_p c28 hJ29
              refine lv_iload hx hb nd_Model_works_151 (lv_at hl 0 rfl) ?_
              obtain ⟨j31_0, hJ31, hR⟩ := q_b1 hR
              have hN31 : ∀ (H : Heap) (locs : List Loc) (ls : Array Slot), va_P D vwCl [oc_Model qa0 thrown_ volume_ share_ qnow qkept qbooks qkeptBooks layers_ qconductances qcapacities kilograms_ rows_ qrowDamps qrowWaters qtold qlows qhighs qrates hours_ qriskRows qlevels qpointsOf qsums rules_ qruleKinds qruleLevels qholds qalarms qalarmHours qvalues qchecked qrights, aJ qnow ca 12 now_, aI qhighs ca 4 highs_, aI qlows ca 4 lows_, aZ qtold ca 4 told_, aI qrates ca 4 rates_] H → va_D A [oc_Model qa0 thrown_ volume_ share_ qnow qkept qbooks qkeptBooks layers_ qconductances qcapacities kilograms_ rows_ qrowDamps qrowWaters qtold qlows qhighs qrates hours_ qriskRows qlevels qpointsOf qsums rules_ qruleKinds qruleLevels qholds qalarms qalarmHours qvalues qchecked qrights, aJ qnow ca 12 now_, aI qhighs ca 4 highs_, aI qlows ca 4 lows_, aZ qtold ca 4 told_, aI qrates ca 4 rates_] → va_S A s.heap H locs → lv_has ls 9 [(0, .ref qa0), (1, .int x1), (2, .long j2_0), (4, .int j6_0), (5, .int j10_0), (6, .int j18_0)] → W p l e rm_Model_works s m ar below meth c H locs 0 0 Q (F0 m 169 ls [.long j31_0, .int ((8 : Int32) + x1), .ref qnow]) := by
                intro H locs ls hP hD hS hl
                cases hR
                exact hN29 _ _ _ hP hD hS (lv_sub hl [0, 1, 2, 3, 4, 5] rfl)
              refine lv_if_eq (tgt := 160) hx hb nd_Model_works_153 (by decide) (fun c30 => ?_) (fun c30 => ?_)
              · have hR := q_p c30 hJ31
                refine lv_aload_n hx hb nd_Model_works_160 rfl (lv_at hl 1 rfl) ?_
                refine va_get (D := D) (ci := 9) (v := .ref qnow) (C := nR_Model) (T := nT_Model) (N := 32) hx hb hts ni_Model hown hK hP 0 rfl rfl 3 (by decide) (hts (.fieldLink nR_Model 16 "RoomClimateModel" "now" "[J") tt_726) (fun _ h9 => h9) rfl nd_Model_works_161 ?_
                refine lv_bipush (v := 8) hx hb nd_Model_works_164 (by decide) ?_
                refine lv_iload_n hx hb nd_Model_works_166 rfl (lv_at hl 2 rfl) ?_
                refine lv_iadd hx hb nd_Model_works_167 ?_
                obtain ⟨h32, hR⟩ := q_ix hR
                refine va_lald hx hb hK hP 1 1 rfl rfl h32 nd_Model_works_168 ?_
                cases hR
                exact hN31 _ _ _ hP hD hS (lv_sub hl [1, 2, 3, 4, 5, 0] rfl)
              · have hR := q_n c30 hJ31
                refine lv_lconst (v := 0) hx hb nd_Model_works_156 (by decide) ?_
                refine lv_goto (tgt := 169) hx hb nd_Model_works_157 (by decide) ?_
                cases hR
                exact hN31 _ _ _ hP hD hS (lv_sub hl [1, 2, 3, 4, 5, 0] rfl)
            · have hR := q_n c28 hJ29
              refine lv_lconst (v := 1) hx hb nd_Model_works_147 (by decide) ?_
              refine lv_goto (tgt := 169) hx hb nd_Model_works_148 (by decide) ?_
              cases hR
              exact hN29 _ _ _ hP hD hS (lv_sub hl [1, 2, 3, 4, 5, 0] rfl)
          · have hR := q_p c26 hJ27
            refine lv_lconst (v := 0) hx hb nd_Model_works_138 (by decide) ?_
            refine lv_goto (tgt := 169) hx hb nd_Model_works_139 (by decide) ?_
            cases hR
            exact hN27 _ _ _ hP hD hS (lv_sub hl [1, 2, 3, 4, 5, 0] rfl)
        refine lv_if_eq (tgt := 102) hx hb nd_Model_works_79 (by decide) (fun c17 => ?_) (fun c17 => ?_)
        · have hR := q_p c17 hJ18
          refine lv_lload_n hx hb nd_Model_works_102 rfl (lv_at hl 3 rfl) ?_
          refine lv_aload_n hx hb nd_Model_works_103 rfl (lv_at hl 1 rfl) ?_
          refine va_get (D := D) (ci := 9) (v := .ref qlows) (C := nR_Model) (T := nT_Model) (N := 32) hx hb hts ni_Model hown hK hP 0 rfl rfl 15 (by decide) (hts (.fieldLink nR_Model 46 "RoomClimateModel" "lows" "[I") tt_738) (fun _ h9 => h9) rfl nd_Model_works_104 ?_
          refine lv_iload_n hx hb nd_Model_works_107 rfl (lv_at hl 2 rfl) ?_
          obtain ⟨h19, hR⟩ := q_ix hR
          refine va_iald hx hb hK hP 3 0 rfl rfl h19 nd_Model_works_108 ?_
          refine lv_i2l hx hb nd_Model_works_109 rfl ?_
          refine W.lcmp hx hb nd_Model_works_110 ?_
          obtain ⟨j21_0, hJ21, hR⟩ := q_b1 hR
          have hN21 : ∀ (H : Heap) (locs : List Loc) (ls : Array Slot), va_P D vwCl [oc_Model qa0 thrown_ volume_ share_ qnow qkept qbooks qkeptBooks layers_ qconductances qcapacities kilograms_ rows_ qrowDamps qrowWaters qtold qlows qhighs qrates hours_ qriskRows qlevels qpointsOf qsums rules_ qruleKinds qruleLevels qholds qalarms qalarmHours qvalues qchecked qrights, aJ qnow ca 12 now_, aI qhighs ca 4 highs_, aI qlows ca 4 lows_, aZ qtold ca 4 told_, aI qrates ca 4 rates_] H → va_D A [oc_Model qa0 thrown_ volume_ share_ qnow qkept qbooks qkeptBooks layers_ qconductances qcapacities kilograms_ rows_ qrowDamps qrowWaters qtold qlows qhighs qrates hours_ qriskRows qlevels qpointsOf qsums rules_ qruleKinds qruleLevels qholds qalarms qalarmHours qvalues qchecked qrights, aJ qnow ca 12 now_, aI qhighs ca 4 highs_, aI qlows ca 4 lows_, aZ qtold ca 4 told_, aI qrates ca 4 rates_] → va_S A s.heap H locs → lv_has ls 9 [(0, .ref qa0), (1, .int x1), (2, .long j2_0), (4, .int j6_0), (5, .int j10_0)] → W p l e rm_Model_works s m ar below meth c H locs 0 0 Q (F0 m 119 ls [.int j21_0]) := by
            intro H locs ls hP hD hS hl
            cases hR
            exact hN18 _ _ _ hP hD hS (lv_sub hl [0, 1, 2, 3, 4] rfl)
          refine lv_if_ge (tgt := 118) hx hb nd_Model_works_111 (by decide) (fun c20 => ?_) (fun c20 => ?_)
          · have hR := q_p c20 hJ21
            refine lv_iconst (v := 0) hx hb nd_Model_works_118 (by decide) ?_
            cases hR
            exact hN21 _ _ _ hP hD hS (lv_sub hl [1, 2, 3, 4, 0] rfl)
          · have hR := q_n c20 hJ21
            refine lv_iconst (v := 1) hx hb nd_Model_works_114 (by decide) ?_
            refine lv_goto (tgt := 119) hx hb nd_Model_works_115 (by decide) ?_
            cases hR
            exact hN21 _ _ _ hP hD hS (lv_sub hl [1, 2, 3, 4, 0] rfl)
        · have hR := q_n c17 hJ18
          refine lv_lload_n hx hb nd_Model_works_82 rfl (lv_at hl 3 rfl) ?_
          refine lv_aload_n hx hb nd_Model_works_83 rfl (lv_at hl 1 rfl) ?_
          refine va_get (D := D) (ci := 9) (v := .ref qhighs) (C := nR_Model) (T := nT_Model) (N := 32) hx hb hts ni_Model hown hK hP 0 rfl rfl 16 (by decide) (hts (.fieldLink nR_Model 49 "RoomClimateModel" "highs" "[I") tt_739) (fun _ h9 => h9) rfl nd_Model_works_84 ?_
          refine lv_iload_n hx hb nd_Model_works_87 rfl (lv_at hl 2 rfl) ?_
          obtain ⟨h22, hR⟩ := q_ix hR
          refine va_iald hx hb hK hP 2 0 rfl rfl h22 nd_Model_works_88 ?_
          refine lv_i2l hx hb nd_Model_works_89 rfl ?_
          refine W.lcmp hx hb nd_Model_works_90 ?_
          obtain ⟨j24_0, hJ24, hR⟩ := q_b1 hR
          have hN24 : ∀ (H : Heap) (locs : List Loc) (ls : Array Slot), va_P D vwCl [oc_Model qa0 thrown_ volume_ share_ qnow qkept qbooks qkeptBooks layers_ qconductances qcapacities kilograms_ rows_ qrowDamps qrowWaters qtold qlows qhighs qrates hours_ qriskRows qlevels qpointsOf qsums rules_ qruleKinds qruleLevels qholds qalarms qalarmHours qvalues qchecked qrights, aJ qnow ca 12 now_, aI qhighs ca 4 highs_, aI qlows ca 4 lows_, aZ qtold ca 4 told_, aI qrates ca 4 rates_] H → va_D A [oc_Model qa0 thrown_ volume_ share_ qnow qkept qbooks qkeptBooks layers_ qconductances qcapacities kilograms_ rows_ qrowDamps qrowWaters qtold qlows qhighs qrates hours_ qriskRows qlevels qpointsOf qsums rules_ qruleKinds qruleLevels qholds qalarms qalarmHours qvalues qchecked qrights, aJ qnow ca 12 now_, aI qhighs ca 4 highs_, aI qlows ca 4 lows_, aZ qtold ca 4 told_, aI qrates ca 4 rates_] → va_S A s.heap H locs → lv_has ls 9 [(0, .ref qa0), (1, .int x1), (2, .long j2_0), (4, .int j6_0), (5, .int j10_0)] → W p l e rm_Model_works s m ar below meth c H locs 0 0 Q (F0 m 119 ls [.int j24_0]) := by
            intro H locs ls hP hD hS hl
            cases hR
            exact hN18 _ _ _ hP hD hS (lv_sub hl [0, 1, 2, 3, 4] rfl)
          refine lv_if_le (tgt := 98) hx hb nd_Model_works_91 (by decide) (fun c23 => ?_) (fun c23 => ?_)
          · have hR := q_p c23 hJ24
            refine lv_iconst (v := 0) hx hb nd_Model_works_98 (by decide) ?_
            refine lv_goto (tgt := 119) hx hb nd_Model_works_99 (by decide) ?_
            cases hR
            exact hN24 _ _ _ hP hD hS (lv_sub hl [1, 2, 3, 4, 0] rfl)
          · have hR := q_n c23 hJ24
            refine lv_iconst (v := 1) hx hb nd_Model_works_94 (by decide) ?_
            refine lv_goto (tgt := 119) hx hb nd_Model_works_95 (by decide) ?_
            cases hR
            exact hN24 _ _ _ hP hD hS (lv_sub hl [1, 2, 3, 4, 0] rfl)
      refine lv_if_eq (tgt := 58) hx hb nd_Model_works_35 (by decide) (fun c9 => ?_) (fun c9 => ?_)
      · have hR := q_p c9 hJ10
        refine lv_lload_n hx hb nd_Model_works_58 rfl (lv_at hl 3 rfl) ?_
        refine lv_aload_n hx hb nd_Model_works_59 rfl (lv_at hl 1 rfl) ?_
        refine va_get (D := D) (ci := 9) (v := .ref qhighs) (C := nR_Model) (T := nT_Model) (N := 32) hx hb hts ni_Model hown hK hP 0 rfl rfl 16 (by decide) (hts (.fieldLink nR_Model 49 "RoomClimateModel" "highs" "[I") tt_739) (fun _ h9 => h9) rfl nd_Model_works_60 ?_
        refine lv_iload_n hx hb nd_Model_works_63 rfl (lv_at hl 2 rfl) ?_
        obtain ⟨h11, hR⟩ := q_ix hR
        refine va_iald hx hb hK hP 2 0 rfl rfl h11 nd_Model_works_64 ?_
        refine lv_i2l hx hb nd_Model_works_65 rfl ?_
        refine W.lcmp hx hb nd_Model_works_66 ?_
        obtain ⟨j13_0, hJ13, hR⟩ := q_b1 hR
        have hN13 : ∀ (H : Heap) (locs : List Loc) (ls : Array Slot), va_P D vwCl [oc_Model qa0 thrown_ volume_ share_ qnow qkept qbooks qkeptBooks layers_ qconductances qcapacities kilograms_ rows_ qrowDamps qrowWaters qtold qlows qhighs qrates hours_ qriskRows qlevels qpointsOf qsums rules_ qruleKinds qruleLevels qholds qalarms qalarmHours qvalues qchecked qrights, aJ qnow ca 12 now_, aI qhighs ca 4 highs_, aI qlows ca 4 lows_, aZ qtold ca 4 told_, aI qrates ca 4 rates_] H → va_D A [oc_Model qa0 thrown_ volume_ share_ qnow qkept qbooks qkeptBooks layers_ qconductances qcapacities kilograms_ rows_ qrowDamps qrowWaters qtold qlows qhighs qrates hours_ qriskRows qlevels qpointsOf qsums rules_ qruleKinds qruleLevels qholds qalarms qalarmHours qvalues qchecked qrights, aJ qnow ca 12 now_, aI qhighs ca 4 highs_, aI qlows ca 4 lows_, aZ qtold ca 4 told_, aI qrates ca 4 rates_] → va_S A s.heap H locs → lv_has ls 9 [(0, .ref qa0), (1, .int x1), (2, .long j2_0), (4, .int j6_0)] → W p l e rm_Model_works s m ar below meth c H locs 0 0 Q (F0 m 75 ls [.int j13_0]) := by
          intro H locs ls hP hD hS hl
          cases hR
          exact hN10 _ _ _ hP hD hS (lv_sub hl [0, 1, 2, 3] rfl)
        refine lv_if_le (tgt := 74) hx hb nd_Model_works_67 (by decide) (fun c12 => ?_) (fun c12 => ?_)
        · have hR := q_p c12 hJ13
          refine lv_iconst (v := 0) hx hb nd_Model_works_74 (by decide) ?_
          cases hR
          exact hN13 _ _ _ hP hD hS (lv_sub hl [1, 2, 3, 0] rfl)
        · have hR := q_n c12 hJ13
          refine lv_iconst (v := 1) hx hb nd_Model_works_70 (by decide) ?_
          refine lv_goto (tgt := 75) hx hb nd_Model_works_71 (by decide) ?_
          cases hR
          exact hN13 _ _ _ hP hD hS (lv_sub hl [1, 2, 3, 0] rfl)
      · have hR := q_n c9 hJ10
        refine lv_lload_n hx hb nd_Model_works_38 rfl (lv_at hl 3 rfl) ?_
        refine lv_aload_n hx hb nd_Model_works_39 rfl (lv_at hl 1 rfl) ?_
        refine va_get (D := D) (ci := 9) (v := .ref qlows) (C := nR_Model) (T := nT_Model) (N := 32) hx hb hts ni_Model hown hK hP 0 rfl rfl 15 (by decide) (hts (.fieldLink nR_Model 46 "RoomClimateModel" "lows" "[I") tt_738) (fun _ h9 => h9) rfl nd_Model_works_40 ?_
        refine lv_iload_n hx hb nd_Model_works_43 rfl (lv_at hl 2 rfl) ?_
        obtain ⟨h14, hR⟩ := q_ix hR
        refine va_iald hx hb hK hP 3 0 rfl rfl h14 nd_Model_works_44 ?_
        refine lv_i2l hx hb nd_Model_works_45 rfl ?_
        refine W.lcmp hx hb nd_Model_works_46 ?_
        obtain ⟨j16_0, hJ16, hR⟩ := q_b1 hR
        have hN16 : ∀ (H : Heap) (locs : List Loc) (ls : Array Slot), va_P D vwCl [oc_Model qa0 thrown_ volume_ share_ qnow qkept qbooks qkeptBooks layers_ qconductances qcapacities kilograms_ rows_ qrowDamps qrowWaters qtold qlows qhighs qrates hours_ qriskRows qlevels qpointsOf qsums rules_ qruleKinds qruleLevels qholds qalarms qalarmHours qvalues qchecked qrights, aJ qnow ca 12 now_, aI qhighs ca 4 highs_, aI qlows ca 4 lows_, aZ qtold ca 4 told_, aI qrates ca 4 rates_] H → va_D A [oc_Model qa0 thrown_ volume_ share_ qnow qkept qbooks qkeptBooks layers_ qconductances qcapacities kilograms_ rows_ qrowDamps qrowWaters qtold qlows qhighs qrates hours_ qriskRows qlevels qpointsOf qsums rules_ qruleKinds qruleLevels qholds qalarms qalarmHours qvalues qchecked qrights, aJ qnow ca 12 now_, aI qhighs ca 4 highs_, aI qlows ca 4 lows_, aZ qtold ca 4 told_, aI qrates ca 4 rates_] → va_S A s.heap H locs → lv_has ls 9 [(0, .ref qa0), (1, .int x1), (2, .long j2_0), (4, .int j6_0)] → W p l e rm_Model_works s m ar below meth c H locs 0 0 Q (F0 m 75 ls [.int j16_0]) := by
          intro H locs ls hP hD hS hl
          cases hR
          exact hN10 _ _ _ hP hD hS (lv_sub hl [0, 1, 2, 3] rfl)
        refine lv_if_ge (tgt := 54) hx hb nd_Model_works_47 (by decide) (fun c15 => ?_) (fun c15 => ?_)
        · have hR := q_p c15 hJ16
          refine lv_iconst (v := 0) hx hb nd_Model_works_54 (by decide) ?_
          refine lv_goto (tgt := 75) hx hb nd_Model_works_55 (by decide) ?_
          cases hR
          exact hN16 _ _ _ hP hD hS (lv_sub hl [1, 2, 3, 0] rfl)
        · have hR := q_n c15 hJ16
          refine lv_iconst (v := 1) hx hb nd_Model_works_50 (by decide) ?_
          refine lv_goto (tgt := 75) hx hb nd_Model_works_51 (by decide) ?_
          cases hR
          exact hN16 _ _ _ hP hD hS (lv_sub hl [1, 2, 3, 0] rfl)
    refine lv_if_eq (tgt := 26) hx hb nd_Model_works_18 (by decide) (fun c5 => ?_) (fun c5 => ?_)
    · have hR := q_p c5 hJ6
      refine lv_iconst (v := 1) hx hb nd_Model_works_26 (by decide) ?_
      refine lv_goto (tgt := 31) hx hb nd_Model_works_27 (by decide) ?_
      cases hR
      exact hN6 _ _ _ hP hD hS (lv_sub hl [1, 2, 0] rfl)
    · have hR := q_n c5 hJ6
      refine lv_iload_n hx hb nd_Model_works_21 rfl (lv_at hl 2 rfl) ?_
      refine lv_iconst (v := 2) hx hb nd_Model_works_22 (by decide) ?_
      obtain ⟨j8_0, hJ8, hR⟩ := q_b1 hR
      have hN8 : ∀ (H : Heap) (locs : List Loc) (ls : Array Slot), va_P D vwCl [oc_Model qa0 thrown_ volume_ share_ qnow qkept qbooks qkeptBooks layers_ qconductances qcapacities kilograms_ rows_ qrowDamps qrowWaters qtold qlows qhighs qrates hours_ qriskRows qlevels qpointsOf qsums rules_ qruleKinds qruleLevels qholds qalarms qalarmHours qvalues qchecked qrights, aJ qnow ca 12 now_, aI qhighs ca 4 highs_, aI qlows ca 4 lows_, aZ qtold ca 4 told_, aI qrates ca 4 rates_] H → va_D A [oc_Model qa0 thrown_ volume_ share_ qnow qkept qbooks qkeptBooks layers_ qconductances qcapacities kilograms_ rows_ qrowDamps qrowWaters qtold qlows qhighs qrates hours_ qriskRows qlevels qpointsOf qsums rules_ qruleKinds qruleLevels qholds qalarms qalarmHours qvalues qchecked qrights, aJ qnow ca 12 now_, aI qhighs ca 4 highs_, aI qlows ca 4 lows_, aZ qtold ca 4 told_, aI qrates ca 4 rates_] → va_S A s.heap H locs → lv_has ls 9 [(0, .ref qa0), (1, .int x1), (2, .long j2_0)] → W p l e rm_Model_works s m ar below meth c H locs 0 0 Q (F0 m 31 ls [.int j8_0]) := by
        intro H locs ls hP hD hS hl
        cases hR
        exact hN6 _ _ _ hP hD hS (lv_sub hl [0, 1, 2] rfl)
      refine lv_icmp_ne (tgt := 30) hx hb nd_Model_works_23 (by decide) (fun c7 => ?_) (fun c7 => ?_)
      · have hR := q_n c7 hJ8
        refine lv_iconst (v := 0) hx hb nd_Model_works_30 (by decide) ?_
        cases hR
        exact hN8 _ _ _ hP hD hS (lv_sub hl [1, 2, 0] rfl)
      · have hR := q_p c7 hJ8
        refine lv_iconst (v := 1) hx hb nd_Model_works_26 (by decide) ?_
        refine lv_goto (tgt := 31) hx hb nd_Model_works_27 (by decide) ?_
        cases hR
        exact hN8 _ _ _ hP hD hS (lv_sub hl [1, 2, 0] rfl)
  refine lv_icmp_ge (tgt := 12) hx hb nd_Model_works_2 (by decide) (fun c1 => ?_) (fun c1 => ?_)
  · have hR := q_p c1 hJ2
    refine lv_aload_n hx hb nd_Model_works_12 rfl (lv_at hl 0 rfl) ?_
    obtain ⟨r3, e3, hR⟩ := q_b1 hR
    refine k_rVJ (As := []) (rest := []) (r := r3) hx hb hml hown hts (cn_Model_dampNow l D ca qa0 qnow qkept qbooks qkeptBooks qconductances qcapacities qrowDamps qrowWaters qtold qlows qhighs qrates qriskRows qlevels qpointsOf qsums qruleKinds qruleLevels qholds qalarms qalarmHours qvalues qchecked qrights thrown_ volume_ share_ layers_ kilograms_ rows_ hours_ rules_ now_ r3 e3) kc_Model_dampNow kv_Model_dampNow tt_881 ⟨by decide, by decide⟩ rfl rfl hP hK [0, 1] rfl 0 rfl rfl rfl rfl hl.1 (Nat.le_of_ble_eq_true rfl) rfl nd_Model_works_13 ⟨Nat.zero_le _, Nat.zero_le _⟩ ?_
    cases hR
    exact hN2 _ _ _ hP hD hS (lv_sub hl [0, 1] rfl)
  · have hR := q_n c1 hJ2
    refine lv_aload_n hx hb nd_Model_works_5 rfl (lv_at hl 0 rfl) ?_
    obtain ⟨r4, e4, hR⟩ := q_b1 hR
    refine k_rVJ (As := []) (rest := []) (r := r4) hx hb hml hown hts (cn_Model_degreesNow l D ca qa0 qnow qkept qbooks qkeptBooks qconductances qcapacities qrowDamps qrowWaters qtold qlows qhighs qrates qriskRows qlevels qpointsOf qsums qruleKinds qruleLevels qholds qalarms qalarmHours qvalues qchecked qrights thrown_ volume_ share_ layers_ kilograms_ rows_ hours_ rules_ now_ r4 e4) kc_Model_degreesNow kv_Model_degreesNow tt_873 ⟨by decide, by decide⟩ rfl rfl hP hK [0, 1] rfl 0 rfl rfl rfl rfl hl.1 (Nat.le_of_ble_eq_true rfl) rfl nd_Model_works_6 ⟨Nat.zero_le _, Nat.zero_le _⟩ ?_
    refine lv_goto (tgt := 16) hx hb nd_Model_works_9 (by decide) ?_
    cases hR
    exact hN2 _ _ _ hP hD hS (lv_sub hl [0, 1] rfl)
def rm_Model_goBy : Room := { frames := 4, cells := 0, slots := 0, locals := 90 }
theorem kc_Model_goBy : k_cal nY_Model_goBy nC_Model_goBy 6 (some .long) 3 := ⟨tt_868, tt_10, by decide +kernel⟩
theorem kv_Model_goBy : k_vir nY_Model_goBy := ⟨tt_867, tp_10⟩
set_option maxHeartbeats 4000000 in
set_option maxRecDepth 100000 in
theorem cn_Model_goBy (l : Launch) (D : va_G) (ca : Nat → ClassId) (qa0 qnow qkept qbooks qkeptBooks qconductances qcapacities qrowDamps qrowWaters qtold qlows qhighs qrates qriskRows qlevels qpointsOf qsums qruleKinds qruleLevels qholds qalarms qalarmHours qvalues qchecked qrights : Nat) (thrown_ : Int32) (volume_ : Int32) (share_ : Int32) (layers_ : Int32) (kilograms_ : Int32) (rows_ : Int32) (hours_ : Int32) (rules_ : Int32) (now_ : Nat → Int64) (books_ : Nat → Int64) (conductances_ : Nat → Int32) (capacities_ : Nat → Int32) (rowWaters_ : Nat → Int32) (rowDamps_ : Nat → Int32) (highs_ : Nat → Int32) (lows_ : Nat → Int32) (told_ : Nat → Int32) (rates_ : Nat → Int32) (x1 : Int32) (x2 : Int32) (x3 : Int32) (R0 : Int64) (R1 : Nat → Int64) (R2 : Nat → Int64) (hR : fn_Model_goBy volume_ share_ layers_ kilograms_ rows_ now_ books_ conductances_ capacities_ rowWaters_ rowDamps_ highs_ lows_ told_ rates_ x1 x2 x3 = some (R0, R1, R2)) (sz : Nat) : Met l nY_Model_goBy (Cond.code nY_Model_goBy nC_Model_goBy 6 (some .long) :: TT) rm_Model_goBy (wr_P [.ref qa0, .int x1, .int x2, .int x3] D ca [oc_Model qa0 thrown_ volume_ share_ qnow qkept qbooks qkeptBooks layers_ qconductances qcapacities kilograms_ rows_ qrowDamps qrowWaters qtold qlows qhighs qrates hours_ qriskRows qlevels qpointsOf qsums rules_ qruleKinds qruleLevels qholds qalarms qalarmHours qvalues qchecked qrights, aJ qnow ca 12 now_, aJ qbooks ca 10 books_, aI qconductances ca 5 conductances_, aI qcapacities ca 5 capacities_, aI qrowWaters ca 6 rowWaters_, aI qrowDamps ca 6 rowDamps_, aI qhighs ca 4 highs_, aI qlows ca 4 lows_, aZ qtold ca 4 told_, aI qrates ca 4 rates_] sz) (va_Ql (fun x (_ : Unit) => x = R0) (wr_B D [oc_Model qa0 thrown_ volume_ share_ qnow qkept qbooks qkeptBooks layers_ qconductances qcapacities kilograms_ rows_ qrowDamps qrowWaters qtold qlows qhighs qrates hours_ qriskRows qlevels qpointsOf qsums rules_ qruleKinds qruleLevels qholds qalarms qalarmHours qvalues qchecked qrights, aJ qnow ca 12 now_, aJ qbooks ca 10 books_, aI qconductances ca 5 conductances_, aI qcapacities ca 5 capacities_, aI qrowWaters ca 6 rowWaters_, aI qrowDamps ca 6 rowDamps_, aI qhighs ca 4 highs_, aI qlows ca 4 lows_, aZ qtold ca 4 told_, aI qrates ca 4 rates_] sz [oc_Model qa0 thrown_ volume_ share_ qnow qkept qbooks qkeptBooks layers_ qconductances qcapacities kilograms_ rows_ qrowDamps qrowWaters qtold qlows qhighs qrates hours_ qriskRows qlevels qpointsOf qsums rules_ qruleKinds qruleLevels qholds qalarms qalarmHours qvalues qchecked qrights, aJ qnow ca 12 R1, aJ qbooks ca 10 R2, aI qconductances ca 5 conductances_, aI qcapacities ca 5 capacities_, aI qrowWaters ca 6 rowWaters_, aI qrowDamps ca 6 rowDamps_, aI qhighs ca 4 highs_, aI qlows ca 4 lows_, aZ qtold ca 4 told_, aI qrates ca 4 rates_]) (va_A [oc_Model qa0 thrown_ volume_ share_ qnow qkept qbooks qkeptBooks layers_ qconductances qcapacities kilograms_ rows_ qrowDamps qrowWaters qtold qlows qhighs qrates hours_ qriskRows qlevels qpointsOf qsums rules_ qruleKinds qruleLevels qholds qalarms qalarmHours qvalues qchecked qrights, aJ qnow ca 12 now_, aJ qbooks ca 10 books_, aI qconductances ca 5 conductances_, aI qcapacities ca 5 capacities_, aI qrowWaters ca 6 rowWaters_, aI qrowDamps ca 6 rowDamps_, aI qhighs ca 4 highs_, aI qlows ca 4 lows_, aZ qtold ca 4 told_, aI qrates ca 4 rates_] sz)) 0 0 (va_A [oc_Model qa0 thrown_ volume_ share_ qnow qkept qbooks qkeptBooks layers_ qconductances qcapacities kilograms_ rows_ qrowDamps qrowWaters qtold qlows qhighs qrates hours_ qriskRows qlevels qpointsOf qsums rules_ qruleKinds qruleLevels qholds qalarms qalarmHours qvalues qchecked qrights, aJ qnow ca 12 now_, aJ qbooks ca 10 books_, aI qconductances ca 5 conductances_, aI qcapacities ca 5 capacities_, aI qrowWaters ca 6 rowWaters_, aI qrowDamps ca 6 rowDamps_, aI qhighs ca 4 highs_, aI qlows ca 4 lows_, aZ qtold ca 4 told_, aI qrates ca 4 rates_] sz) := by
  refine wr_ofJ (R := (R0, R1, R2)) (val := fun r => r.1) (w1 := fun r : Int64 × (Nat → Int64) × (Nat → Int64) => [oc_Model qa0 thrown_ volume_ share_ qnow qkept qbooks qkeptBooks layers_ qconductances qcapacities kilograms_ rows_ qrowDamps qrowWaters qtold qlows qhighs qrates hours_ qriskRows qlevels qpointsOf qsums rules_ qruleKinds qruleLevels qholds qalarms qalarmHours qvalues qchecked qrights, aJ qnow ca 12 r.2.1, aJ qbooks ca 10 r.2.2, aI qconductances ca 5 conductances_, aI qcapacities ca 5 capacities_, aI qrowWaters ca 6 rowWaters_, aI qrowDamps ca 6 rowDamps_, aI qhighs ca 4 highs_, aI qlows ca 4 lows_, aZ qtold ca 4 told_, aI qrates ca 4 rates_]) (by decide +kernel) (Nat.le_of_ble_eq_true rfl) ?_
  intro p e s m below meth c Q ar ls hx hb hml hts hown hP hK A hD hA hl hret
  have hS : va_S A s.heap s.heap [] := va_S.rf
  have hown : s.vm.findClass nR_Model = some m.cls := hown
  have hl : lv_has ls 6 [(0, .ref qa0), (1, .int x1), (2, .int x2), (3, .int x3)] := hl
  unfold fn_Model_goBy at hR
  refine lv_aload_n hx hb nd_Model_goBy_0 rfl (lv_at hl 0 rfl) ?_
  refine lv_iload_n hx hb nd_Model_goBy_1 rfl (lv_at hl 1 rfl) ?_
  refine lv_iload_n hx hb nd_Model_goBy_2 rfl (lv_at hl 2 rfl) ?_
  obtain ⟨u1_0, u1_1, e1, hR⟩ := q_b2 hR
  refine k_wVV (wr := [aI qconductances ca 5 conductances_, aI qcapacities ca 5 capacities_, aI qrowWaters ca 6 rowWaters_, aI qrowDamps ca 6 rowDamps_, aI qhighs ca 4 highs_, aI qlows ca 4 lows_, aZ qtold ca 4 told_, aI qrates ca 4 rates_]) (w2 := [oc_Model qa0 thrown_ volume_ share_ qnow qkept qbooks qkeptBooks layers_ qconductances qcapacities kilograms_ rows_ qrowDamps qrowWaters qtold qlows qhighs qrates hours_ qriskRows qlevels qpointsOf qsums rules_ qruleKinds qruleLevels qholds qalarms qalarmHours qvalues qchecked qrights, aJ qnow ca 12 u1_0, aJ qbooks ca 10 u1_1, aI qconductances ca 5 conductances_, aI qcapacities ca 5 capacities_, aI qrowWaters ca 6 rowWaters_, aI qrowDamps ca 6 rowDamps_, aI qhighs ca 4 highs_, aI qlows ca 4 lows_, aZ qtold ca 4 told_, aI qrates ca 4 rates_]) (As := [.int x1, .int x2]) (rest := []) hx hb hml hown hts (cn_Model_air l D ca qa0 qnow qkept qbooks qkeptBooks qconductances qcapacities qrowDamps qrowWaters qtold qlows qhighs qrates qriskRows qlevels qpointsOf qsums qruleKinds qruleLevels qholds qalarms qalarmHours qvalues qchecked qrights thrown_ volume_ share_ layers_ kilograms_ rows_ hours_ rules_ now_ books_ x1 x2 u1_0 u1_1 e1 _) kc_Model_air kv_Model_air tt_869 ⟨by decide, by decide⟩ rfl rfl hP hK hD hS hA [0, 1, 2] [3, 4, 5, 6, 7, 8, 9, 10] [8, 9, 10, 0, 1, 2, 3, 4, 5, 6, 7] rfl (by decide) rfl (by decide) (by decide) rfl (by decide) 0 rfl rfl rfl rfl hl.1 (Nat.le_of_ble_eq_true rfl) rfl nd_Model_goBy_3 ⟨Nat.zero_le _, Nat.zero_le _⟩ (fun H locs hP hD hS => ?_)
  refine lv_aload_n hx hb nd_Model_goBy_6 rfl (lv_at hl 0 rfl) ?_
  refine lv_iload_n hx hb nd_Model_goBy_7 rfl (lv_at hl 1 rfl) ?_
  obtain ⟨u2_0, u2_1, e2, hR⟩ := q_b2 hR
  refine k_wVV (wr := [aI qrowWaters ca 6 rowWaters_, aI qrowDamps ca 6 rowDamps_, aI qhighs ca 4 highs_, aI qlows ca 4 lows_, aZ qtold ca 4 told_, aI qrates ca 4 rates_]) (w2 := [oc_Model qa0 thrown_ volume_ share_ qnow qkept qbooks qkeptBooks layers_ qconductances qcapacities kilograms_ rows_ qrowDamps qrowWaters qtold qlows qhighs qrates hours_ qriskRows qlevels qpointsOf qsums rules_ qruleKinds qruleLevels qholds qalarms qalarmHours qvalues qchecked qrights, aJ qnow ca 12 u2_0, aJ qbooks ca 10 u2_1, aI qconductances ca 5 conductances_, aI qcapacities ca 5 capacities_, aI qrowWaters ca 6 rowWaters_, aI qrowDamps ca 6 rowDamps_, aI qhighs ca 4 highs_, aI qlows ca 4 lows_, aZ qtold ca 4 told_, aI qrates ca 4 rates_]) (As := [.int x1]) (rest := []) hx hb hml hown hts (cn_Model_walls l D ca qa0 qnow qkept qbooks qkeptBooks qconductances qcapacities qrowDamps qrowWaters qtold qlows qhighs qrates qriskRows qlevels qpointsOf qsums qruleKinds qruleLevels qholds qalarms qalarmHours qvalues qchecked qrights thrown_ volume_ share_ layers_ kilograms_ rows_ hours_ rules_ u1_0 conductances_ capacities_ u1_1 x1 u2_0 u2_1 e2 _) kc_Model_walls kv_Model_walls tt_889 ⟨by decide, by decide⟩ rfl rfl hP hK hD hS hA [0, 1, 3, 4, 2] [5, 6, 7, 8, 9, 10] [6, 7, 10, 8, 9, 0, 1, 2, 3, 4, 5] rfl (by decide) rfl (by decide) (by decide) rfl (by decide) 0 rfl rfl rfl rfl hl.1 (Nat.le_of_ble_eq_true rfl) rfl nd_Model_goBy_8 ⟨Nat.zero_le _, Nat.zero_le _⟩ (fun H locs hP hD hS => ?_)
  refine lv_aload_n hx hb nd_Model_goBy_11 rfl (lv_at hl 0 rfl) ?_
  obtain ⟨u3_0, u3_1, e3, hR⟩ := q_b2 hR
  refine k_wVV (wr := [aI qconductances ca 5 conductances_, aI qcapacities ca 5 capacities_, aI qhighs ca 4 highs_, aI qlows ca 4 lows_, aZ qtold ca 4 told_, aI qrates ca 4 rates_]) (w2 := [oc_Model qa0 thrown_ volume_ share_ qnow qkept qbooks qkeptBooks layers_ qconductances qcapacities kilograms_ rows_ qrowDamps qrowWaters qtold qlows qhighs qrates hours_ qriskRows qlevels qpointsOf qsums rules_ qruleKinds qruleLevels qholds qalarms qalarmHours qvalues qchecked qrights, aJ qnow ca 12 u3_0, aJ qbooks ca 10 u3_1, aI qconductances ca 5 conductances_, aI qcapacities ca 5 capacities_, aI qrowWaters ca 6 rowWaters_, aI qrowDamps ca 6 rowDamps_, aI qhighs ca 4 highs_, aI qlows ca 4 lows_, aZ qtold ca 4 told_, aI qrates ca 4 rates_]) (As := []) (rest := []) hx hb hml hown hts (cn_Model_goodsTake l D ca qa0 qnow qkept qbooks qkeptBooks qconductances qcapacities qrowDamps qrowWaters qtold qlows qhighs qrates qriskRows qlevels qpointsOf qsums qruleKinds qruleLevels qholds qalarms qalarmHours qvalues qchecked qrights thrown_ volume_ share_ layers_ kilograms_ rows_ hours_ rules_ u2_0 rowWaters_ rowDamps_ u2_1 u3_0 u3_1 e3 _) kc_Model_goodsTake kv_Model_goodsTake tt_898 ⟨by decide, by decide⟩ rfl rfl hP hK hD hS hA [0, 1, 5, 6, 2] [3, 4, 7, 8, 9, 10] [6, 7, 10, 0, 1, 8, 9, 2, 3, 4, 5] rfl (by decide) rfl (by decide) (by decide) rfl (by decide) 0 rfl rfl rfl rfl hl.1 (Nat.le_of_ble_eq_true rfl) rfl nd_Model_goBy_12 ⟨Nat.zero_le _, Nat.zero_le _⟩ (fun H locs hP hD hS => ?_)
  refine lv_aload_n hx hb nd_Model_goBy_15 rfl (lv_at hl 0 rfl) ?_
  refine lv_iconst (v := 3) hx hb nd_Model_goBy_16 (by decide) ?_
  refine lv_ldc2 hx hb hown (hts _ tt_897) nd_Model_goBy_17 ?_
  refine lv_iload_n hx hb nd_Model_goBy_20 rfl (lv_at hl 3 rfl) ?_
  refine lv_i2l hx hb nd_Model_goBy_21 rfl ?_
  refine lv_lmul hx hb nd_Model_goBy_22 ?_
  refine lv_ldc2 hx hb hown (hts _ tt_907) nd_Model_goBy_23 ?_
  refine lv_iload_n hx hb nd_Model_goBy_26 rfl (lv_at hl 3 rfl) ?_
  refine lv_i2l hx hb nd_Model_goBy_27 rfl ?_
  refine lv_lmul hx hb nd_Model_goBy_28 ?_
  obtain ⟨u4_0, u4_1, e4, hR⟩ := q_b2 hR
  refine k_wVV (wr := [aI qconductances ca 5 conductances_, aI qcapacities ca 5 capacities_, aI qrowWaters ca 6 rowWaters_, aI qrowDamps ca 6 rowDamps_, aI qhighs ca 4 highs_, aI qlows ca 4 lows_, aZ qtold ca 4 told_, aI qrates ca 4 rates_]) (w2 := [oc_Model qa0 thrown_ volume_ share_ qnow qkept qbooks qkeptBooks layers_ qconductances qcapacities kilograms_ rows_ qrowDamps qrowWaters qtold qlows qhighs qrates hours_ qriskRows qlevels qpointsOf qsums rules_ qruleKinds qruleLevels qholds qalarms qalarmHours qvalues qchecked qrights, aJ qnow ca 12 u4_0, aJ qbooks ca 10 u4_1, aI qconductances ca 5 conductances_, aI qcapacities ca 5 capacities_, aI qrowWaters ca 6 rowWaters_, aI qrowDamps ca 6 rowDamps_, aI qhighs ca 4 highs_, aI qlows ca 4 lows_, aZ qtold ca 4 told_, aI qrates ca 4 rates_]) (As := [.int (3 : Int32), .long ((100 : Int64) * x3.toInt64), .long ((50 : Int64) * x3.toInt64)]) (rest := []) hx hb hml hown hts (cn_Model_change l D ca qa0 qnow qkept qbooks qkeptBooks qconductances qcapacities qrowDamps qrowWaters qtold qlows qhighs qrates qriskRows qlevels qpointsOf qsums qruleKinds qruleLevels qholds qalarms qalarmHours qvalues qchecked qrights thrown_ volume_ share_ layers_ kilograms_ rows_ hours_ rules_ u3_0 u3_1 (3 : Int32) ((100 : Int64) * x3.toInt64) ((50 : Int64) * x3.toInt64) u4_0 u4_1 e4 _) kc_Model_change kv_Model_change tt_885 ⟨by decide, by decide⟩ rfl rfl hP hK hD hS hA [0, 1, 2] [3, 4, 5, 6, 7, 8, 9, 10] [8, 9, 10, 0, 1, 2, 3, 4, 5, 6, 7] rfl (by decide) rfl (by decide) (by decide) rfl (by decide) 0 rfl rfl rfl rfl hl.1 (Nat.le_of_ble_eq_true rfl) rfl nd_Model_goBy_29 ⟨Nat.zero_le _, Nat.zero_le _⟩ (fun H locs hP hD hS => ?_)
  refine lv_aload_n hx hb nd_Model_goBy_32 rfl (lv_at hl 0 rfl) ?_
  refine lv_iconst (v := 0) hx hb nd_Model_goBy_33 (by decide) ?_
  obtain ⟨r5, u5_0, e5, hR⟩ := q_b2 hR
  refine k_wVJ (wr := [aJ qbooks ca 10 u4_1, aI qconductances ca 5 conductances_, aI qcapacities ca 5 capacities_, aI qrowWaters ca 6 rowWaters_, aI qrowDamps ca 6 rowDamps_]) (w2 := [oc_Model qa0 thrown_ volume_ share_ qnow qkept qbooks qkeptBooks layers_ qconductances qcapacities kilograms_ rows_ qrowDamps qrowWaters qtold qlows qhighs qrates hours_ qriskRows qlevels qpointsOf qsums rules_ qruleKinds qruleLevels qholds qalarms qalarmHours qvalues qchecked qrights, aJ qnow ca 12 u5_0, aJ qbooks ca 10 u4_1, aI qconductances ca 5 conductances_, aI qcapacities ca 5 capacities_, aI qrowWaters ca 6 rowWaters_, aI qrowDamps ca 6 rowDamps_, aI qhighs ca 4 highs_, aI qlows ca 4 lows_, aZ qtold ca 4 told_, aI qrates ca 4 rates_]) (As := [.int (0 : Int32)]) (rest := []) (r := r5) hx hb hml hown hts (cn_Model_works l D ca qa0 qnow qkept qbooks qkeptBooks qconductances qcapacities qrowDamps qrowWaters qtold qlows qhighs qrates qriskRows qlevels qpointsOf qsums qruleKinds qruleLevels qholds qalarms qalarmHours qvalues qchecked qrights thrown_ volume_ share_ layers_ kilograms_ rows_ hours_ rules_ u4_0 highs_ lows_ told_ rates_ (0 : Int32) r5 u5_0 e5 _) kc_Model_works kv_Model_works tt_908 ⟨by decide, by decide⟩ rfl rfl hP hK hD hS hA [0, 1, 7, 8, 9, 10] [2, 3, 4, 5, 6] [5, 6, 0, 1, 2, 3, 4, 7, 8, 9, 10] rfl (by decide) rfl (by decide) (by decide) rfl (by decide) 0 rfl rfl rfl rfl hl.1 (Nat.le_of_ble_eq_true rfl) rfl nd_Model_goBy_34 ⟨Nat.zero_le _, Nat.zero_le _⟩ (fun H locs hP hD hS => ?_)
  refine lv_lstore (lv' := [(4, .long r5), (0, .ref qa0), (1, .int x1), (2, .int x2), (3, .int x3)]) hx hb nd_Model_goBy_37 hl (by decide) rfl (fun ls hl => ?_)
  refine lv_aload_n hx hb nd_Model_goBy_39 rfl (lv_at hl 1 rfl) ?_
  refine lv_iconst (v := 4) hx hb nd_Model_goBy_40 (by decide) ?_
  refine lv_lload hx hb nd_Model_goBy_41 (lv_at hl 0 rfl) ?_
  refine lv_lconst (v := 0) hx hb nd_Model_goBy_43 (by decide) ?_
  obtain ⟨u6_0, u6_1, e6, hR⟩ := q_b2 hR
  refine k_wVV (wr := [aI qconductances ca 5 conductances_, aI qcapacities ca 5 capacities_, aI qrowWaters ca 6 rowWaters_, aI qrowDamps ca 6 rowDamps_, aI qhighs ca 4 highs_, aI qlows ca 4 lows_, aZ qtold ca 4 told_, aI qrates ca 4 rates_]) (w2 := [oc_Model qa0 thrown_ volume_ share_ qnow qkept qbooks qkeptBooks layers_ qconductances qcapacities kilograms_ rows_ qrowDamps qrowWaters qtold qlows qhighs qrates hours_ qriskRows qlevels qpointsOf qsums rules_ qruleKinds qruleLevels qholds qalarms qalarmHours qvalues qchecked qrights, aJ qnow ca 12 u6_0, aJ qbooks ca 10 u6_1, aI qconductances ca 5 conductances_, aI qcapacities ca 5 capacities_, aI qrowWaters ca 6 rowWaters_, aI qrowDamps ca 6 rowDamps_, aI qhighs ca 4 highs_, aI qlows ca 4 lows_, aZ qtold ca 4 told_, aI qrates ca 4 rates_]) (As := [.int (4 : Int32), .long r5, .long (0 : Int64)]) (rest := []) hx hb hml hown hts (cn_Model_change l D ca qa0 qnow qkept qbooks qkeptBooks qconductances qcapacities qrowDamps qrowWaters qtold qlows qhighs qrates qriskRows qlevels qpointsOf qsums qruleKinds qruleLevels qholds qalarms qalarmHours qvalues qchecked qrights thrown_ volume_ share_ layers_ kilograms_ rows_ hours_ rules_ u5_0 u4_1 (4 : Int32) r5 (0 : Int64) u6_0 u6_1 e6 _) kc_Model_change kv_Model_change tt_885 ⟨by decide, by decide⟩ rfl rfl hP hK hD hS hA [0, 1, 2] [3, 4, 5, 6, 7, 8, 9, 10] [8, 9, 10, 0, 1, 2, 3, 4, 5, 6, 7] rfl (by decide) rfl (by decide) (by decide) rfl (by decide) 0 rfl rfl rfl rfl hl.1 (Nat.le_of_ble_eq_true rfl) rfl nd_Model_goBy_44 ⟨Nat.zero_le _, Nat.zero_le _⟩ (fun H locs hP hD hS => ?_)
  refine lv_aload_n hx hb nd_Model_goBy_47 rfl (lv_at hl 1 rfl) ?_
  refine lv_iconst (v := 4) hx hb nd_Model_goBy_48 (by decide) ?_
  refine lv_lconst (v := 0) hx hb nd_Model_goBy_49 (by decide) ?_
  refine lv_aload_n hx hb nd_Model_goBy_50 rfl (lv_at hl 1 rfl) ?_
  refine lv_iconst (v := 1) hx hb nd_Model_goBy_51 (by decide) ?_
  obtain ⟨r7, u7_0, e7, hR⟩ := q_b2 hR
  refine k_wVJ (wr := [aJ qbooks ca 10 u6_1, aI qconductances ca 5 conductances_, aI qcapacities ca 5 capacities_, aI qrowWaters ca 6 rowWaters_, aI qrowDamps ca 6 rowDamps_]) (w2 := [oc_Model qa0 thrown_ volume_ share_ qnow qkept qbooks qkeptBooks layers_ qconductances qcapacities kilograms_ rows_ qrowDamps qrowWaters qtold qlows qhighs qrates hours_ qriskRows qlevels qpointsOf qsums rules_ qruleKinds qruleLevels qholds qalarms qalarmHours qvalues qchecked qrights, aJ qnow ca 12 u7_0, aJ qbooks ca 10 u6_1, aI qconductances ca 5 conductances_, aI qcapacities ca 5 capacities_, aI qrowWaters ca 6 rowWaters_, aI qrowDamps ca 6 rowDamps_, aI qhighs ca 4 highs_, aI qlows ca 4 lows_, aZ qtold ca 4 told_, aI qrates ca 4 rates_]) (As := [.int (1 : Int32)]) (rest := [.long (0 : Int64), .int (4 : Int32), .ref qa0]) (r := r7) hx hb hml hown hts (cn_Model_works l D ca qa0 qnow qkept qbooks qkeptBooks qconductances qcapacities qrowDamps qrowWaters qtold qlows qhighs qrates qriskRows qlevels qpointsOf qsums qruleKinds qruleLevels qholds qalarms qalarmHours qvalues qchecked qrights thrown_ volume_ share_ layers_ kilograms_ rows_ hours_ rules_ u6_0 highs_ lows_ told_ rates_ (1 : Int32) r7 u7_0 e7 _) kc_Model_works kv_Model_works tt_908 ⟨by decide, by decide⟩ rfl rfl hP hK hD hS hA [0, 1, 7, 8, 9, 10] [2, 3, 4, 5, 6] [5, 6, 0, 1, 2, 3, 4, 7, 8, 9, 10] rfl (by decide) rfl (by decide) (by decide) rfl (by decide) 0 rfl rfl rfl rfl hl.1 (Nat.le_of_ble_eq_true rfl) rfl nd_Model_goBy_52 ⟨Nat.zero_le _, Nat.zero_le _⟩ (fun H locs hP hD hS => ?_)
  refine lv_lsub hx hb nd_Model_goBy_55 ?_
  refine lv_lconst (v := 0) hx hb nd_Model_goBy_56 (by decide) ?_
  obtain ⟨u8_0, u8_1, e8, hR⟩ := q_b2 hR
  refine k_wVV (wr := [aI qconductances ca 5 conductances_, aI qcapacities ca 5 capacities_, aI qrowWaters ca 6 rowWaters_, aI qrowDamps ca 6 rowDamps_, aI qhighs ca 4 highs_, aI qlows ca 4 lows_, aZ qtold ca 4 told_, aI qrates ca 4 rates_]) (w2 := [oc_Model qa0 thrown_ volume_ share_ qnow qkept qbooks qkeptBooks layers_ qconductances qcapacities kilograms_ rows_ qrowDamps qrowWaters qtold qlows qhighs qrates hours_ qriskRows qlevels qpointsOf qsums rules_ qruleKinds qruleLevels qholds qalarms qalarmHours qvalues qchecked qrights, aJ qnow ca 12 u8_0, aJ qbooks ca 10 u8_1, aI qconductances ca 5 conductances_, aI qcapacities ca 5 capacities_, aI qrowWaters ca 6 rowWaters_, aI qrowDamps ca 6 rowDamps_, aI qhighs ca 4 highs_, aI qlows ca 4 lows_, aZ qtold ca 4 told_, aI qrates ca 4 rates_]) (As := [.int (4 : Int32), .long ((0 : Int64) - r7), .long (0 : Int64)]) (rest := []) hx hb hml hown hts (cn_Model_change l D ca qa0 qnow qkept qbooks qkeptBooks qconductances qcapacities qrowDamps qrowWaters qtold qlows qhighs qrates qriskRows qlevels qpointsOf qsums qruleKinds qruleLevels qholds qalarms qalarmHours qvalues qchecked qrights thrown_ volume_ share_ layers_ kilograms_ rows_ hours_ rules_ u7_0 u6_1 (4 : Int32) ((0 : Int64) - r7) (0 : Int64) u8_0 u8_1 e8 _) kc_Model_change kv_Model_change tt_885 ⟨by decide, by decide⟩ rfl rfl hP hK hD hS hA [0, 1, 2] [3, 4, 5, 6, 7, 8, 9, 10] [8, 9, 10, 0, 1, 2, 3, 4, 5, 6, 7] rfl (by decide) rfl (by decide) (by decide) rfl (by decide) 0 rfl rfl rfl rfl hl.1 (Nat.le_of_ble_eq_true rfl) rfl nd_Model_goBy_57 ⟨Nat.zero_le _, Nat.zero_le _⟩ (fun H locs hP hD hS => ?_)
  refine lv_aload_n hx hb nd_Model_goBy_60 rfl (lv_at hl 1 rfl) ?_
  refine lv_iconst (v := 4) hx hb nd_Model_goBy_61 (by decide) ?_
  refine lv_lconst (v := 0) hx hb nd_Model_goBy_62 (by decide) ?_
  refine lv_aload_n hx hb nd_Model_goBy_63 rfl (lv_at hl 1 rfl) ?_
  refine lv_iconst (v := 2) hx hb nd_Model_goBy_64 (by decide) ?_
  obtain ⟨r9, u9_0, e9, hR⟩ := q_b2 hR
  refine k_wVJ (wr := [aJ qbooks ca 10 u8_1, aI qconductances ca 5 conductances_, aI qcapacities ca 5 capacities_, aI qrowWaters ca 6 rowWaters_, aI qrowDamps ca 6 rowDamps_]) (w2 := [oc_Model qa0 thrown_ volume_ share_ qnow qkept qbooks qkeptBooks layers_ qconductances qcapacities kilograms_ rows_ qrowDamps qrowWaters qtold qlows qhighs qrates hours_ qriskRows qlevels qpointsOf qsums rules_ qruleKinds qruleLevels qholds qalarms qalarmHours qvalues qchecked qrights, aJ qnow ca 12 u9_0, aJ qbooks ca 10 u8_1, aI qconductances ca 5 conductances_, aI qcapacities ca 5 capacities_, aI qrowWaters ca 6 rowWaters_, aI qrowDamps ca 6 rowDamps_, aI qhighs ca 4 highs_, aI qlows ca 4 lows_, aZ qtold ca 4 told_, aI qrates ca 4 rates_]) (As := [.int (2 : Int32)]) (rest := [.long (0 : Int64), .int (4 : Int32), .ref qa0]) (r := r9) hx hb hml hown hts (cn_Model_works l D ca qa0 qnow qkept qbooks qkeptBooks qconductances qcapacities qrowDamps qrowWaters qtold qlows qhighs qrates qriskRows qlevels qpointsOf qsums qruleKinds qruleLevels qholds qalarms qalarmHours qvalues qchecked qrights thrown_ volume_ share_ layers_ kilograms_ rows_ hours_ rules_ u8_0 highs_ lows_ told_ rates_ (2 : Int32) r9 u9_0 e9 _) kc_Model_works kv_Model_works tt_908 ⟨by decide, by decide⟩ rfl rfl hP hK hD hS hA [0, 1, 7, 8, 9, 10] [2, 3, 4, 5, 6] [5, 6, 0, 1, 2, 3, 4, 7, 8, 9, 10] rfl (by decide) rfl (by decide) (by decide) rfl (by decide) 0 rfl rfl rfl rfl hl.1 (Nat.le_of_ble_eq_true rfl) rfl nd_Model_goBy_65 ⟨Nat.zero_le _, Nat.zero_le _⟩ (fun H locs hP hD hS => ?_)
  obtain ⟨u10_0, u10_1, e10, hR⟩ := q_b2 hR
  refine k_wVV (wr := [aI qconductances ca 5 conductances_, aI qcapacities ca 5 capacities_, aI qrowWaters ca 6 rowWaters_, aI qrowDamps ca 6 rowDamps_, aI qhighs ca 4 highs_, aI qlows ca 4 lows_, aZ qtold ca 4 told_, aI qrates ca 4 rates_]) (w2 := [oc_Model qa0 thrown_ volume_ share_ qnow qkept qbooks qkeptBooks layers_ qconductances qcapacities kilograms_ rows_ qrowDamps qrowWaters qtold qlows qhighs qrates hours_ qriskRows qlevels qpointsOf qsums rules_ qruleKinds qruleLevels qholds qalarms qalarmHours qvalues qchecked qrights, aJ qnow ca 12 u10_0, aJ qbooks ca 10 u10_1, aI qconductances ca 5 conductances_, aI qcapacities ca 5 capacities_, aI qrowWaters ca 6 rowWaters_, aI qrowDamps ca 6 rowDamps_, aI qhighs ca 4 highs_, aI qlows ca 4 lows_, aZ qtold ca 4 told_, aI qrates ca 4 rates_]) (As := [.int (4 : Int32), .long (0 : Int64), .long r9]) (rest := []) hx hb hml hown hts (cn_Model_change l D ca qa0 qnow qkept qbooks qkeptBooks qconductances qcapacities qrowDamps qrowWaters qtold qlows qhighs qrates qriskRows qlevels qpointsOf qsums qruleKinds qruleLevels qholds qalarms qalarmHours qvalues qchecked qrights thrown_ volume_ share_ layers_ kilograms_ rows_ hours_ rules_ u9_0 u8_1 (4 : Int32) (0 : Int64) r9 u10_0 u10_1 e10 _) kc_Model_change kv_Model_change tt_885 ⟨by decide, by decide⟩ rfl rfl hP hK hD hS hA [0, 1, 2] [3, 4, 5, 6, 7, 8, 9, 10] [8, 9, 10, 0, 1, 2, 3, 4, 5, 6, 7] rfl (by decide) rfl (by decide) (by decide) rfl (by decide) 0 rfl rfl rfl rfl hl.1 (Nat.le_of_ble_eq_true rfl) rfl nd_Model_goBy_68 ⟨Nat.zero_le _, Nat.zero_le _⟩ (fun H locs hP hD hS => ?_)
  refine lv_aload_n hx hb nd_Model_goBy_71 rfl (lv_at hl 1 rfl) ?_
  refine lv_iconst (v := 4) hx hb nd_Model_goBy_72 (by decide) ?_
  refine lv_lconst (v := 0) hx hb nd_Model_goBy_73 (by decide) ?_
  refine lv_lconst (v := 0) hx hb nd_Model_goBy_74 (by decide) ?_
  refine lv_aload_n hx hb nd_Model_goBy_75 rfl (lv_at hl 1 rfl) ?_
  refine lv_iconst (v := 3) hx hb nd_Model_goBy_76 (by decide) ?_
  obtain ⟨r11, u11_0, e11, hR⟩ := q_b2 hR
  refine k_wVJ (wr := [aJ qbooks ca 10 u10_1, aI qconductances ca 5 conductances_, aI qcapacities ca 5 capacities_, aI qrowWaters ca 6 rowWaters_, aI qrowDamps ca 6 rowDamps_]) (w2 := [oc_Model qa0 thrown_ volume_ share_ qnow qkept qbooks qkeptBooks layers_ qconductances qcapacities kilograms_ rows_ qrowDamps qrowWaters qtold qlows qhighs qrates hours_ qriskRows qlevels qpointsOf qsums rules_ qruleKinds qruleLevels qholds qalarms qalarmHours qvalues qchecked qrights, aJ qnow ca 12 u11_0, aJ qbooks ca 10 u10_1, aI qconductances ca 5 conductances_, aI qcapacities ca 5 capacities_, aI qrowWaters ca 6 rowWaters_, aI qrowDamps ca 6 rowDamps_, aI qhighs ca 4 highs_, aI qlows ca 4 lows_, aZ qtold ca 4 told_, aI qrates ca 4 rates_]) (As := [.int (3 : Int32)]) (rest := [.long (0 : Int64), .long (0 : Int64), .int (4 : Int32), .ref qa0]) (r := r11) hx hb hml hown hts (cn_Model_works l D ca qa0 qnow qkept qbooks qkeptBooks qconductances qcapacities qrowDamps qrowWaters qtold qlows qhighs qrates qriskRows qlevels qpointsOf qsums qruleKinds qruleLevels qholds qalarms qalarmHours qvalues qchecked qrights thrown_ volume_ share_ layers_ kilograms_ rows_ hours_ rules_ u10_0 highs_ lows_ told_ rates_ (3 : Int32) r11 u11_0 e11 _) kc_Model_works kv_Model_works tt_908 ⟨by decide, by decide⟩ rfl rfl hP hK hD hS hA [0, 1, 7, 8, 9, 10] [2, 3, 4, 5, 6] [5, 6, 0, 1, 2, 3, 4, 7, 8, 9, 10] rfl (by decide) rfl (by decide) (by decide) rfl (by decide) 0 rfl rfl rfl rfl hl.1 (Nat.le_of_ble_eq_true rfl) rfl nd_Model_goBy_77 ⟨Nat.zero_le _, Nat.zero_le _⟩ (fun H locs hP hD hS => ?_)
  refine lv_lsub hx hb nd_Model_goBy_80 ?_
  obtain ⟨u12_0, u12_1, e12, hR⟩ := q_b2 hR
  refine k_wVV (wr := [aI qconductances ca 5 conductances_, aI qcapacities ca 5 capacities_, aI qrowWaters ca 6 rowWaters_, aI qrowDamps ca 6 rowDamps_, aI qhighs ca 4 highs_, aI qlows ca 4 lows_, aZ qtold ca 4 told_, aI qrates ca 4 rates_]) (w2 := [oc_Model qa0 thrown_ volume_ share_ qnow qkept qbooks qkeptBooks layers_ qconductances qcapacities kilograms_ rows_ qrowDamps qrowWaters qtold qlows qhighs qrates hours_ qriskRows qlevels qpointsOf qsums rules_ qruleKinds qruleLevels qholds qalarms qalarmHours qvalues qchecked qrights, aJ qnow ca 12 u12_0, aJ qbooks ca 10 u12_1, aI qconductances ca 5 conductances_, aI qcapacities ca 5 capacities_, aI qrowWaters ca 6 rowWaters_, aI qrowDamps ca 6 rowDamps_, aI qhighs ca 4 highs_, aI qlows ca 4 lows_, aZ qtold ca 4 told_, aI qrates ca 4 rates_]) (As := [.int (4 : Int32), .long (0 : Int64), .long ((0 : Int64) - r11)]) (rest := []) hx hb hml hown hts (cn_Model_change l D ca qa0 qnow qkept qbooks qkeptBooks qconductances qcapacities qrowDamps qrowWaters qtold qlows qhighs qrates qriskRows qlevels qpointsOf qsums qruleKinds qruleLevels qholds qalarms qalarmHours qvalues qchecked qrights thrown_ volume_ share_ layers_ kilograms_ rows_ hours_ rules_ u11_0 u10_1 (4 : Int32) (0 : Int64) ((0 : Int64) - r11) u12_0 u12_1 e12 _) kc_Model_change kv_Model_change tt_885 ⟨by decide, by decide⟩ rfl rfl hP hK hD hS hA [0, 1, 2] [3, 4, 5, 6, 7, 8, 9, 10] [8, 9, 10, 0, 1, 2, 3, 4, 5, 6, 7] rfl (by decide) rfl (by decide) (by decide) rfl (by decide) 0 rfl rfl rfl rfl hl.1 (Nat.le_of_ble_eq_true rfl) rfl nd_Model_goBy_81 ⟨Nat.zero_le _, Nat.zero_le _⟩ (fun H locs hP hD hS => ?_)
  refine lv_lload hx hb nd_Model_goBy_84 (lv_at hl 0 rfl) ?_
  exact hret (r5, u12_0, u12_1) _ _ _ _ nd_Model_goBy_86 hR hP hD hS
def rm_Model_addPoints : Room := { frames := 2, cells := 0, slots := 0, locals := 45 }
theorem kc_Model_addPoints : k_cal nY_Model_addPoints nC_Model_addPoints 6 none 0 := ⟨tt_915, tt_10, by decide +kernel⟩
theorem kv_Model_addPoints : k_vir nY_Model_addPoints := ⟨tt_914, tp_20⟩
set_option maxHeartbeats 4000000 in
set_option maxRecDepth 100000 in
theorem cn_Model_addPoints (l : Launch) (D : va_G) (ca : Nat → ClassId) (qa0 qnow qkept qbooks qkeptBooks qconductances qcapacities qrowDamps qrowWaters qtold qlows qhighs qrates qriskRows qlevels qpointsOf qsums qruleKinds qruleLevels qholds qalarms qalarmHours qvalues qchecked qrights : Nat) (thrown_ : Int32) (volume_ : Int32) (share_ : Int32) (layers_ : Int32) (kilograms_ : Int32) (rows_ : Int32) (hours_ : Int32) (rules_ : Int32) (now_ : Nat → Int64) (riskRows_ : Nat → Int32) (sums_ : Nat → Int32) (levels_ : Nat → Int32) (pointsOf_ : Nat → Int32) (R0 : Nat → Int32) (hR : fn_Model_addPoints volume_ now_ riskRows_ sums_ levels_ pointsOf_ = some R0) (sz : Nat) : Met l nY_Model_addPoints (Cond.code nY_Model_addPoints nC_Model_addPoints 6 none :: TT) rm_Model_addPoints (wr_P [.ref qa0] D ca [oc_Model qa0 thrown_ volume_ share_ qnow qkept qbooks qkeptBooks layers_ qconductances qcapacities kilograms_ rows_ qrowDamps qrowWaters qtold qlows qhighs qrates hours_ qriskRows qlevels qpointsOf qsums rules_ qruleKinds qruleLevels qholds qalarms qalarmHours qvalues qchecked qrights, aJ qnow ca 12 now_, aI qriskRows ca 4 riskRows_, aI qsums ca 4 sums_, aI qlevels ca 20 levels_, aI qpointsOf ca 20 pointsOf_] sz) (va_Qv (fun (_ : Unit) => True) (wr_B D [oc_Model qa0 thrown_ volume_ share_ qnow qkept qbooks qkeptBooks layers_ qconductances qcapacities kilograms_ rows_ qrowDamps qrowWaters qtold qlows qhighs qrates hours_ qriskRows qlevels qpointsOf qsums rules_ qruleKinds qruleLevels qholds qalarms qalarmHours qvalues qchecked qrights, aJ qnow ca 12 now_, aI qriskRows ca 4 riskRows_, aI qsums ca 4 sums_, aI qlevels ca 20 levels_, aI qpointsOf ca 20 pointsOf_] sz [oc_Model qa0 thrown_ volume_ share_ qnow qkept qbooks qkeptBooks layers_ qconductances qcapacities kilograms_ rows_ qrowDamps qrowWaters qtold qlows qhighs qrates hours_ qriskRows qlevels qpointsOf qsums rules_ qruleKinds qruleLevels qholds qalarms qalarmHours qvalues qchecked qrights, aJ qnow ca 12 now_, aI qriskRows ca 4 riskRows_, aI qsums ca 4 R0, aI qlevels ca 20 levels_, aI qpointsOf ca 20 pointsOf_]) (va_A [oc_Model qa0 thrown_ volume_ share_ qnow qkept qbooks qkeptBooks layers_ qconductances qcapacities kilograms_ rows_ qrowDamps qrowWaters qtold qlows qhighs qrates hours_ qriskRows qlevels qpointsOf qsums rules_ qruleKinds qruleLevels qholds qalarms qalarmHours qvalues qchecked qrights, aJ qnow ca 12 now_, aI qriskRows ca 4 riskRows_, aI qsums ca 4 sums_, aI qlevels ca 20 levels_, aI qpointsOf ca 20 pointsOf_] sz)) 0 0 (va_A [oc_Model qa0 thrown_ volume_ share_ qnow qkept qbooks qkeptBooks layers_ qconductances qcapacities kilograms_ rows_ qrowDamps qrowWaters qtold qlows qhighs qrates hours_ qriskRows qlevels qpointsOf qsums rules_ qruleKinds qruleLevels qholds qalarms qalarmHours qvalues qchecked qrights, aJ qnow ca 12 now_, aI qriskRows ca 4 riskRows_, aI qsums ca 4 sums_, aI qlevels ca 20 levels_, aI qpointsOf ca 20 pointsOf_] sz) := by
  refine wr_ofV (R := R0) (w1 := fun r : (Nat → Int32) => [oc_Model qa0 thrown_ volume_ share_ qnow qkept qbooks qkeptBooks layers_ qconductances qcapacities kilograms_ rows_ qrowDamps qrowWaters qtold qlows qhighs qrates hours_ qriskRows qlevels qpointsOf qsums rules_ qruleKinds qruleLevels qholds qalarms qalarmHours qvalues qchecked qrights, aJ qnow ca 12 now_, aI qriskRows ca 4 riskRows_, aI qsums ca 4 r, aI qlevels ca 20 levels_, aI qpointsOf ca 20 pointsOf_]) (by decide +kernel) (Nat.le_of_ble_eq_true rfl) ?_
  intro p e s m below meth c Q ar ls hx hb hml hts hown hP hK A hD hA hl hret
  have hS : va_S A s.heap s.heap [] := va_S.rf
  have hown : s.vm.findClass nR_Model = some m.cls := hown
  have hl : lv_has ls 6 [(0, .ref qa0)] := hl
  unfold fn_Model_addPoints at hR
  refine lv_iconst (v := 0) hx hb nd_Model_addPoints_0 (by decide) ?_
  refine lv_istore_n (lv' := [(1, .int (0 : Int32)), (0, .ref qa0)]) hx hb nd_Model_addPoints_1 rfl hl (by decide) rfl (fun ls hl => ?_)
  have hL2 : ∀ (n2 : Nat) (i1_2 : Int32) (sums_L2 : Nat → Int32) (H : Heap) (locs : List Loc) (ls : Array Slot), fn_Model_addPoints_L2 volume_ now_ riskRows_ levels_ pointsOf_ n2 i1_2 sums_L2 = some R0 → va_P D vwCl [oc_Model qa0 thrown_ volume_ share_ qnow qkept qbooks qkeptBooks layers_ qconductances qcapacities kilograms_ rows_ qrowDamps qrowWaters qtold qlows qhighs qrates hours_ qriskRows qlevels qpointsOf qsums rules_ qruleKinds qruleLevels qholds qalarms qalarmHours qvalues qchecked qrights, aJ qnow ca 12 now_, aI qriskRows ca 4 riskRows_, aI qsums ca 4 sums_L2, aI qlevels ca 20 levels_, aI qpointsOf ca 20 pointsOf_] H → va_D A [oc_Model qa0 thrown_ volume_ share_ qnow qkept qbooks qkeptBooks layers_ qconductances qcapacities kilograms_ rows_ qrowDamps qrowWaters qtold qlows qhighs qrates hours_ qriskRows qlevels qpointsOf qsums rules_ qruleKinds qruleLevels qholds qalarms qalarmHours qvalues qchecked qrights, aJ qnow ca 12 now_, aI qriskRows ca 4 riskRows_, aI qsums ca 4 sums_L2, aI qlevels ca 20 levels_, aI qpointsOf ca 20 pointsOf_] → va_S A s.heap H locs → lv_has ls 6 [(0, .ref qa0), (1, .int i1_2)] → W p l e rm_Model_addPoints s m ar below meth c H locs 0 0 Q (F0 m 2 ls []) := by
    intro n2
    induction n2 with
    | zero => intro i1_2 sums_L2 H locs ls hR; exact nomatch hR
    | succ n2 ih2 =>
      intro i1_2 sums_L2 H locs ls hR hP hD hS hl
      rw [fn_Model_addPoints_L2] at hR
      refine lv_iload_n hx hb nd_Model_addPoints_2 rfl (lv_at hl 1 rfl) ?_
      refine lv_iconst (v := 4) hx hb nd_Model_addPoints_3 (by decide) ?_
      refine lv_icmp_ge (tgt := 101) hx hb nd_Model_addPoints_4 (by decide) (fun c1 => ?_) (fun c1 => ?_)
      · replace hR := q_p c1 hR
        exact hret sums_L2 _ _ _ _ nd_Model_addPoints_101 hR hP hD hS
      · replace hR := q_n c1 hR
        refine lv_iload_n hx hb nd_Model_addPoints_7 rfl (lv_at hl 1 rfl) ?_
        refine lv_iconst (v := 2) hx hb nd_Model_addPoints_8 (by decide) ?_
        obtain ⟨j3_0, hJ3, hR⟩ := q_b1 hR
        have hN3 : ∀ (H : Heap) (locs : List Loc) (ls : Array Slot), va_P D vwCl [oc_Model qa0 thrown_ volume_ share_ qnow qkept qbooks qkeptBooks layers_ qconductances qcapacities kilograms_ rows_ qrowDamps qrowWaters qtold qlows qhighs qrates hours_ qriskRows qlevels qpointsOf qsums rules_ qruleKinds qruleLevels qholds qalarms qalarmHours qvalues qchecked qrights, aJ qnow ca 12 now_, aI qriskRows ca 4 riskRows_, aI qsums ca 4 sums_L2, aI qlevels ca 20 levels_, aI qpointsOf ca 20 pointsOf_] H → va_D A [oc_Model qa0 thrown_ volume_ share_ qnow qkept qbooks qkeptBooks layers_ qconductances qcapacities kilograms_ rows_ qrowDamps qrowWaters qtold qlows qhighs qrates hours_ qriskRows qlevels qpointsOf qsums rules_ qruleKinds qruleLevels qholds qalarms qalarmHours qvalues qchecked qrights, aJ qnow ca 12 now_, aI qriskRows ca 4 riskRows_, aI qsums ca 4 sums_L2, aI qlevels ca 20 levels_, aI qpointsOf ca 20 pointsOf_] → va_S A s.heap H locs → lv_has ls 6 [(0, .ref qa0), (1, .int i1_2)] → W p l e rm_Model_addPoints s m ar below meth c H locs 0 0 Q (F0 m 23 ls [.long j3_0]) := by
          intro H locs ls hP hD hS hl
          refine lv_lstore_n (lv' := [(2, .long j3_0), (0, .ref qa0), (1, .int i1_2)]) hx hb nd_Model_addPoints_23 rfl hl (by decide) rfl (fun ls hl => ?_)
          refine lv_iconst (v := 0) hx hb nd_Model_addPoints_24 (by decide) ?_
          refine lv_istore (lv' := [(4, .int (0 : Int32)), (2, .long j3_0), (0, .ref qa0), (1, .int i1_2)]) hx hb nd_Model_addPoints_25 hl (by decide) rfl (fun ls hl => ?_)
          refine lv_iconst (v := 5) hx hb nd_Model_addPoints_27 (by decide) ?_
          refine lv_iload_n hx hb nd_Model_addPoints_28 rfl (lv_at hl 3 rfl) ?_
          refine lv_imul hx hb nd_Model_addPoints_29 ?_
          refine lv_istore (lv' := [(5, .int ((5 : Int32) * i1_2)), (4, .int (0 : Int32)), (2, .long j3_0), (0, .ref qa0), (1, .int i1_2)]) hx hb nd_Model_addPoints_30 hl (by decide) rfl (fun ls hl => ?_)
          have hL32 : ∀ (n32 : Nat) (i4_32 : Int32) (i5_32 : Int32) (H : Heap) (locs : List Loc) (ls : Array Slot), fn_Model_addPoints_L32 i1_2 sums_L2 j3_0 riskRows_ levels_ pointsOf_ (fn_Model_addPoints_L2 volume_ now_ riskRows_ levels_ pointsOf_ n2) n32 i4_32 i5_32 = some R0 → va_P D vwCl [oc_Model qa0 thrown_ volume_ share_ qnow qkept qbooks qkeptBooks layers_ qconductances qcapacities kilograms_ rows_ qrowDamps qrowWaters qtold qlows qhighs qrates hours_ qriskRows qlevels qpointsOf qsums rules_ qruleKinds qruleLevels qholds qalarms qalarmHours qvalues qchecked qrights, aJ qnow ca 12 now_, aI qriskRows ca 4 riskRows_, aI qsums ca 4 sums_L2, aI qlevels ca 20 levels_, aI qpointsOf ca 20 pointsOf_] H → va_D A [oc_Model qa0 thrown_ volume_ share_ qnow qkept qbooks qkeptBooks layers_ qconductances qcapacities kilograms_ rows_ qrowDamps qrowWaters qtold qlows qhighs qrates hours_ qriskRows qlevels qpointsOf qsums rules_ qruleKinds qruleLevels qholds qalarms qalarmHours qvalues qchecked qrights, aJ qnow ca 12 now_, aI qriskRows ca 4 riskRows_, aI qsums ca 4 sums_L2, aI qlevels ca 20 levels_, aI qpointsOf ca 20 pointsOf_] → va_S A s.heap H locs → lv_has ls 6 [(0, .ref qa0), (1, .int i1_2), (2, .long j3_0), (4, .int i4_32), (5, .int i5_32)] → W p l e rm_Model_addPoints s m ar below meth c H locs 0 0 Q (F0 m 32 ls []) := by
            intro n32
            induction n32 with
            | zero => intro i4_32 i5_32 H locs ls hR; exact nomatch hR
            | succ n32 ih32 =>
              intro i4_32 i5_32 H locs ls hR hP hD hS hl
              rw [fn_Model_addPoints_L32] at hR
              refine lv_iload hx hb nd_Model_addPoints_32 (lv_at hl 4 rfl) ?_
              refine lv_iconst (v := 5) hx hb nd_Model_addPoints_34 (by decide) ?_
              refine lv_iload_n hx hb nd_Model_addPoints_35 rfl (lv_at hl 1 rfl) ?_
              refine lv_imul hx hb nd_Model_addPoints_36 ?_
              refine lv_aload_n hx hb nd_Model_addPoints_37 rfl (lv_at hl 0 rfl) ?_
              refine va_get (D := D) (ci := 9) (v := .ref qriskRows) (C := nR_Model) (T := nT_Model) (N := 32) hx hb hts ni_Model hown hK hP 0 rfl rfl 19 (by decide) (hts (.fieldLink nR_Model 55 "RoomClimateModel" "riskRows" "[I") tt_742) (fun _ h9 => h9) rfl nd_Model_addPoints_38 ?_
              refine lv_iload_n hx hb nd_Model_addPoints_41 rfl (lv_at hl 1 rfl) ?_
              obtain ⟨h6, hR⟩ := q_ix hR
              refine va_iald hx hb hK hP 2 0 rfl rfl h6 nd_Model_addPoints_42 ?_
              refine lv_iadd hx hb nd_Model_addPoints_43 ?_
              refine lv_icmp_ge (tgt := 80) hx hb nd_Model_addPoints_44 (by decide) (fun c7 => ?_) (fun c7 => ?_)
              · replace hR := q_p c7 hR
                refine lv_aload_n hx hb nd_Model_addPoints_80 rfl (lv_at hl 0 rfl) ?_
                refine va_get (D := D) (ci := 9) (v := .ref qsums) (C := nR_Model) (T := nT_Model) (N := 32) hx hb hts ni_Model hown hK hP 0 rfl rfl 22 (by decide) (hts (.fieldLink nR_Model 64 "RoomClimateModel" "sums" "[I") tt_745) (fun _ h9 => h9) rfl nd_Model_addPoints_81 ?_
                refine lv_iload_n hx hb nd_Model_addPoints_84 rfl (lv_at hl 1 rfl) ?_
                refine lv_aload_n hx hb nd_Model_addPoints_85 rfl (lv_at hl 0 rfl) ?_
                refine va_get (D := D) (ci := 9) (v := .ref qsums) (C := nR_Model) (T := nT_Model) (N := 32) hx hb hts ni_Model hown hK hP 0 rfl rfl 22 (by decide) (hts (.fieldLink nR_Model 64 "RoomClimateModel" "sums" "[I") tt_745) (fun _ h9 => h9) rfl nd_Model_addPoints_86 ?_
                refine lv_iload_n hx hb nd_Model_addPoints_89 rfl (lv_at hl 1 rfl) ?_
                refine va_iald hx hb hK hP 3 0 rfl rfl h6 nd_Model_addPoints_90 ?_
                refine lv_iload hx hb nd_Model_addPoints_91 (lv_at hl 3 rfl) ?_
                refine lv_iadd hx hb nd_Model_addPoints_93 ?_
                refine va_iast hx hb hK hP hD hS 3 0 rfl rfl h6 nd_Model_addPoints_94 (fun H locs hP hD hS => ?_)
                have hP : va_P D vwCl [oc_Model qa0 thrown_ volume_ share_ qnow qkept qbooks qkeptBooks layers_ qconductances qcapacities kilograms_ rows_ qrowDamps qrowWaters qtold qlows qhighs qrates hours_ qriskRows qlevels qpointsOf qsums rules_ qruleKinds qruleLevels qholds qalarms qalarmHours qvalues qchecked qrights, aJ qnow ca 12 now_, aI qriskRows ca 4 riskRows_, aI qsums ca 4 (upd sums_L2 i1_2.toNatClampNeg ((sums_L2 i1_2.toNatClampNeg) + i4_32)), aI qlevels ca 20 levels_, aI qpointsOf ca 20 pointsOf_] H := hP
                have hD : va_D A [oc_Model qa0 thrown_ volume_ share_ qnow qkept qbooks qkeptBooks layers_ qconductances qcapacities kilograms_ rows_ qrowDamps qrowWaters qtold qlows qhighs qrates hours_ qriskRows qlevels qpointsOf qsums rules_ qruleKinds qruleLevels qholds qalarms qalarmHours qvalues qchecked qrights, aJ qnow ca 12 now_, aI qriskRows ca 4 riskRows_, aI qsums ca 4 (upd sums_L2 i1_2.toNatClampNeg ((sums_L2 i1_2.toNatClampNeg) + i4_32)), aI qlevels ca 20 levels_, aI qpointsOf ca 20 pointsOf_] := hD
                refine lv_iinc (v := i1_2 + 1) (lv' := [(1, .int (i1_2 + 1)), (0, .ref qa0), (2, .long j3_0), (4, .int i4_32), (5, .int i5_32)]) hx hb nd_Model_addPoints_95 hl (k := 1) rfl (by first | rfl | decide) (by decide) rfl (fun ls hl => ?_)
                refine lv_goto (tgt := 2) hx hb nd_Model_addPoints_98 (by decide) ?_
                exact ih2 (i1_2 + 1) (upd sums_L2 i1_2.toNatClampNeg ((sums_L2 i1_2.toNatClampNeg) + i4_32)) _ _ _ hR hP hD hS (lv_sub hl [1, 0] rfl)
              · replace hR := q_n c7 hR
                refine lv_aload_n hx hb nd_Model_addPoints_47 rfl (lv_at hl 0 rfl) ?_
                refine va_get (D := D) (ci := 9) (v := .ref qlevels) (C := nR_Model) (T := nT_Model) (N := 32) hx hb hts ni_Model hown hK hP 0 rfl rfl 20 (by decide) (hts (.fieldLink nR_Model 58 "RoomClimateModel" "levels" "[I") tt_743) (fun _ h9 => h9) rfl nd_Model_addPoints_48 ?_
                refine lv_iload hx hb nd_Model_addPoints_51 (lv_at hl 4 rfl) ?_
                obtain ⟨h8, hR⟩ := q_ix hR
                refine va_iald hx hb hK hP 4 0 rfl rfl h8 nd_Model_addPoints_53 ?_
                refine lv_i2l hx hb nd_Model_addPoints_54 rfl ?_
                refine lv_lload_n hx hb nd_Model_addPoints_55 rfl (lv_at hl 2 rfl) ?_
                refine W.lcmp hx hb nd_Model_addPoints_56 ?_
                obtain ⟨j10_0, hJ10, hR⟩ := q_b1 hR
                have hN10 : ∀ (H : Heap) (locs : List Loc) (ls : Array Slot), va_P D vwCl [oc_Model qa0 thrown_ volume_ share_ qnow qkept qbooks qkeptBooks layers_ qconductances qcapacities kilograms_ rows_ qrowDamps qrowWaters qtold qlows qhighs qrates hours_ qriskRows qlevels qpointsOf qsums rules_ qruleKinds qruleLevels qholds qalarms qalarmHours qvalues qchecked qrights, aJ qnow ca 12 now_, aI qriskRows ca 4 riskRows_, aI qsums ca 4 sums_L2, aI qlevels ca 20 levels_, aI qpointsOf ca 20 pointsOf_] H → va_D A [oc_Model qa0 thrown_ volume_ share_ qnow qkept qbooks qkeptBooks layers_ qconductances qcapacities kilograms_ rows_ qrowDamps qrowWaters qtold qlows qhighs qrates hours_ qriskRows qlevels qpointsOf qsums rules_ qruleKinds qruleLevels qholds qalarms qalarmHours qvalues qchecked qrights, aJ qnow ca 12 now_, aI qriskRows ca 4 riskRows_, aI qsums ca 4 sums_L2, aI qlevels ca 20 levels_, aI qpointsOf ca 20 pointsOf_] → va_S A s.heap H locs → lv_has ls 6 [(0, .ref qa0), (1, .int i1_2), (2, .long j3_0), (4, .int i4_32), (5, .int i5_32)] → W p l e rm_Model_addPoints s m ar below meth c H locs 0 0 Q (F0 m 72 ls [.int j10_0]) := by
                  intro H locs ls hP hD hS hl
                  refine lv_istore (lv' := [(4, .int j10_0), (0, .ref qa0), (1, .int i1_2), (2, .long j3_0), (5, .int i5_32)]) hx hb nd_Model_addPoints_72 hl (by decide) rfl (fun ls hl => ?_)
                  refine lv_iinc (v := i5_32 + 1) (lv' := [(5, .int (i5_32 + 1)), (4, .int j10_0), (0, .ref qa0), (1, .int i1_2), (2, .long j3_0)]) hx hb nd_Model_addPoints_74 hl (k := 4) rfl (by first | rfl | decide) (by decide) rfl (fun ls hl => ?_)
                  refine lv_goto (tgt := 32) hx hb nd_Model_addPoints_77 (by decide) ?_
                  exact ih32 j10_0 (i5_32 + 1) _ _ _ hR hP hD hS (lv_sub hl [2, 3, 4, 1, 0] rfl)
                refine lv_if_gt (tgt := 70) hx hb nd_Model_addPoints_57 (by decide) (fun c9 => ?_) (fun c9 => ?_)
                · have hR := q_p c9 hJ10
                  refine lv_iload hx hb nd_Model_addPoints_70 (lv_at hl 3 rfl) ?_
                  cases hR
                  exact hN10 _ _ _ hP hD hS (lv_sub hl [0, 1, 2, 3, 4] rfl)
                · have hR := q_n c9 hJ10
                  refine lv_aload_n hx hb nd_Model_addPoints_60 rfl (lv_at hl 0 rfl) ?_
                  refine va_get (D := D) (ci := 9) (v := .ref qpointsOf) (C := nR_Model) (T := nT_Model) (N := 32) hx hb hts ni_Model hown hK hP 0 rfl rfl 21 (by decide) (hts (.fieldLink nR_Model 61 "RoomClimateModel" "pointsOf" "[I") tt_744) (fun _ h9 => h9) rfl nd_Model_addPoints_61 ?_
                  refine lv_iload hx hb nd_Model_addPoints_64 (lv_at hl 4 rfl) ?_
                  refine va_iald hx hb hK hP 5 0 rfl rfl h8 nd_Model_addPoints_66 ?_
                  refine lv_goto (tgt := 72) hx hb nd_Model_addPoints_67 (by decide) ?_
                  cases hR
                  exact hN10 _ _ _ hP hD hS (lv_sub hl [0, 1, 2, 3, 4] rfl)
          exact hL32 400 (0 : Int32) ((5 : Int32) * i1_2) _ _ _ hR hP hD hS (lv_sub hl [3, 4, 2, 1, 0] rfl)
        refine lv_icmp_ge (tgt := 19) hx hb nd_Model_addPoints_9 (by decide) (fun c2 => ?_) (fun c2 => ?_)
        · have hR := q_p c2 hJ3
          refine lv_aload_n hx hb nd_Model_addPoints_19 rfl (lv_at hl 0 rfl) ?_
          obtain ⟨r4, e4, hR⟩ := q_b1 hR
          refine k_rVJ (As := []) (rest := []) (r := r4) hx hb hml hown hts (cn_Model_degreesNow l D ca qa0 qnow qkept qbooks qkeptBooks qconductances qcapacities qrowDamps qrowWaters qtold qlows qhighs qrates qriskRows qlevels qpointsOf qsums qruleKinds qruleLevels qholds qalarms qalarmHours qvalues qchecked qrights thrown_ volume_ share_ layers_ kilograms_ rows_ hours_ rules_ now_ r4 e4) kc_Model_degreesNow kv_Model_degreesNow tt_873 ⟨by decide, by decide⟩ rfl rfl hP hK [0, 1] rfl 0 rfl rfl rfl rfl hl.1 (Nat.le_of_ble_eq_true rfl) rfl nd_Model_addPoints_20 ⟨Nat.zero_le _, Nat.zero_le _⟩ ?_
          cases hR
          exact hN3 _ _ _ hP hD hS (lv_sub hl [0, 1] rfl)
        · have hR := q_n c2 hJ3
          refine lv_aload_n hx hb nd_Model_addPoints_12 rfl (lv_at hl 0 rfl) ?_
          obtain ⟨r5, e5, hR⟩ := q_b1 hR
          refine k_rVJ (As := []) (rest := []) (r := r5) hx hb hml hown hts (cn_Model_dampNow l D ca qa0 qnow qkept qbooks qkeptBooks qconductances qcapacities qrowDamps qrowWaters qtold qlows qhighs qrates qriskRows qlevels qpointsOf qsums qruleKinds qruleLevels qholds qalarms qalarmHours qvalues qchecked qrights thrown_ volume_ share_ layers_ kilograms_ rows_ hours_ rules_ now_ r5 e5) kc_Model_dampNow kv_Model_dampNow tt_881 ⟨by decide, by decide⟩ rfl rfl hP hK [0, 1] rfl 0 rfl rfl rfl rfl hl.1 (Nat.le_of_ble_eq_true rfl) rfl nd_Model_addPoints_13 ⟨Nat.zero_le _, Nat.zero_le _⟩ ?_
          refine lv_goto (tgt := 23) hx hb nd_Model_addPoints_16 (by decide) ?_
          cases hR
          exact hN3 _ _ _ hP hD hS (lv_sub hl [0, 1] rfl)
  exact hL2 400 (0 : Int32) sums_ _ _ _ hR hP hD hS (lv_sub hl [1, 0] rfl)
def rm_Model_ring : Room := { frames := 2, cells := 0, slots := 0, locals := 45 }
theorem kc_Model_ring : k_cal nY_Model_ring nC_Model_ring 6 none 0 := ⟨tt_919, tt_10, by decide +kernel⟩
theorem kv_Model_ring : k_vir nY_Model_ring := ⟨tt_918, tp_21⟩
set_option maxHeartbeats 4000000 in
set_option maxRecDepth 100000 in
theorem cn_Model_ring (l : Launch) (D : va_G) (ca : Nat → ClassId) (qa0 qnow qkept qbooks qkeptBooks qconductances qcapacities qrowDamps qrowWaters qtold qlows qhighs qrates qriskRows qlevels qpointsOf qsums qruleKinds qruleLevels qholds qalarms qalarmHours qvalues qchecked qrights : Nat) (thrown_ : Int32) (volume_ : Int32) (share_ : Int32) (layers_ : Int32) (kilograms_ : Int32) (rows_ : Int32) (hours_ : Int32) (rules_ : Int32) (ruleKinds_ : Nat → Int32) (now_ : Nat → Int64) (ruleLevels_ : Nat → Int32) (alarms_ : Nat → Int32) (alarmHours_ : Nat → Int32) (holds_ : Nat → Int32) (R0 : Nat → Int32) (R1 : Nat → Int32) (hR : fn_Model_ring volume_ hours_ rules_ ruleKinds_ now_ ruleLevels_ alarms_ alarmHours_ holds_ = some (R0, R1)) (sz : Nat) : Met l nY_Model_ring (Cond.code nY_Model_ring nC_Model_ring 6 none :: TT) rm_Model_ring (wr_P [.ref qa0] D ca [oc_Model qa0 thrown_ volume_ share_ qnow qkept qbooks qkeptBooks layers_ qconductances qcapacities kilograms_ rows_ qrowDamps qrowWaters qtold qlows qhighs qrates hours_ qriskRows qlevels qpointsOf qsums rules_ qruleKinds qruleLevels qholds qalarms qalarmHours qvalues qchecked qrights, aI qruleKinds ca 4 ruleKinds_, aJ qnow ca 12 now_, aI qruleLevels ca 4 ruleLevels_, aI qalarms ca 4 alarms_, aI qalarmHours ca 1200 alarmHours_, aI qholds ca 4 holds_] sz) (va_Qv (fun (_ : Unit) => True) (wr_B D [oc_Model qa0 thrown_ volume_ share_ qnow qkept qbooks qkeptBooks layers_ qconductances qcapacities kilograms_ rows_ qrowDamps qrowWaters qtold qlows qhighs qrates hours_ qriskRows qlevels qpointsOf qsums rules_ qruleKinds qruleLevels qholds qalarms qalarmHours qvalues qchecked qrights, aI qruleKinds ca 4 ruleKinds_, aJ qnow ca 12 now_, aI qruleLevels ca 4 ruleLevels_, aI qalarms ca 4 alarms_, aI qalarmHours ca 1200 alarmHours_, aI qholds ca 4 holds_] sz [oc_Model qa0 thrown_ volume_ share_ qnow qkept qbooks qkeptBooks layers_ qconductances qcapacities kilograms_ rows_ qrowDamps qrowWaters qtold qlows qhighs qrates hours_ qriskRows qlevels qpointsOf qsums rules_ qruleKinds qruleLevels qholds qalarms qalarmHours qvalues qchecked qrights, aI qruleKinds ca 4 ruleKinds_, aJ qnow ca 12 now_, aI qruleLevels ca 4 ruleLevels_, aI qalarms ca 4 R1, aI qalarmHours ca 1200 R0, aI qholds ca 4 holds_]) (va_A [oc_Model qa0 thrown_ volume_ share_ qnow qkept qbooks qkeptBooks layers_ qconductances qcapacities kilograms_ rows_ qrowDamps qrowWaters qtold qlows qhighs qrates hours_ qriskRows qlevels qpointsOf qsums rules_ qruleKinds qruleLevels qholds qalarms qalarmHours qvalues qchecked qrights, aI qruleKinds ca 4 ruleKinds_, aJ qnow ca 12 now_, aI qruleLevels ca 4 ruleLevels_, aI qalarms ca 4 alarms_, aI qalarmHours ca 1200 alarmHours_, aI qholds ca 4 holds_] sz)) 0 0 (va_A [oc_Model qa0 thrown_ volume_ share_ qnow qkept qbooks qkeptBooks layers_ qconductances qcapacities kilograms_ rows_ qrowDamps qrowWaters qtold qlows qhighs qrates hours_ qriskRows qlevels qpointsOf qsums rules_ qruleKinds qruleLevels qholds qalarms qalarmHours qvalues qchecked qrights, aI qruleKinds ca 4 ruleKinds_, aJ qnow ca 12 now_, aI qruleLevels ca 4 ruleLevels_, aI qalarms ca 4 alarms_, aI qalarmHours ca 1200 alarmHours_, aI qholds ca 4 holds_] sz) := by
  refine wr_ofV (R := (R0, R1)) (w1 := fun r : (Nat → Int32) × (Nat → Int32) => [oc_Model qa0 thrown_ volume_ share_ qnow qkept qbooks qkeptBooks layers_ qconductances qcapacities kilograms_ rows_ qrowDamps qrowWaters qtold qlows qhighs qrates hours_ qriskRows qlevels qpointsOf qsums rules_ qruleKinds qruleLevels qholds qalarms qalarmHours qvalues qchecked qrights, aI qruleKinds ca 4 ruleKinds_, aJ qnow ca 12 now_, aI qruleLevels ca 4 ruleLevels_, aI qalarms ca 4 r.2, aI qalarmHours ca 1200 r.1, aI qholds ca 4 holds_]) (by decide +kernel) (Nat.le_of_ble_eq_true rfl) ?_
  intro p e s m below meth c Q ar ls hx hb hml hts hown hP hK A hD hA hl hret
  have hS : va_S A s.heap s.heap [] := va_S.rf
  have hown : s.vm.findClass nR_Model = some m.cls := hown
  have hl : lv_has ls 6 [(0, .ref qa0)] := hl
  unfold fn_Model_ring at hR
  refine lv_iconst (v := 0) hx hb nd_Model_ring_0 (by decide) ?_
  refine lv_istore_n (lv' := [(1, .int (0 : Int32)), (0, .ref qa0)]) hx hb nd_Model_ring_1 rfl hl (by decide) rfl (fun ls hl => ?_)
  have hL2 : ∀ (n2 : Nat) (i1_2 : Int32) (alarmHours_L2 : Nat → Int32) (alarms_L2 : Nat → Int32) (H : Heap) (locs : List Loc) (ls : Array Slot), fn_Model_ring_L2 rules_ ruleKinds_ volume_ now_ ruleLevels_ hours_ holds_ n2 i1_2 alarmHours_L2 alarms_L2 = some (R0, R1) → va_P D vwCl [oc_Model qa0 thrown_ volume_ share_ qnow qkept qbooks qkeptBooks layers_ qconductances qcapacities kilograms_ rows_ qrowDamps qrowWaters qtold qlows qhighs qrates hours_ qriskRows qlevels qpointsOf qsums rules_ qruleKinds qruleLevels qholds qalarms qalarmHours qvalues qchecked qrights, aI qruleKinds ca 4 ruleKinds_, aJ qnow ca 12 now_, aI qruleLevels ca 4 ruleLevels_, aI qalarms ca 4 alarms_L2, aI qalarmHours ca 1200 alarmHours_L2, aI qholds ca 4 holds_] H → va_D A [oc_Model qa0 thrown_ volume_ share_ qnow qkept qbooks qkeptBooks layers_ qconductances qcapacities kilograms_ rows_ qrowDamps qrowWaters qtold qlows qhighs qrates hours_ qriskRows qlevels qpointsOf qsums rules_ qruleKinds qruleLevels qholds qalarms qalarmHours qvalues qchecked qrights, aI qruleKinds ca 4 ruleKinds_, aJ qnow ca 12 now_, aI qruleLevels ca 4 ruleLevels_, aI qalarms ca 4 alarms_L2, aI qalarmHours ca 1200 alarmHours_L2, aI qholds ca 4 holds_] → va_S A s.heap H locs → lv_has ls 6 [(0, .ref qa0), (1, .int i1_2)] → W p l e rm_Model_ring s m ar below meth c H locs 0 0 Q (F0 m 2 ls []) := by
    intro n2
    induction n2 with
    | zero => intro i1_2 alarmHours_L2 alarms_L2 H locs ls hR; exact nomatch hR
    | succ n2 ih2 =>
      intro i1_2 alarmHours_L2 alarms_L2 H locs ls hR hP hD hS hl
      rw [fn_Model_ring_L2] at hR
      refine lv_iload_n hx hb nd_Model_ring_2 rfl (lv_at hl 1 rfl) ?_
      refine lv_aload_n hx hb nd_Model_ring_3 rfl (lv_at hl 0 rfl) ?_
      refine va_get (D := D) (ci := 9) (v := .int rules_) (C := nR_Model) (T := nT_Model) (N := 32) hx hb hts ni_Model hown hK hP 0 rfl rfl 23 (by decide) (hts (.fieldLink nR_Model 169 "RoomClimateModel" "rules" "I") tt_746) (fun _ h9 => h9) rfl nd_Model_ring_4 ?_
      refine lv_icmp_ge (tgt := 176) hx hb nd_Model_ring_7 (by decide) (fun c1 => ?_) (fun c1 => ?_)
      · replace hR := q_p c1 hR
        exact hret (alarmHours_L2, alarms_L2) _ _ _ _ nd_Model_ring_176 hR hP hD hS
      · replace hR := q_n c1 hR
        refine lv_aload_n hx hb nd_Model_ring_10 rfl (lv_at hl 0 rfl) ?_
        refine va_get (D := D) (ci := 9) (v := .ref qruleKinds) (C := nR_Model) (T := nT_Model) (N := 32) hx hb hts ni_Model hown hK hP 0 rfl rfl 24 (by decide) (hts (.fieldLink nR_Model 67 "RoomClimateModel" "ruleKinds" "[I") tt_747) (fun _ h9 => h9) rfl nd_Model_ring_11 ?_
        refine lv_iload_n hx hb nd_Model_ring_14 rfl (lv_at hl 1 rfl) ?_
        obtain ⟨h2, hR⟩ := q_ix hR
        refine va_iald hx hb hK hP 1 0 rfl rfl h2 nd_Model_ring_15 ?_
        refine lv_iconst (v := 2) hx hb nd_Model_ring_16 (by decide) ?_
        obtain ⟨j4_0, hJ4, hR⟩ := q_b1 hR
        have hN4 : ∀ (H : Heap) (locs : List Loc) (ls : Array Slot), va_P D vwCl [oc_Model qa0 thrown_ volume_ share_ qnow qkept qbooks qkeptBooks layers_ qconductances qcapacities kilograms_ rows_ qrowDamps qrowWaters qtold qlows qhighs qrates hours_ qriskRows qlevels qpointsOf qsums rules_ qruleKinds qruleLevels qholds qalarms qalarmHours qvalues qchecked qrights, aI qruleKinds ca 4 ruleKinds_, aJ qnow ca 12 now_, aI qruleLevels ca 4 ruleLevels_, aI qalarms ca 4 alarms_L2, aI qalarmHours ca 1200 alarmHours_L2, aI qholds ca 4 holds_] H → va_D A [oc_Model qa0 thrown_ volume_ share_ qnow qkept qbooks qkeptBooks layers_ qconductances qcapacities kilograms_ rows_ qrowDamps qrowWaters qtold qlows qhighs qrates hours_ qriskRows qlevels qpointsOf qsums rules_ qruleKinds qruleLevels qholds qalarms qalarmHours qvalues qchecked qrights, aI qruleKinds ca 4 ruleKinds_, aJ qnow ca 12 now_, aI qruleLevels ca 4 ruleLevels_, aI qalarms ca 4 alarms_L2, aI qalarmHours ca 1200 alarmHours_L2, aI qholds ca 4 holds_] → va_S A s.heap H locs → lv_has ls 6 [(0, .ref qa0), (1, .int i1_2)] → W p l e rm_Model_ring s m ar below meth c H locs 0 0 Q (F0 m 31 ls [.long j4_0]) := by
          intro H locs ls hP hD hS hl
          refine lv_lstore_n (lv' := [(2, .long j4_0), (0, .ref qa0), (1, .int i1_2)]) hx hb nd_Model_ring_31 rfl hl (by decide) rfl (fun ls hl => ?_)
          refine lv_aload_n hx hb nd_Model_ring_32 rfl (lv_at hl 1 rfl) ?_
          refine va_get (D := D) (ci := 9) (v := .ref qruleKinds) (C := nR_Model) (T := nT_Model) (N := 32) hx hb hts ni_Model hown hK hP 0 rfl rfl 24 (by decide) (hts (.fieldLink nR_Model 67 "RoomClimateModel" "ruleKinds" "[I") tt_747) (fun _ h9 => h9) rfl nd_Model_ring_33 ?_
          refine lv_iload_n hx hb nd_Model_ring_36 rfl (lv_at hl 2 rfl) ?_
          refine va_iald hx hb hK hP 1 0 rfl rfl h2 nd_Model_ring_37 ?_
          refine lv_iconst (v := 2) hx hb nd_Model_ring_38 (by decide) ?_
          refine lv_irem hx hb nd_Model_ring_39 (by decide) ?_
          obtain ⟨j8_0, hJ8, hR⟩ := q_b1 hR
          have hN8 : ∀ (H : Heap) (locs : List Loc) (ls : Array Slot), va_P D vwCl [oc_Model qa0 thrown_ volume_ share_ qnow qkept qbooks qkeptBooks layers_ qconductances qcapacities kilograms_ rows_ qrowDamps qrowWaters qtold qlows qhighs qrates hours_ qriskRows qlevels qpointsOf qsums rules_ qruleKinds qruleLevels qholds qalarms qalarmHours qvalues qchecked qrights, aI qruleKinds ca 4 ruleKinds_, aJ qnow ca 12 now_, aI qruleLevels ca 4 ruleLevels_, aI qalarms ca 4 alarms_L2, aI qalarmHours ca 1200 alarmHours_L2, aI qholds ca 4 holds_] H → va_D A [oc_Model qa0 thrown_ volume_ share_ qnow qkept qbooks qkeptBooks layers_ qconductances qcapacities kilograms_ rows_ qrowDamps qrowWaters qtold qlows qhighs qrates hours_ qriskRows qlevels qpointsOf qsums rules_ qruleKinds qruleLevels qholds qalarms qalarmHours qvalues qchecked qrights, aI qruleKinds ca 4 ruleKinds_, aJ qnow ca 12 now_, aI qruleLevels ca 4 ruleLevels_, aI qalarms ca 4 alarms_L2, aI qalarmHours ca 1200 alarmHours_L2, aI qholds ca 4 holds_] → va_S A s.heap H locs → lv_has ls 6 [(0, .ref qa0), (1, .int i1_2), (2, .long j4_0)] → W p l e rm_Model_ring s m ar below meth c H locs 0 0 Q (F0 m 80 ls [.int j8_0]) := by
            intro H locs ls hP hD hS hl
            refine lv_istore (lv' := [(4, .int j8_0), (0, .ref qa0), (1, .int i1_2), (2, .long j4_0)]) hx hb nd_Model_ring_80 hl (by decide) rfl (fun ls hl => ?_)
            refine lv_aload_n hx hb nd_Model_ring_82 rfl (lv_at hl 1 rfl) ?_
            refine va_get (D := D) (ci := 9) (v := .ref qalarms) (C := nR_Model) (T := nT_Model) (N := 32) hx hb hts ni_Model hown hK hP 0 rfl rfl 27 (by decide) (hts (.fieldLink nR_Model 76 "RoomClimateModel" "alarms" "[I") tt_750) (fun _ h9 => h9) rfl nd_Model_ring_83 ?_
            refine lv_iload_n hx hb nd_Model_ring_86 rfl (lv_at hl 2 rfl) ?_
            refine va_iald hx hb hK hP 4 0 rfl rfl h2 nd_Model_ring_87 ?_
            obtain ⟨j14_0, hJ14, hR⟩ := q_b1 hR
            have hN14 : ∀ (H : Heap) (locs : List Loc) (ls : Array Slot), va_P D vwCl [oc_Model qa0 thrown_ volume_ share_ qnow qkept qbooks qkeptBooks layers_ qconductances qcapacities kilograms_ rows_ qrowDamps qrowWaters qtold qlows qhighs qrates hours_ qriskRows qlevels qpointsOf qsums rules_ qruleKinds qruleLevels qholds qalarms qalarmHours qvalues qchecked qrights, aI qruleKinds ca 4 ruleKinds_, aJ qnow ca 12 now_, aI qruleLevels ca 4 ruleLevels_, aI qalarms ca 4 alarms_L2, aI qalarmHours ca 1200 alarmHours_L2, aI qholds ca 4 holds_] H → va_D A [oc_Model qa0 thrown_ volume_ share_ qnow qkept qbooks qkeptBooks layers_ qconductances qcapacities kilograms_ rows_ qrowDamps qrowWaters qtold qlows qhighs qrates hours_ qriskRows qlevels qpointsOf qsums rules_ qruleKinds qruleLevels qholds qalarms qalarmHours qvalues qchecked qrights, aI qruleKinds ca 4 ruleKinds_, aJ qnow ca 12 now_, aI qruleLevels ca 4 ruleLevels_, aI qalarms ca 4 alarms_L2, aI qalarmHours ca 1200 alarmHours_L2, aI qholds ca 4 holds_] → va_S A s.heap H locs → lv_has ls 6 [(0, .ref qa0), (1, .int i1_2), (2, .long j4_0), (4, .int j8_0)] → W p l e rm_Model_ring s m ar below meth c H locs 0 0 Q (F0 m 116 ls [.int j14_0]) := by
              intro H locs ls hP hD hS hl
              refine lv_istore (lv' := [(5, .int j14_0), (0, .ref qa0), (1, .int i1_2), (2, .long j4_0), (4, .int j8_0)]) hx hb nd_Model_ring_116 hl (by decide) rfl (fun ls hl => ?_)
              refine lv_iload hx hb nd_Model_ring_118 (lv_at hl 4 rfl) ?_
              obtain ⟨j17_0, j17_1, hJ17, hR⟩ := q_b2 hR
              have hN17 : ∀ (H : Heap) (locs : List Loc) (ls : Array Slot), va_P D vwCl [oc_Model qa0 thrown_ volume_ share_ qnow qkept qbooks qkeptBooks layers_ qconductances qcapacities kilograms_ rows_ qrowDamps qrowWaters qtold qlows qhighs qrates hours_ qriskRows qlevels qpointsOf qsums rules_ qruleKinds qruleLevels qholds qalarms qalarmHours qvalues qchecked qrights, aI qruleKinds ca 4 ruleKinds_, aJ qnow ca 12 now_, aI qruleLevels ca 4 ruleLevels_, aI qalarms ca 4 j17_1, aI qalarmHours ca 1200 j17_0, aI qholds ca 4 holds_] H → va_D A [oc_Model qa0 thrown_ volume_ share_ qnow qkept qbooks qkeptBooks layers_ qconductances qcapacities kilograms_ rows_ qrowDamps qrowWaters qtold qlows qhighs qrates hours_ qriskRows qlevels qpointsOf qsums rules_ qruleKinds qruleLevels qholds qalarms qalarmHours qvalues qchecked qrights, aI qruleKinds ca 4 ruleKinds_, aJ qnow ca 12 now_, aI qruleLevels ca 4 ruleLevels_, aI qalarms ca 4 j17_1, aI qalarmHours ca 1200 j17_0, aI qholds ca 4 holds_] → va_S A s.heap H locs → lv_has ls 6 [(0, .ref qa0), (1, .int i1_2), (2, .long j4_0), (4, .int j8_0), (5, .int j14_0)] → W p l e rm_Model_ring s m ar below meth c H locs 0 0 Q (F0 m 170 ls []) := by
                intro H locs ls hP hD hS hl
                refine lv_iinc (v := i1_2 + 1) (lv' := [(1, .int (i1_2 + 1)), (0, .ref qa0), (2, .long j4_0), (4, .int j8_0), (5, .int j14_0)]) hx hb nd_Model_ring_170 hl (k := 1) rfl (by first | rfl | decide) (by decide) rfl (fun ls hl => ?_)
                refine lv_goto (tgt := 2) hx hb nd_Model_ring_173 (by decide) ?_
                exact ih2 (i1_2 + 1) j17_0 j17_1 _ _ _ hR hP hD hS (lv_sub hl [1, 0] rfl)
              refine lv_if_eq (tgt := 170) hx hb nd_Model_ring_120 (by decide) (fun c16 => ?_) (fun c16 => ?_)
              · have hR := q_p c16 hJ17
                cases hR
                exact hN17 _ _ _ hP hD hS (lv_sub hl [1, 2, 3, 4, 0] rfl)
              · have hR := q_n c16 hJ17
                refine lv_aload_n hx hb nd_Model_ring_123 rfl (lv_at hl 1 rfl) ?_
                refine va_get (D := D) (ci := 9) (v := .int hours_) (C := nR_Model) (T := nT_Model) (N := 32) hx hb hts ni_Model hown hK hP 0 rfl rfl 18 (by decide) (hts (.fieldLink nR_Model 172 "RoomClimateModel" "hours" "I") tt_741) (fun _ h9 => h9) rfl nd_Model_ring_124 ?_
                refine lv_iload hx hb nd_Model_ring_127 (lv_at hl 0 rfl) ?_
                refine lv_isub hx hb nd_Model_ring_129 ?_
                refine lv_aload_n hx hb nd_Model_ring_130 rfl (lv_at hl 1 rfl) ?_
                refine va_get (D := D) (ci := 9) (v := .ref qholds) (C := nR_Model) (T := nT_Model) (N := 32) hx hb hts ni_Model hown hK hP 0 rfl rfl 26 (by decide) (hts (.fieldLink nR_Model 73 "RoomClimateModel" "holds" "[I") tt_749) (fun _ h9 => h9) rfl nd_Model_ring_131 ?_
                refine lv_iload_n hx hb nd_Model_ring_134 rfl (lv_at hl 2 rfl) ?_
                refine va_iald hx hb hK hP 6 0 rfl rfl h2 nd_Model_ring_135 ?_
                obtain ⟨j19_0, j19_1, hJ19, hR⟩ := q_b2 hR
                have hN19 : ∀ (H : Heap) (locs : List Loc) (ls : Array Slot), va_P D vwCl [oc_Model qa0 thrown_ volume_ share_ qnow qkept qbooks qkeptBooks layers_ qconductances qcapacities kilograms_ rows_ qrowDamps qrowWaters qtold qlows qhighs qrates hours_ qriskRows qlevels qpointsOf qsums rules_ qruleKinds qruleLevels qholds qalarms qalarmHours qvalues qchecked qrights, aI qruleKinds ca 4 ruleKinds_, aJ qnow ca 12 now_, aI qruleLevels ca 4 ruleLevels_, aI qalarms ca 4 j19_1, aI qalarmHours ca 1200 j19_0, aI qholds ca 4 holds_] H → va_D A [oc_Model qa0 thrown_ volume_ share_ qnow qkept qbooks qkeptBooks layers_ qconductances qcapacities kilograms_ rows_ qrowDamps qrowWaters qtold qlows qhighs qrates hours_ qriskRows qlevels qpointsOf qsums rules_ qruleKinds qruleLevels qholds qalarms qalarmHours qvalues qchecked qrights, aI qruleKinds ca 4 ruleKinds_, aJ qnow ca 12 now_, aI qruleLevels ca 4 ruleLevels_, aI qalarms ca 4 j19_1, aI qalarmHours ca 1200 j19_0, aI qholds ca 4 holds_] → va_S A s.heap H locs → lv_has ls 6 [(0, .ref qa0), (1, .int i1_2), (2, .long j4_0), (4, .int j8_0), (5, .int j14_0)] → W p l e rm_Model_ring s m ar below meth c H locs 0 0 Q (F0 m 170 ls []) := by
                  intro H locs ls hP hD hS hl
                  cases hR
                  exact hN17 _ _ _ hP hD hS (lv_sub hl [0, 1, 2, 3, 4] rfl)
                refine lv_icmp_lt (tgt := 170) hx hb nd_Model_ring_136 (by decide) (fun c18 => ?_) (fun c18 => ?_)
                · have hR := q_p c18 hJ19
                  cases hR
                  exact hN19 _ _ _ hP hD hS (lv_sub hl [1, 2, 3, 4, 0] rfl)
                · have hR := q_n c18 hJ19
                  refine lv_aload_n hx hb nd_Model_ring_139 rfl (lv_at hl 1 rfl) ?_
                  refine va_get (D := D) (ci := 9) (v := .ref qalarmHours) (C := nR_Model) (T := nT_Model) (N := 32) hx hb hts ni_Model hown hK hP 0 rfl rfl 28 (by decide) (hts (.fieldLink nR_Model 79 "RoomClimateModel" "alarmHours" "[I") tt_751) (fun _ h9 => h9) rfl nd_Model_ring_140 ?_
                  refine lv_sipush (v := 300) hx hb nd_Model_ring_143 (by decide) ?_
                  refine lv_iload_n hx hb nd_Model_ring_146 rfl (lv_at hl 2 rfl) ?_
                  refine lv_imul hx hb nd_Model_ring_147 ?_
                  refine lv_aload_n hx hb nd_Model_ring_148 rfl (lv_at hl 1 rfl) ?_
                  refine va_get (D := D) (ci := 9) (v := .ref qalarms) (C := nR_Model) (T := nT_Model) (N := 32) hx hb hts ni_Model hown hK hP 0 rfl rfl 27 (by decide) (hts (.fieldLink nR_Model 76 "RoomClimateModel" "alarms" "[I") tt_750) (fun _ h9 => h9) rfl nd_Model_ring_149 ?_
                  refine lv_iload_n hx hb nd_Model_ring_152 rfl (lv_at hl 2 rfl) ?_
                  refine va_iald hx hb hK hP 4 0 rfl rfl h2 nd_Model_ring_153 ?_
                  refine lv_iadd hx hb nd_Model_ring_154 ?_
                  refine lv_aload_n hx hb nd_Model_ring_155 rfl (lv_at hl 1 rfl) ?_
                  refine va_get (D := D) (ci := 9) (v := .int hours_) (C := nR_Model) (T := nT_Model) (N := 32) hx hb hts ni_Model hown hK hP 0 rfl rfl 18 (by decide) (hts (.fieldLink nR_Model 172 "RoomClimateModel" "hours" "I") tt_741) (fun _ h9 => h9) rfl nd_Model_ring_156 ?_
                  obtain ⟨h20, hR⟩ := q_ix hR
                  refine va_iast hx hb hK hP hD hS 5 0 rfl rfl h20 nd_Model_ring_159 (fun H locs hP hD hS => ?_)
                  have hP : va_P D vwCl [oc_Model qa0 thrown_ volume_ share_ qnow qkept qbooks qkeptBooks layers_ qconductances qcapacities kilograms_ rows_ qrowDamps qrowWaters qtold qlows qhighs qrates hours_ qriskRows qlevels qpointsOf qsums rules_ qruleKinds qruleLevels qholds qalarms qalarmHours qvalues qchecked qrights, aI qruleKinds ca 4 ruleKinds_, aJ qnow ca 12 now_, aI qruleLevels ca 4 ruleLevels_, aI qalarms ca 4 alarms_L2, aI qalarmHours ca 1200 (upd alarmHours_L2 (((300 : Int32) * i1_2) + (alarms_L2 i1_2.toNatClampNeg)).toNatClampNeg hours_), aI qholds ca 4 holds_] H := hP
                  have hD : va_D A [oc_Model qa0 thrown_ volume_ share_ qnow qkept qbooks qkeptBooks layers_ qconductances qcapacities kilograms_ rows_ qrowDamps qrowWaters qtold qlows qhighs qrates hours_ qriskRows qlevels qpointsOf qsums rules_ qruleKinds qruleLevels qholds qalarms qalarmHours qvalues qchecked qrights, aI qruleKinds ca 4 ruleKinds_, aJ qnow ca 12 now_, aI qruleLevels ca 4 ruleLevels_, aI qalarms ca 4 alarms_L2, aI qalarmHours ca 1200 (upd alarmHours_L2 (((300 : Int32) * i1_2) + (alarms_L2 i1_2.toNatClampNeg)).toNatClampNeg hours_), aI qholds ca 4 holds_] := hD
                  refine lv_aload_n hx hb nd_Model_ring_160 rfl (lv_at hl 1 rfl) ?_
                  refine va_get (D := D) (ci := 9) (v := .ref qalarms) (C := nR_Model) (T := nT_Model) (N := 32) hx hb hts ni_Model hown hK hP 0 rfl rfl 27 (by decide) (hts (.fieldLink nR_Model 76 "RoomClimateModel" "alarms" "[I") tt_750) (fun _ h9 => h9) rfl nd_Model_ring_161 ?_
                  refine lv_iload_n hx hb nd_Model_ring_164 rfl (lv_at hl 2 rfl) ?_
                  refine lv_dup2_11 hx hb nd_Model_ring_165 rfl rfl ?_
                  refine va_iald hx hb hK hP 4 0 rfl rfl h2 nd_Model_ring_166 ?_
                  refine lv_iconst (v := 1) hx hb nd_Model_ring_167 (by decide) ?_
                  refine lv_iadd hx hb nd_Model_ring_168 ?_
                  refine va_iast hx hb hK hP hD hS 4 0 rfl rfl h2 nd_Model_ring_169 (fun H locs hP hD hS => ?_)
                  have hP : va_P D vwCl [oc_Model qa0 thrown_ volume_ share_ qnow qkept qbooks qkeptBooks layers_ qconductances qcapacities kilograms_ rows_ qrowDamps qrowWaters qtold qlows qhighs qrates hours_ qriskRows qlevels qpointsOf qsums rules_ qruleKinds qruleLevels qholds qalarms qalarmHours qvalues qchecked qrights, aI qruleKinds ca 4 ruleKinds_, aJ qnow ca 12 now_, aI qruleLevels ca 4 ruleLevels_, aI qalarms ca 4 (upd alarms_L2 i1_2.toNatClampNeg ((alarms_L2 i1_2.toNatClampNeg) + (1 : Int32))), aI qalarmHours ca 1200 (upd alarmHours_L2 (((300 : Int32) * i1_2) + (alarms_L2 i1_2.toNatClampNeg)).toNatClampNeg hours_), aI qholds ca 4 holds_] H := hP
                  have hD : va_D A [oc_Model qa0 thrown_ volume_ share_ qnow qkept qbooks qkeptBooks layers_ qconductances qcapacities kilograms_ rows_ qrowDamps qrowWaters qtold qlows qhighs qrates hours_ qriskRows qlevels qpointsOf qsums rules_ qruleKinds qruleLevels qholds qalarms qalarmHours qvalues qchecked qrights, aI qruleKinds ca 4 ruleKinds_, aJ qnow ca 12 now_, aI qruleLevels ca 4 ruleLevels_, aI qalarms ca 4 (upd alarms_L2 i1_2.toNatClampNeg ((alarms_L2 i1_2.toNatClampNeg) + (1 : Int32))), aI qalarmHours ca 1200 (upd alarmHours_L2 (((300 : Int32) * i1_2) + (alarms_L2 i1_2.toNatClampNeg)).toNatClampNeg hours_), aI qholds ca 4 holds_] := hD
                  cases hR
                  exact hN19 _ _ _ hP hD hS (lv_sub hl [1, 2, 3, 4, 0] rfl)
            refine lv_if_ne (tgt := 97) hx hb nd_Model_ring_88 (by decide) (fun c13 => ?_) (fun c13 => ?_)
            · have hR := q_n c13 hJ14
              refine lv_aload_n hx hb nd_Model_ring_97 rfl (lv_at hl 1 rfl) ?_
              refine va_get (D := D) (ci := 9) (v := .ref qalarmHours) (C := nR_Model) (T := nT_Model) (N := 32) hx hb hts ni_Model hown hK hP 0 rfl rfl 28 (by decide) (hts (.fieldLink nR_Model 79 "RoomClimateModel" "alarmHours" "[I") tt_751) (fun _ h9 => h9) rfl nd_Model_ring_98 ?_
              refine lv_sipush (v := 300) hx hb nd_Model_ring_101 (by decide) ?_
              refine lv_iload_n hx hb nd_Model_ring_104 rfl (lv_at hl 2 rfl) ?_
              refine lv_imul hx hb nd_Model_ring_105 ?_
              refine lv_aload_n hx hb nd_Model_ring_106 rfl (lv_at hl 1 rfl) ?_
              refine va_get (D := D) (ci := 9) (v := .ref qalarms) (C := nR_Model) (T := nT_Model) (N := 32) hx hb hts ni_Model hown hK hP 0 rfl rfl 27 (by decide) (hts (.fieldLink nR_Model 76 "RoomClimateModel" "alarms" "[I") tt_750) (fun _ h9 => h9) rfl nd_Model_ring_107 ?_
              refine lv_iload_n hx hb nd_Model_ring_110 rfl (lv_at hl 2 rfl) ?_
              refine va_iald hx hb hK hP 4 0 rfl rfl h2 nd_Model_ring_111 ?_
              refine lv_iadd hx hb nd_Model_ring_112 ?_
              refine lv_iconst (v := 1) hx hb nd_Model_ring_113 (by decide) ?_
              refine lv_isub hx hb nd_Model_ring_114 ?_
              obtain ⟨h15, hR⟩ := q_ix hR
              refine va_iald hx hb hK hP 5 0 rfl rfl h15 nd_Model_ring_115 ?_
              cases hR
              exact hN14 _ _ _ hP hD hS (lv_sub hl [1, 2, 3, 0] rfl)
            · have hR := q_p c13 hJ14
              refine lv_sipush (v := -1000) hx hb nd_Model_ring_91 (by decide) ?_
              refine lv_goto (tgt := 116) hx hb nd_Model_ring_94 (by decide) ?_
              cases hR
              exact hN14 _ _ _ hP hD hS (lv_sub hl [1, 2, 3, 0] rfl)
          refine lv_if_ne (tgt := 63) hx hb nd_Model_ring_40 (by decide) (fun c7 => ?_) (fun c7 => ?_)
          · have hR := q_n c7 hJ8
            refine lv_lload_n hx hb nd_Model_ring_63 rfl (lv_at hl 0 rfl) ?_
            refine lv_aload_n hx hb nd_Model_ring_64 rfl (lv_at hl 1 rfl) ?_
            refine va_get (D := D) (ci := 9) (v := .ref qruleLevels) (C := nR_Model) (T := nT_Model) (N := 32) hx hb hts ni_Model hown hK hP 0 rfl rfl 25 (by decide) (hts (.fieldLink nR_Model 70 "RoomClimateModel" "ruleLevels" "[I") tt_748) (fun _ h9 => h9) rfl nd_Model_ring_65 ?_
            refine lv_iload_n hx hb nd_Model_ring_68 rfl (lv_at hl 2 rfl) ?_
            refine va_iald hx hb hK hP 3 0 rfl rfl h2 nd_Model_ring_69 ?_
            refine lv_i2l hx hb nd_Model_ring_70 rfl ?_
            refine W.lcmp hx hb nd_Model_ring_71 ?_
            obtain ⟨j10_0, hJ10, hR⟩ := q_b1 hR
            have hN10 : ∀ (H : Heap) (locs : List Loc) (ls : Array Slot), va_P D vwCl [oc_Model qa0 thrown_ volume_ share_ qnow qkept qbooks qkeptBooks layers_ qconductances qcapacities kilograms_ rows_ qrowDamps qrowWaters qtold qlows qhighs qrates hours_ qriskRows qlevels qpointsOf qsums rules_ qruleKinds qruleLevels qholds qalarms qalarmHours qvalues qchecked qrights, aI qruleKinds ca 4 ruleKinds_, aJ qnow ca 12 now_, aI qruleLevels ca 4 ruleLevels_, aI qalarms ca 4 alarms_L2, aI qalarmHours ca 1200 alarmHours_L2, aI qholds ca 4 holds_] H → va_D A [oc_Model qa0 thrown_ volume_ share_ qnow qkept qbooks qkeptBooks layers_ qconductances qcapacities kilograms_ rows_ qrowDamps qrowWaters qtold qlows qhighs qrates hours_ qriskRows qlevels qpointsOf qsums rules_ qruleKinds qruleLevels qholds qalarms qalarmHours qvalues qchecked qrights, aI qruleKinds ca 4 ruleKinds_, aJ qnow ca 12 now_, aI qruleLevels ca 4 ruleLevels_, aI qalarms ca 4 alarms_L2, aI qalarmHours ca 1200 alarmHours_L2, aI qholds ca 4 holds_] → va_S A s.heap H locs → lv_has ls 6 [(0, .ref qa0), (1, .int i1_2), (2, .long j4_0)] → W p l e rm_Model_ring s m ar below meth c H locs 0 0 Q (F0 m 80 ls [.int j10_0]) := by
              intro H locs ls hP hD hS hl
              cases hR
              exact hN8 _ _ _ hP hD hS (lv_sub hl [0, 1, 2] rfl)
            refine lv_if_ge (tgt := 79) hx hb nd_Model_ring_72 (by decide) (fun c9 => ?_) (fun c9 => ?_)
            · have hR := q_p c9 hJ10
              refine lv_iconst (v := 0) hx hb nd_Model_ring_79 (by decide) ?_
              cases hR
              exact hN10 _ _ _ hP hD hS (lv_sub hl [1, 2, 0] rfl)
            · have hR := q_n c9 hJ10
              refine lv_iconst (v := 1) hx hb nd_Model_ring_75 (by decide) ?_
              refine lv_goto (tgt := 80) hx hb nd_Model_ring_76 (by decide) ?_
              cases hR
              exact hN10 _ _ _ hP hD hS (lv_sub hl [1, 2, 0] rfl)
          · have hR := q_p c7 hJ8
            refine lv_lload_n hx hb nd_Model_ring_43 rfl (lv_at hl 0 rfl) ?_
            refine lv_aload_n hx hb nd_Model_ring_44 rfl (lv_at hl 1 rfl) ?_
            refine va_get (D := D) (ci := 9) (v := .ref qruleLevels) (C := nR_Model) (T := nT_Model) (N := 32) hx hb hts ni_Model hown hK hP 0 rfl rfl 25 (by decide) (hts (.fieldLink nR_Model 70 "RoomClimateModel" "ruleLevels" "[I") tt_748) (fun _ h9 => h9) rfl nd_Model_ring_45 ?_
            refine lv_iload_n hx hb nd_Model_ring_48 rfl (lv_at hl 2 rfl) ?_
            refine va_iald hx hb hK hP 3 0 rfl rfl h2 nd_Model_ring_49 ?_
            refine lv_i2l hx hb nd_Model_ring_50 rfl ?_
            refine W.lcmp hx hb nd_Model_ring_51 ?_
            obtain ⟨j12_0, hJ12, hR⟩ := q_b1 hR
            have hN12 : ∀ (H : Heap) (locs : List Loc) (ls : Array Slot), va_P D vwCl [oc_Model qa0 thrown_ volume_ share_ qnow qkept qbooks qkeptBooks layers_ qconductances qcapacities kilograms_ rows_ qrowDamps qrowWaters qtold qlows qhighs qrates hours_ qriskRows qlevels qpointsOf qsums rules_ qruleKinds qruleLevels qholds qalarms qalarmHours qvalues qchecked qrights, aI qruleKinds ca 4 ruleKinds_, aJ qnow ca 12 now_, aI qruleLevels ca 4 ruleLevels_, aI qalarms ca 4 alarms_L2, aI qalarmHours ca 1200 alarmHours_L2, aI qholds ca 4 holds_] H → va_D A [oc_Model qa0 thrown_ volume_ share_ qnow qkept qbooks qkeptBooks layers_ qconductances qcapacities kilograms_ rows_ qrowDamps qrowWaters qtold qlows qhighs qrates hours_ qriskRows qlevels qpointsOf qsums rules_ qruleKinds qruleLevels qholds qalarms qalarmHours qvalues qchecked qrights, aI qruleKinds ca 4 ruleKinds_, aJ qnow ca 12 now_, aI qruleLevels ca 4 ruleLevels_, aI qalarms ca 4 alarms_L2, aI qalarmHours ca 1200 alarmHours_L2, aI qholds ca 4 holds_] → va_S A s.heap H locs → lv_has ls 6 [(0, .ref qa0), (1, .int i1_2), (2, .long j4_0)] → W p l e rm_Model_ring s m ar below meth c H locs 0 0 Q (F0 m 80 ls [.int j12_0]) := by
              intro H locs ls hP hD hS hl
              cases hR
              exact hN8 _ _ _ hP hD hS (lv_sub hl [0, 1, 2] rfl)
            refine lv_if_le (tgt := 59) hx hb nd_Model_ring_52 (by decide) (fun c11 => ?_) (fun c11 => ?_)
            · have hR := q_p c11 hJ12
              refine lv_iconst (v := 0) hx hb nd_Model_ring_59 (by decide) ?_
              refine lv_goto (tgt := 80) hx hb nd_Model_ring_60 (by decide) ?_
              cases hR
              exact hN12 _ _ _ hP hD hS (lv_sub hl [1, 2, 0] rfl)
            · have hR := q_n c11 hJ12
              refine lv_iconst (v := 1) hx hb nd_Model_ring_55 (by decide) ?_
              refine lv_goto (tgt := 80) hx hb nd_Model_ring_56 (by decide) ?_
              cases hR
              exact hN12 _ _ _ hP hD hS (lv_sub hl [1, 2, 0] rfl)
        refine lv_icmp_ge (tgt := 27) hx hb nd_Model_ring_17 (by decide) (fun c3 => ?_) (fun c3 => ?_)
        · have hR := q_p c3 hJ4
          refine lv_aload_n hx hb nd_Model_ring_27 rfl (lv_at hl 0 rfl) ?_
          obtain ⟨r5, e5, hR⟩ := q_b1 hR
          refine k_rVJ (As := []) (rest := []) (r := r5) hx hb hml hown hts (cn_Model_dampNow l D ca qa0 qnow qkept qbooks qkeptBooks qconductances qcapacities qrowDamps qrowWaters qtold qlows qhighs qrates qriskRows qlevels qpointsOf qsums qruleKinds qruleLevels qholds qalarms qalarmHours qvalues qchecked qrights thrown_ volume_ share_ layers_ kilograms_ rows_ hours_ rules_ now_ r5 e5) kc_Model_dampNow kv_Model_dampNow tt_881 ⟨by decide, by decide⟩ rfl rfl hP hK [0, 2] rfl 0 rfl rfl rfl rfl hl.1 (Nat.le_of_ble_eq_true rfl) rfl nd_Model_ring_28 ⟨Nat.zero_le _, Nat.zero_le _⟩ ?_
          cases hR
          exact hN4 _ _ _ hP hD hS (lv_sub hl [0, 1] rfl)
        · have hR := q_n c3 hJ4
          refine lv_aload_n hx hb nd_Model_ring_20 rfl (lv_at hl 0 rfl) ?_
          obtain ⟨r6, e6, hR⟩ := q_b1 hR
          refine k_rVJ (As := []) (rest := []) (r := r6) hx hb hml hown hts (cn_Model_degreesNow l D ca qa0 qnow qkept qbooks qkeptBooks qconductances qcapacities qrowDamps qrowWaters qtold qlows qhighs qrates qriskRows qlevels qpointsOf qsums qruleKinds qruleLevels qholds qalarms qalarmHours qvalues qchecked qrights thrown_ volume_ share_ layers_ kilograms_ rows_ hours_ rules_ now_ r6 e6) kc_Model_degreesNow kv_Model_degreesNow tt_873 ⟨by decide, by decide⟩ rfl rfl hP hK [0, 2] rfl 0 rfl rfl rfl rfl hl.1 (Nat.le_of_ble_eq_true rfl) rfl nd_Model_ring_21 ⟨Nat.zero_le _, Nat.zero_le _⟩ ?_
          refine lv_goto (tgt := 31) hx hb nd_Model_ring_24 (by decide) ?_
          cases hR
          exact hN4 _ _ _ hP hD hS (lv_sub hl [0, 1] rfl)
  exact hL2 400 (0 : Int32) alarmHours_ alarms_ _ _ _ hR hP hD hS (lv_sub hl [1, 0] rfl)
def rm_Model_isOutside : Room := { frames := 2, cells := 0, slots := 0, locals := 42 }
theorem kc_Model_isOutside : k_cal nY_Model_isOutside nC_Model_isOutside 2 (some .boolean) 2 := ⟨tt_864, tt_10, by decide +kernel⟩
theorem ks_Model_isOutside : Cond.static nY_Model_isOutside ∈ TT := tt_863
set_option maxHeartbeats 4000000 in
set_option maxRecDepth 100000 in
theorem cn_Model_isOutside (l : Launch) (D : va_G) (ca : Nat → ClassId) (x0 : Int32) (x1 : Int32) (R0 : Int32) (hR : fn_Model_isOutside x0 x1 = some R0) : Met l nY_Model_isOutside (Cond.code nY_Model_isOutside nC_Model_isOutside 2 (some .boolean) :: TT) rm_Model_isOutside (rd_P [.int x0, .int x1] D ca []) (vp_Si (fun x => x = R0)) 0 0 (fun _ => False) := by
  refine rd_ofZ (by decide +kernel) (Nat.le_of_ble_eq_true rfl) ?_
  intro p e s m below meth c Q ar ls hx hb hml hts hown hP hK hl hret
  have hown : s.vm.findClass nR_Model = some m.cls := hown
  have hl : lv_has ls 2 [(0, .int x0), (1, .int x1)] := hl
  unfold fn_Model_isOutside at hR
  refine lv_iload_n hx hb nd_Model_isOutside_0 rfl (lv_at hl 0 rfl) ?_
  obtain ⟨r1, e1, hR⟩ := q_b1 hR
  refine k_rSI (As := [.int x0]) (rest := []) (r := r1) hx hb hml hown hts (cn_Model_isLevel l D ca x0 r1 e1) kc_Model_isLevel ks_Model_isLevel tt_853 ⟨by decide, by decide⟩ rfl rfl hP hK [] rfl rfl hl.1 (Nat.le_of_ble_eq_true rfl) rfl nd_Model_isOutside_1 ⟨Nat.zero_le _, Nat.zero_le _⟩ ?_
  obtain ⟨j3_0, hJ3, hR⟩ := q_b1 hR
  have hN3 : ∀ (ls : Array Slot), lv_has ls 2 [(0, .int x0), (1, .int x1)] → W p l e rm_Model_isOutside s m ar below meth c s.heap [] 0 0 Q (F0 m 22 ls [.int j3_0]) := by
    intro ls  hl
    obtain ⟨h7, hR⟩ := q_bz hR
    exact hret _ _ _ nd_Model_isOutside_22 h7 (Option.some.inj hR)
  refine lv_if_eq (tgt := 21) hx hb nd_Model_isOutside_4 (by decide) (fun c2 => ?_) (fun c2 => ?_)
  · have hR := q_p c2 hJ3
    refine lv_iconst (v := 0) hx hb nd_Model_isOutside_21 (by decide) ?_
    cases hR
    exact hN3 _  (lv_sub hl [0, 1] rfl)
  · have hR := q_n c2 hJ3
    refine lv_iload_n hx hb nd_Model_isOutside_7 rfl (lv_at hl 1 rfl) ?_
    refine lv_iconst (v := 0) hx hb nd_Model_isOutside_8 (by decide) ?_
    refine lv_ldc hx hb hown (hts _ tt_848) nd_Model_isOutside_9 ?_
    obtain ⟨r4, e4, hR⟩ := q_b1 hR
    refine k_rSI (As := [.int x1, .int (0 : Int32), .int (60000 : Int32)]) (rest := []) (r := r4) hx hb hml hown hts (cn_Model_within l D ca x1 (0 : Int32) (60000 : Int32) r4 e4) kc_Model_within ks_Model_within tt_828 ⟨by decide, by decide⟩ rfl rfl hP hK [] rfl rfl hl.1 (Nat.le_of_ble_eq_true rfl) rfl nd_Model_isOutside_11 ⟨Nat.zero_le _, Nat.zero_le _⟩ ?_
    obtain ⟨j6_0, hJ6, hR⟩ := q_b1 hR
    have hN6 : ∀ (ls : Array Slot), lv_has ls 2 [(0, .int x0), (1, .int x1)] → W p l e rm_Model_isOutside s m ar below meth c s.heap [] 0 0 Q (F0 m 22 ls [.int j6_0]) := by
      intro ls  hl
      cases hR
      exact hN3 _  (lv_sub hl [0, 1] rfl)
    refine lv_if_eq (tgt := 21) hx hb nd_Model_isOutside_14 (by decide) (fun c5 => ?_) (fun c5 => ?_)
    · have hR := q_p c5 hJ6
      refine lv_iconst (v := 0) hx hb nd_Model_isOutside_21 (by decide) ?_
      cases hR
      exact hN6 _  (lv_sub hl [0, 1] rfl)
    · have hR := q_n c5 hJ6
      refine lv_iconst (v := 1) hx hb nd_Model_isOutside_17 (by decide) ?_
      refine lv_goto (tgt := 22) hx hb nd_Model_isOutside_18 (by decide) ?_
      cases hR
      exact hN6 _  (lv_sub hl [0, 1] rfl)
def rm_Model_hour : Room := { frames := 5, cells := 0, slots := 0, locals := 115 }
theorem kc_Model_hour : k_cal nY_Model_hour nC_Model_hour 4 (some .int) 3 := ⟨tt_861, tt_10, by decide +kernel⟩
theorem kv_Model_hour : k_vir nY_Model_hour := ⟨tt_859, tt_860⟩
set_option maxHeartbeats 4000000 in
set_option maxRecDepth 100000 in
theorem cn_Model_hour (l : Launch) (D : va_G) (ca : Nat → ClassId) (qa0 qnow qkept qbooks qkeptBooks qconductances qcapacities qrowDamps qrowWaters qtold qlows qhighs qrates qriskRows qlevels qpointsOf qsums qruleKinds qruleLevels qholds qalarms qalarmHours qvalues qchecked qrights : Nat) (thrown_ : Int32) (volume_ : Int32) (share_ : Int32) (layers_ : Int32) (kilograms_ : Int32) (rows_ : Int32) (hours_ : Int32) (rules_ : Int32) (now_ : Nat → Int64) (books_ : Nat → Int64) (conductances_ : Nat → Int32) (capacities_ : Nat → Int32) (rowWaters_ : Nat → Int32) (rowDamps_ : Nat → Int32) (highs_ : Nat → Int32) (lows_ : Nat → Int32) (told_ : Nat → Int32) (rates_ : Nat → Int32) (riskRows_ : Nat → Int32) (sums_ : Nat → Int32) (levels_ : Nat → Int32) (pointsOf_ : Nat → Int32) (ruleKinds_ : Nat → Int32) (ruleLevels_ : Nat → Int32) (alarms_ : Nat → Int32) (alarmHours_ : Nat → Int32) (holds_ : Nat → Int32) (x1 : Int32) (x2 : Int32) (x3 : Int32) (R0 : Int32) (R1 : Int32) (R2 : Nat → Int64) (R3 : Nat → Int64) (R4 : Nat → Int32) (R5 : Nat → Int32) (R6 : Nat → Int32) (R7 : Int32) (hR : fn_Model_hour volume_ share_ layers_ kilograms_ rows_ hours_ rules_ now_ books_ conductances_ capacities_ rowWaters_ rowDamps_ highs_ lows_ told_ rates_ riskRows_ sums_ levels_ pointsOf_ ruleKinds_ ruleLevels_ alarms_ alarmHours_ holds_ x1 x2 x3 = some (R0, R1, R2, R3, R4, R5, R6, R7)) (sz : Nat) : Met l nY_Model_hour (Cond.code nY_Model_hour nC_Model_hour 4 (some .int) :: TT) rm_Model_hour (wr_P [.ref qa0, .int x1, .int x2, .int x3] D ca [oc_Model qa0 thrown_ volume_ share_ qnow qkept qbooks qkeptBooks layers_ qconductances qcapacities kilograms_ rows_ qrowDamps qrowWaters qtold qlows qhighs qrates hours_ qriskRows qlevels qpointsOf qsums rules_ qruleKinds qruleLevels qholds qalarms qalarmHours qvalues qchecked qrights, aJ qnow ca 12 now_, aJ qbooks ca 10 books_, aI qconductances ca 5 conductances_, aI qcapacities ca 5 capacities_, aI qrowWaters ca 6 rowWaters_, aI qrowDamps ca 6 rowDamps_, aI qhighs ca 4 highs_, aI qlows ca 4 lows_, aZ qtold ca 4 told_, aI qrates ca 4 rates_, aI qriskRows ca 4 riskRows_, aI qsums ca 4 sums_, aI qlevels ca 20 levels_, aI qpointsOf ca 20 pointsOf_, aI qruleKinds ca 4 ruleKinds_, aI qruleLevels ca 4 ruleLevels_, aI qalarms ca 4 alarms_, aI qalarmHours ca 1200 alarmHours_, aI qholds ca 4 holds_] sz) (va_Qi (fun x (_ : Unit) => x = R0) (wr_B D [oc_Model qa0 thrown_ volume_ share_ qnow qkept qbooks qkeptBooks layers_ qconductances qcapacities kilograms_ rows_ qrowDamps qrowWaters qtold qlows qhighs qrates hours_ qriskRows qlevels qpointsOf qsums rules_ qruleKinds qruleLevels qholds qalarms qalarmHours qvalues qchecked qrights, aJ qnow ca 12 now_, aJ qbooks ca 10 books_, aI qconductances ca 5 conductances_, aI qcapacities ca 5 capacities_, aI qrowWaters ca 6 rowWaters_, aI qrowDamps ca 6 rowDamps_, aI qhighs ca 4 highs_, aI qlows ca 4 lows_, aZ qtold ca 4 told_, aI qrates ca 4 rates_, aI qriskRows ca 4 riskRows_, aI qsums ca 4 sums_, aI qlevels ca 20 levels_, aI qpointsOf ca 20 pointsOf_, aI qruleKinds ca 4 ruleKinds_, aI qruleLevels ca 4 ruleLevels_, aI qalarms ca 4 alarms_, aI qalarmHours ca 1200 alarmHours_, aI qholds ca 4 holds_] sz [oc_Model qa0 R1 volume_ share_ qnow qkept qbooks qkeptBooks layers_ qconductances qcapacities kilograms_ rows_ qrowDamps qrowWaters qtold qlows qhighs qrates R7 qriskRows qlevels qpointsOf qsums rules_ qruleKinds qruleLevels qholds qalarms qalarmHours qvalues qchecked qrights, aJ qnow ca 12 R2, aJ qbooks ca 10 R3, aI qconductances ca 5 conductances_, aI qcapacities ca 5 capacities_, aI qrowWaters ca 6 rowWaters_, aI qrowDamps ca 6 rowDamps_, aI qhighs ca 4 highs_, aI qlows ca 4 lows_, aZ qtold ca 4 told_, aI qrates ca 4 rates_, aI qriskRows ca 4 riskRows_, aI qsums ca 4 R4, aI qlevels ca 20 levels_, aI qpointsOf ca 20 pointsOf_, aI qruleKinds ca 4 ruleKinds_, aI qruleLevels ca 4 ruleLevels_, aI qalarms ca 4 R6, aI qalarmHours ca 1200 R5, aI qholds ca 4 holds_]) (va_A [oc_Model qa0 thrown_ volume_ share_ qnow qkept qbooks qkeptBooks layers_ qconductances qcapacities kilograms_ rows_ qrowDamps qrowWaters qtold qlows qhighs qrates hours_ qriskRows qlevels qpointsOf qsums rules_ qruleKinds qruleLevels qholds qalarms qalarmHours qvalues qchecked qrights, aJ qnow ca 12 now_, aJ qbooks ca 10 books_, aI qconductances ca 5 conductances_, aI qcapacities ca 5 capacities_, aI qrowWaters ca 6 rowWaters_, aI qrowDamps ca 6 rowDamps_, aI qhighs ca 4 highs_, aI qlows ca 4 lows_, aZ qtold ca 4 told_, aI qrates ca 4 rates_, aI qriskRows ca 4 riskRows_, aI qsums ca 4 sums_, aI qlevels ca 20 levels_, aI qpointsOf ca 20 pointsOf_, aI qruleKinds ca 4 ruleKinds_, aI qruleLevels ca 4 ruleLevels_, aI qalarms ca 4 alarms_, aI qalarmHours ca 1200 alarmHours_, aI qholds ca 4 holds_] sz)) 0 0 (va_A [oc_Model qa0 thrown_ volume_ share_ qnow qkept qbooks qkeptBooks layers_ qconductances qcapacities kilograms_ rows_ qrowDamps qrowWaters qtold qlows qhighs qrates hours_ qriskRows qlevels qpointsOf qsums rules_ qruleKinds qruleLevels qholds qalarms qalarmHours qvalues qchecked qrights, aJ qnow ca 12 now_, aJ qbooks ca 10 books_, aI qconductances ca 5 conductances_, aI qcapacities ca 5 capacities_, aI qrowWaters ca 6 rowWaters_, aI qrowDamps ca 6 rowDamps_, aI qhighs ca 4 highs_, aI qlows ca 4 lows_, aZ qtold ca 4 told_, aI qrates ca 4 rates_, aI qriskRows ca 4 riskRows_, aI qsums ca 4 sums_, aI qlevels ca 20 levels_, aI qpointsOf ca 20 pointsOf_, aI qruleKinds ca 4 ruleKinds_, aI qruleLevels ca 4 ruleLevels_, aI qalarms ca 4 alarms_, aI qalarmHours ca 1200 alarmHours_, aI qholds ca 4 holds_] sz) := by
  refine wr_ofI (R := (R0, R1, R2, R3, R4, R5, R6, R7)) (val := fun r => r.1) (w1 := fun r : Int32 × Int32 × (Nat → Int64) × (Nat → Int64) × (Nat → Int32) × (Nat → Int32) × (Nat → Int32) × Int32 => [oc_Model qa0 r.2.1 volume_ share_ qnow qkept qbooks qkeptBooks layers_ qconductances qcapacities kilograms_ rows_ qrowDamps qrowWaters qtold qlows qhighs qrates r.2.2.2.2.2.2.2 qriskRows qlevels qpointsOf qsums rules_ qruleKinds qruleLevels qholds qalarms qalarmHours qvalues qchecked qrights, aJ qnow ca 12 r.2.2.1, aJ qbooks ca 10 r.2.2.2.1, aI qconductances ca 5 conductances_, aI qcapacities ca 5 capacities_, aI qrowWaters ca 6 rowWaters_, aI qrowDamps ca 6 rowDamps_, aI qhighs ca 4 highs_, aI qlows ca 4 lows_, aZ qtold ca 4 told_, aI qrates ca 4 rates_, aI qriskRows ca 4 riskRows_, aI qsums ca 4 r.2.2.2.2.1, aI qlevels ca 20 levels_, aI qpointsOf ca 20 pointsOf_, aI qruleKinds ca 4 ruleKinds_, aI qruleLevels ca 4 ruleLevels_, aI qalarms ca 4 r.2.2.2.2.2.2.1, aI qalarmHours ca 1200 r.2.2.2.2.2.1, aI qholds ca 4 holds_]) (by decide +kernel) (Nat.le_of_ble_eq_true rfl) ?_
  intro p e s m below meth c Q ar ls hx hb hml hts hown hP hK A hD hA hl hret
  have hS : va_S A s.heap s.heap [] := va_S.rf
  have hown : s.vm.findClass nR_Model = some m.cls := hown
  have hl : lv_has ls 4 [(0, .ref qa0), (1, .int x1), (2, .int x2), (3, .int x3)] := hl
  unfold fn_Model_hour at hR
  refine lv_aload_n hx hb nd_Model_hour_0 rfl (lv_at hl 0 rfl) ?_
  refine lv_aload_n hx hb nd_Model_hour_1 rfl (lv_at hl 0 rfl) ?_
  refine va_get (D := D) (ci := 9) (v := .int hours_) (C := nR_Model) (T := nT_Model) (N := 32) hx hb hts ni_Model hown hK hP 0 rfl rfl 18 (by decide) (hts (.fieldLink nR_Model 172 "RoomClimateModel" "hours" "I") tt_741) (fun _ h9 => h9) rfl nd_Model_hour_2 ?_
  refine lv_sipush (v := 300) hx hb nd_Model_hour_5 (by decide) ?_
  obtain ⟨j2_0, hJ2, hR⟩ := q_b1 hR
  have hN2 : ∀ (H : Heap) (locs : List Loc) (ls : Array Slot), va_P D vwCl [oc_Model qa0 thrown_ volume_ share_ qnow qkept qbooks qkeptBooks layers_ qconductances qcapacities kilograms_ rows_ qrowDamps qrowWaters qtold qlows qhighs qrates hours_ qriskRows qlevels qpointsOf qsums rules_ qruleKinds qruleLevels qholds qalarms qalarmHours qvalues qchecked qrights, aJ qnow ca 12 now_, aJ qbooks ca 10 books_, aI qconductances ca 5 conductances_, aI qcapacities ca 5 capacities_, aI qrowWaters ca 6 rowWaters_, aI qrowDamps ca 6 rowDamps_, aI qhighs ca 4 highs_, aI qlows ca 4 lows_, aZ qtold ca 4 told_, aI qrates ca 4 rates_, aI qriskRows ca 4 riskRows_, aI qsums ca 4 sums_, aI qlevels ca 20 levels_, aI qpointsOf ca 20 pointsOf_, aI qruleKinds ca 4 ruleKinds_, aI qruleLevels ca 4 ruleLevels_, aI qalarms ca 4 alarms_, aI qalarmHours ca 1200 alarmHours_, aI qholds ca 4 holds_] H → va_D A [oc_Model qa0 thrown_ volume_ share_ qnow qkept qbooks qkeptBooks layers_ qconductances qcapacities kilograms_ rows_ qrowDamps qrowWaters qtold qlows qhighs qrates hours_ qriskRows qlevels qpointsOf qsums rules_ qruleKinds qruleLevels qholds qalarms qalarmHours qvalues qchecked qrights, aJ qnow ca 12 now_, aJ qbooks ca 10 books_, aI qconductances ca 5 conductances_, aI qcapacities ca 5 capacities_, aI qrowWaters ca 6 rowWaters_, aI qrowDamps ca 6 rowDamps_, aI qhighs ca 4 highs_, aI qlows ca 4 lows_, aZ qtold ca 4 told_, aI qrates ca 4 rates_, aI qriskRows ca 4 riskRows_, aI qsums ca 4 sums_, aI qlevels ca 20 levels_, aI qpointsOf ca 20 pointsOf_, aI qruleKinds ca 4 ruleKinds_, aI qruleLevels ca 4 ruleLevels_, aI qalarms ca 4 alarms_, aI qalarmHours ca 1200 alarmHours_, aI qholds ca 4 holds_] → va_S A s.heap H locs → lv_has ls 4 [(0, .ref qa0), (1, .int x1), (2, .int x2), (3, .int x3)] → W p l e rm_Model_hour s m ar below meth c H locs 0 0 Q (F0 m 16 ls [.int j2_0, .ref qa0]) := by
    intro H locs ls hP hD hS hl
    refine lv_iload_n hx hb nd_Model_hour_16 rfl (lv_at hl 1 rfl) ?_
    refine lv_iload_n hx hb nd_Model_hour_17 rfl (lv_at hl 2 rfl) ?_
    obtain ⟨r3, e3, hR⟩ := q_b1 hR
    refine k_rSI (As := [.int x1, .int x2]) (rest := [.int j2_0, .ref qa0]) (r := r3) hx hb hml hown hts (cn_Model_isOutside l D ca x1 x2 r3 e3) kc_Model_isOutside ks_Model_isOutside tt_862 ⟨by decide, by decide⟩ rfl rfl hP hK [] rfl rfl hl.1 (Nat.le_of_ble_eq_true rfl) rfl nd_Model_hour_18 ⟨Nat.zero_le _, Nat.zero_le _⟩ ?_
    obtain ⟨j5_0, hJ5, hR⟩ := q_b1 hR
    have hN5 : ∀ (H : Heap) (locs : List Loc) (ls : Array Slot), va_P D vwCl [oc_Model qa0 thrown_ volume_ share_ qnow qkept qbooks qkeptBooks layers_ qconductances qcapacities kilograms_ rows_ qrowDamps qrowWaters qtold qlows qhighs qrates hours_ qriskRows qlevels qpointsOf qsums rules_ qruleKinds qruleLevels qholds qalarms qalarmHours qvalues qchecked qrights, aJ qnow ca 12 now_, aJ qbooks ca 10 books_, aI qconductances ca 5 conductances_, aI qcapacities ca 5 capacities_, aI qrowWaters ca 6 rowWaters_, aI qrowDamps ca 6 rowDamps_, aI qhighs ca 4 highs_, aI qlows ca 4 lows_, aZ qtold ca 4 told_, aI qrates ca 4 rates_, aI qriskRows ca 4 riskRows_, aI qsums ca 4 sums_, aI qlevels ca 20 levels_, aI qpointsOf ca 20 pointsOf_, aI qruleKinds ca 4 ruleKinds_, aI qruleLevels ca 4 ruleLevels_, aI qalarms ca 4 alarms_, aI qalarmHours ca 1200 alarmHours_, aI qholds ca 4 holds_] H → va_D A [oc_Model qa0 thrown_ volume_ share_ qnow qkept qbooks qkeptBooks layers_ qconductances qcapacities kilograms_ rows_ qrowDamps qrowWaters qtold qlows qhighs qrates hours_ qriskRows qlevels qpointsOf qsums rules_ qruleKinds qruleLevels qholds qalarms qalarmHours qvalues qchecked qrights, aJ qnow ca 12 now_, aJ qbooks ca 10 books_, aI qconductances ca 5 conductances_, aI qcapacities ca 5 capacities_, aI qrowWaters ca 6 rowWaters_, aI qrowDamps ca 6 rowDamps_, aI qhighs ca 4 highs_, aI qlows ca 4 lows_, aZ qtold ca 4 told_, aI qrates ca 4 rates_, aI qriskRows ca 4 riskRows_, aI qsums ca 4 sums_, aI qlevels ca 20 levels_, aI qpointsOf ca 20 pointsOf_, aI qruleKinds ca 4 ruleKinds_, aI qruleLevels ca 4 ruleLevels_, aI qalarms ca 4 alarms_, aI qalarmHours ca 1200 alarmHours_, aI qholds ca 4 holds_] → va_S A s.heap H locs → lv_has ls 4 [(0, .ref qa0), (1, .int x1), (2, .int x2), (3, .int x3)] → W p l e rm_Model_hour s m ar below meth c H locs 0 0 Q (F0 m 39 ls [.int j5_0, .int j2_0, .ref qa0]) := by
      intro H locs ls hP hD hS hl
      refine lv_iconst (v := 1) hx hb nd_Model_hour_39 (by decide) ?_
      obtain ⟨r9, u9_0, e9, hR⟩ := q_b2 hR
      refine k_wVI (wr := [aJ qnow ca 12 now_, aJ qbooks ca 10 books_, aI qconductances ca 5 conductances_, aI qcapacities ca 5 capacities_, aI qrowWaters ca 6 rowWaters_, aI qrowDamps ca 6 rowDamps_, aI qhighs ca 4 highs_, aI qlows ca 4 lows_, aZ qtold ca 4 told_, aI qrates ca 4 rates_, aI qriskRows ca 4 riskRows_, aI qsums ca 4 sums_, aI qlevels ca 20 levels_, aI qpointsOf ca 20 pointsOf_, aI qruleKinds ca 4 ruleKinds_, aI qruleLevels ca 4 ruleLevels_, aI qalarms ca 4 alarms_, aI qalarmHours ca 1200 alarmHours_, aI qholds ca 4 holds_]) (w2 := [oc_Model qa0 u9_0 volume_ share_ qnow qkept qbooks qkeptBooks layers_ qconductances qcapacities kilograms_ rows_ qrowDamps qrowWaters qtold qlows qhighs qrates hours_ qriskRows qlevels qpointsOf qsums rules_ qruleKinds qruleLevels qholds qalarms qalarmHours qvalues qchecked qrights, aJ qnow ca 12 now_, aJ qbooks ca 10 books_, aI qconductances ca 5 conductances_, aI qcapacities ca 5 capacities_, aI qrowWaters ca 6 rowWaters_, aI qrowDamps ca 6 rowDamps_, aI qhighs ca 4 highs_, aI qlows ca 4 lows_, aZ qtold ca 4 told_, aI qrates ca 4 rates_, aI qriskRows ca 4 riskRows_, aI qsums ca 4 sums_, aI qlevels ca 20 levels_, aI qpointsOf ca 20 pointsOf_, aI qruleKinds ca 4 ruleKinds_, aI qruleLevels ca 4 ruleLevels_, aI qalarms ca 4 alarms_, aI qalarmHours ca 1200 alarmHours_, aI qholds ca 4 holds_]) (As := [.int j2_0, .int j5_0, .int (1 : Int32)]) (rest := []) (r := r9) hx hb hml hown hts (cn_Model_goes l D ca qa0 qnow qkept qbooks qkeptBooks qconductances qcapacities qrowDamps qrowWaters qtold qlows qhighs qrates qriskRows qlevels qpointsOf qsums qruleKinds qruleLevels qholds qalarms qalarmHours qvalues qchecked qrights thrown_ volume_ share_ layers_ kilograms_ rows_ hours_ rules_ j2_0 j5_0 (1 : Int32) r9 u9_0 e9 _) kc_Model_goes kv_Model_goes tt_831 ⟨by decide, by decide⟩ rfl rfl hP hK hD hS hA [0] [1, 2, 3, 4, 5, 6, 7, 8, 9, 10, 11, 12, 13, 14, 15, 16, 17, 18, 19] [19, 0, 1, 2, 3, 4, 5, 6, 7, 8, 9, 10, 11, 12, 13, 14, 15, 16, 17, 18] rfl (by decide) rfl (by decide) (by decide) rfl (by decide) 0 rfl rfl rfl rfl hl.1 (Nat.le_of_ble_eq_true rfl) rfl nd_Model_hour_40 ⟨Nat.zero_le _, Nat.zero_le _⟩ (fun H locs hP hD hS => ?_)
      refine lv_if_ne (tgt := 48) hx hb nd_Model_hour_43 (by decide) (fun c10 => ?_) (fun c10 => ?_)
      · replace hR := q_n c10 hR
        refine lv_aload_n hx hb nd_Model_hour_48 rfl (lv_at hl 0 rfl) ?_
        refine lv_iload_n hx hb nd_Model_hour_49 rfl (lv_at hl 1 rfl) ?_
        refine lv_iload_n hx hb nd_Model_hour_50 rfl (lv_at hl 2 rfl) ?_
        refine lv_iload_n hx hb nd_Model_hour_51 rfl (lv_at hl 3 rfl) ?_
        obtain ⟨r11, u11_0, u11_1, e11, hR⟩ := q_b3 hR
        refine k_wVJ (wr := [aI qriskRows ca 4 riskRows_, aI qsums ca 4 sums_, aI qlevels ca 20 levels_, aI qpointsOf ca 20 pointsOf_, aI qruleKinds ca 4 ruleKinds_, aI qruleLevels ca 4 ruleLevels_, aI qalarms ca 4 alarms_, aI qalarmHours ca 1200 alarmHours_, aI qholds ca 4 holds_]) (w2 := [oc_Model qa0 u9_0 volume_ share_ qnow qkept qbooks qkeptBooks layers_ qconductances qcapacities kilograms_ rows_ qrowDamps qrowWaters qtold qlows qhighs qrates hours_ qriskRows qlevels qpointsOf qsums rules_ qruleKinds qruleLevels qholds qalarms qalarmHours qvalues qchecked qrights, aJ qnow ca 12 u11_0, aJ qbooks ca 10 u11_1, aI qconductances ca 5 conductances_, aI qcapacities ca 5 capacities_, aI qrowWaters ca 6 rowWaters_, aI qrowDamps ca 6 rowDamps_, aI qhighs ca 4 highs_, aI qlows ca 4 lows_, aZ qtold ca 4 told_, aI qrates ca 4 rates_, aI qriskRows ca 4 riskRows_, aI qsums ca 4 sums_, aI qlevels ca 20 levels_, aI qpointsOf ca 20 pointsOf_, aI qruleKinds ca 4 ruleKinds_, aI qruleLevels ca 4 ruleLevels_, aI qalarms ca 4 alarms_, aI qalarmHours ca 1200 alarmHours_, aI qholds ca 4 holds_]) (As := [.int x1, .int x2, .int x3]) (rest := []) (r := r11) hx hb hml hown hts (cn_Model_goBy l D ca qa0 qnow qkept qbooks qkeptBooks qconductances qcapacities qrowDamps qrowWaters qtold qlows qhighs qrates qriskRows qlevels qpointsOf qsums qruleKinds qruleLevels qholds qalarms qalarmHours qvalues qchecked qrights u9_0 volume_ share_ layers_ kilograms_ rows_ hours_ rules_ now_ books_ conductances_ capacities_ rowWaters_ rowDamps_ highs_ lows_ told_ rates_ x1 x2 x3 r11 u11_0 u11_1 e11 _) kc_Model_goBy kv_Model_goBy tt_865 ⟨by decide, by decide⟩ rfl rfl hP hK hD hS hA [0, 1, 2, 3, 4, 5, 6, 7, 8, 9, 10] [11, 12, 13, 14, 15, 16, 17, 18, 19] [9, 10, 11, 12, 13, 14, 15, 16, 17, 18, 19, 0, 1, 2, 3, 4, 5, 6, 7, 8] rfl (by decide) rfl (by decide) (by decide) rfl (by decide) 0 rfl rfl rfl rfl hl.1 (Nat.le_of_ble_eq_true rfl) rfl nd_Model_hour_52 ⟨Nat.zero_le _, Nat.zero_le _⟩ (fun H locs hP hD hS => ?_)
        refine lv_pop2_2 hx hb nd_Model_hour_55 rfl ?_
        refine lv_aload_n hx hb nd_Model_hour_56 rfl (lv_at hl 0 rfl) ?_
        obtain ⟨u12_0, e12, hR⟩ := q_b1 hR
        refine k_wVV (wr := [aJ qbooks ca 10 u11_1, aI qconductances ca 5 conductances_, aI qcapacities ca 5 capacities_, aI qrowWaters ca 6 rowWaters_, aI qrowDamps ca 6 rowDamps_, aI qhighs ca 4 highs_, aI qlows ca 4 lows_, aZ qtold ca 4 told_, aI qrates ca 4 rates_, aI qruleKinds ca 4 ruleKinds_, aI qruleLevels ca 4 ruleLevels_, aI qalarms ca 4 alarms_, aI qalarmHours ca 1200 alarmHours_, aI qholds ca 4 holds_]) (w2 := [oc_Model qa0 u9_0 volume_ share_ qnow qkept qbooks qkeptBooks layers_ qconductances qcapacities kilograms_ rows_ qrowDamps qrowWaters qtold qlows qhighs qrates hours_ qriskRows qlevels qpointsOf qsums rules_ qruleKinds qruleLevels qholds qalarms qalarmHours qvalues qchecked qrights, aJ qnow ca 12 u11_0, aJ qbooks ca 10 u11_1, aI qconductances ca 5 conductances_, aI qcapacities ca 5 capacities_, aI qrowWaters ca 6 rowWaters_, aI qrowDamps ca 6 rowDamps_, aI qhighs ca 4 highs_, aI qlows ca 4 lows_, aZ qtold ca 4 told_, aI qrates ca 4 rates_, aI qriskRows ca 4 riskRows_, aI qsums ca 4 u12_0, aI qlevels ca 20 levels_, aI qpointsOf ca 20 pointsOf_, aI qruleKinds ca 4 ruleKinds_, aI qruleLevels ca 4 ruleLevels_, aI qalarms ca 4 alarms_, aI qalarmHours ca 1200 alarmHours_, aI qholds ca 4 holds_]) (As := []) (rest := []) hx hb hml hown hts (cn_Model_addPoints l D ca qa0 qnow qkept qbooks qkeptBooks qconductances qcapacities qrowDamps qrowWaters qtold qlows qhighs qrates qriskRows qlevels qpointsOf qsums qruleKinds qruleLevels qholds qalarms qalarmHours qvalues qchecked qrights u9_0 volume_ share_ layers_ kilograms_ rows_ hours_ rules_ u11_0 riskRows_ sums_ levels_ pointsOf_ u12_0 e12 _) kc_Model_addPoints kv_Model_addPoints tt_912 ⟨by decide, by decide⟩ rfl rfl hP hK hD hS hA [0, 1, 11, 12, 13, 14] [2, 3, 4, 5, 6, 7, 8, 9, 10, 15, 16, 17, 18, 19] [14, 15, 0, 1, 2, 3, 4, 5, 6, 7, 8, 16, 17, 18, 19, 9, 10, 11, 12, 13] rfl (by decide) rfl (by decide) (by decide) rfl (by decide) 0 rfl rfl rfl rfl hl.1 (Nat.le_of_ble_eq_true rfl) rfl nd_Model_hour_57 ⟨Nat.zero_le _, Nat.zero_le _⟩ (fun H locs hP hD hS => ?_)
        refine lv_aload_n hx hb nd_Model_hour_60 rfl (lv_at hl 0 rfl) ?_
        obtain ⟨u13_0, u13_1, e13, hR⟩ := q_b2 hR
        refine k_wVV (wr := [aJ qbooks ca 10 u11_1, aI qconductances ca 5 conductances_, aI qcapacities ca 5 capacities_, aI qrowWaters ca 6 rowWaters_, aI qrowDamps ca 6 rowDamps_, aI qhighs ca 4 highs_, aI qlows ca 4 lows_, aZ qtold ca 4 told_, aI qrates ca 4 rates_, aI qriskRows ca 4 riskRows_, aI qsums ca 4 u12_0, aI qlevels ca 20 levels_, aI qpointsOf ca 20 pointsOf_]) (w2 := [oc_Model qa0 u9_0 volume_ share_ qnow qkept qbooks qkeptBooks layers_ qconductances qcapacities kilograms_ rows_ qrowDamps qrowWaters qtold qlows qhighs qrates hours_ qriskRows qlevels qpointsOf qsums rules_ qruleKinds qruleLevels qholds qalarms qalarmHours qvalues qchecked qrights, aJ qnow ca 12 u11_0, aJ qbooks ca 10 u11_1, aI qconductances ca 5 conductances_, aI qcapacities ca 5 capacities_, aI qrowWaters ca 6 rowWaters_, aI qrowDamps ca 6 rowDamps_, aI qhighs ca 4 highs_, aI qlows ca 4 lows_, aZ qtold ca 4 told_, aI qrates ca 4 rates_, aI qriskRows ca 4 riskRows_, aI qsums ca 4 u12_0, aI qlevels ca 20 levels_, aI qpointsOf ca 20 pointsOf_, aI qruleKinds ca 4 ruleKinds_, aI qruleLevels ca 4 ruleLevels_, aI qalarms ca 4 u13_1, aI qalarmHours ca 1200 u13_0, aI qholds ca 4 holds_]) (As := []) (rest := []) hx hb hml hown hts (cn_Model_ring l D ca qa0 qnow qkept qbooks qkeptBooks qconductances qcapacities qrowDamps qrowWaters qtold qlows qhighs qrates qriskRows qlevels qpointsOf qsums qruleKinds qruleLevels qholds qalarms qalarmHours qvalues qchecked qrights u9_0 volume_ share_ layers_ kilograms_ rows_ hours_ rules_ ruleKinds_ u11_0 ruleLevels_ alarms_ alarmHours_ holds_ u13_0 u13_1 e13 _) kc_Model_ring kv_Model_ring tt_916 ⟨by decide, by decide⟩ rfl rfl hP hK hD hS hA [0, 15, 1, 16, 17, 18, 19] [2, 3, 4, 5, 6, 7, 8, 9, 10, 11, 12, 13, 14] [13, 15, 0, 1, 2, 3, 4, 5, 6, 7, 8, 9, 10, 11, 12, 14, 16, 17, 18, 19] rfl (by decide) rfl (by decide) (by decide) rfl (by decide) 0 rfl rfl rfl rfl hl.1 (Nat.le_of_ble_eq_true rfl) rfl nd_Model_hour_61 ⟨Nat.zero_le _, Nat.zero_le _⟩ (fun H locs hP hD hS => ?_)
        refine lv_aload_n hx hb nd_Model_hour_64 rfl (lv_at hl 0 rfl) ?_
        refine lv_dup hx hb nd_Model_hour_65 rfl ?_
        refine va_get (D := D) (ci := 9) (v := .int hours_) (C := nR_Model) (T := nT_Model) (N := 32) hx hb hts ni_Model hown hK hP 0 rfl rfl 18 (by decide) (hts (.fieldLink nR_Model 172 "RoomClimateModel" "hours" "I") tt_741) (fun _ h9 => h9) rfl nd_Model_hour_66 ?_
        refine lv_iconst (v := 1) hx hb nd_Model_hour_69 (by decide) ?_
        refine lv_iadd hx hb nd_Model_hour_70 ?_
        refine va_put (D := D) (ci := 9) (v := .int (hours_ + (1 : Int32))) (ty := .int) (C := nR_Model) (T := nT_Model) (N := 32) hx hb hts ni_Model nt_Model nt_Model_ok nn_Model hown hK hP hD hS 0 rfl rfl 18 (by decide) (hts (.fieldLink nR_Model 172 "RoomClimateModel" "hours" "I") tt_741) (fun _ h9 => h9) rfl (by decide +kernel) rfl rfl (Nat.le_of_ble_eq_true rfl) nd_Model_hour_71 (fun H locs hP hD hS => ?_)
        have hP : va_P D vwCl [oc_Model qa0 u9_0 volume_ share_ qnow qkept qbooks qkeptBooks layers_ qconductances qcapacities kilograms_ rows_ qrowDamps qrowWaters qtold qlows qhighs qrates (hours_ + (1 : Int32)) qriskRows qlevels qpointsOf qsums rules_ qruleKinds qruleLevels qholds qalarms qalarmHours qvalues qchecked qrights, aJ qnow ca 12 u11_0, aJ qbooks ca 10 u11_1, aI qconductances ca 5 conductances_, aI qcapacities ca 5 capacities_, aI qrowWaters ca 6 rowWaters_, aI qrowDamps ca 6 rowDamps_, aI qhighs ca 4 highs_, aI qlows ca 4 lows_, aZ qtold ca 4 told_, aI qrates ca 4 rates_, aI qriskRows ca 4 riskRows_, aI qsums ca 4 u12_0, aI qlevels ca 20 levels_, aI qpointsOf ca 20 pointsOf_, aI qruleKinds ca 4 ruleKinds_, aI qruleLevels ca 4 ruleLevels_, aI qalarms ca 4 u13_1, aI qalarmHours ca 1200 u13_0, aI qholds ca 4 holds_] H := hP
        have hD : va_D A [oc_Model qa0 u9_0 volume_ share_ qnow qkept qbooks qkeptBooks layers_ qconductances qcapacities kilograms_ rows_ qrowDamps qrowWaters qtold qlows qhighs qrates (hours_ + (1 : Int32)) qriskRows qlevels qpointsOf qsums rules_ qruleKinds qruleLevels qholds qalarms qalarmHours qvalues qchecked qrights, aJ qnow ca 12 u11_0, aJ qbooks ca 10 u11_1, aI qconductances ca 5 conductances_, aI qcapacities ca 5 capacities_, aI qrowWaters ca 6 rowWaters_, aI qrowDamps ca 6 rowDamps_, aI qhighs ca 4 highs_, aI qlows ca 4 lows_, aZ qtold ca 4 told_, aI qrates ca 4 rates_, aI qriskRows ca 4 riskRows_, aI qsums ca 4 u12_0, aI qlevels ca 20 levels_, aI qpointsOf ca 20 pointsOf_, aI qruleKinds ca 4 ruleKinds_, aI qruleLevels ca 4 ruleLevels_, aI qalarms ca 4 u13_1, aI qalarmHours ca 1200 u13_0, aI qholds ca 4 holds_] := hD
        refine lv_aload_n hx hb nd_Model_hour_74 rfl (lv_at hl 0 rfl) ?_
        refine va_get (D := D) (ci := 9) (v := .int (hours_ + (1 : Int32))) (C := nR_Model) (T := nT_Model) (N := 32) hx hb hts ni_Model hown hK hP 0 rfl rfl 18 (by decide) (hts (.fieldLink nR_Model 172 "RoomClimateModel" "hours" "I") tt_741) (fun _ h9 => h9) rfl nd_Model_hour_75 ?_
        refine lv_iconst (v := 1) hx hb nd_Model_hour_78 (by decide) ?_
        refine lv_isub hx hb nd_Model_hour_79 ?_
        exact hret ((hours_ + (1 : Int32)) - (1 : Int32), u9_0, u11_0, u11_1, u12_0, u13_0, u13_1, hours_ + (1 : Int32)) _ _ _ _ nd_Model_hour_80 hR hP hD hS
      · replace hR := q_p c10 hR
        refine lv_iconst (v := 0) hx hb nd_Model_hour_46 (by decide) ?_
        exact hret ((0 : Int32), u9_0, now_, books_, sums_, alarmHours_, alarms_, hours_) _ _ _ _ nd_Model_hour_47 hR hP hD hS
    refine lv_if_eq (tgt := 38) hx hb nd_Model_hour_21 (by decide) (fun c4 => ?_) (fun c4 => ?_)
    · have hR := q_p c4 hJ5
      refine lv_iconst (v := 0) hx hb nd_Model_hour_38 (by decide) ?_
      cases hR
      exact hN5 _ _ _ hP hD hS (lv_sub hl [0, 1, 2, 3] rfl)
    · have hR := q_n c4 hJ5
      refine lv_iload_n hx hb nd_Model_hour_24 rfl (lv_at hl 3 rfl) ?_
      refine lv_iconst (v := 0) hx hb nd_Model_hour_25 (by decide) ?_
      refine lv_bipush (v := 99) hx hb nd_Model_hour_26 (by decide) ?_
      obtain ⟨r6, e6, hR⟩ := q_b1 hR
      refine k_rSI (As := [.int x3, .int (0 : Int32), .int (99 : Int32)]) (rest := [.int j2_0, .ref qa0]) (r := r6) hx hb hml hown hts (cn_Model_within l D ca x3 (0 : Int32) (99 : Int32) r6 e6) kc_Model_within ks_Model_within tt_828 ⟨by decide, by decide⟩ rfl rfl hP hK [] rfl rfl hl.1 (Nat.le_of_ble_eq_true rfl) rfl nd_Model_hour_28 ⟨Nat.zero_le _, Nat.zero_le _⟩ ?_
      obtain ⟨j8_0, hJ8, hR⟩ := q_b1 hR
      have hN8 : ∀ (H : Heap) (locs : List Loc) (ls : Array Slot), va_P D vwCl [oc_Model qa0 thrown_ volume_ share_ qnow qkept qbooks qkeptBooks layers_ qconductances qcapacities kilograms_ rows_ qrowDamps qrowWaters qtold qlows qhighs qrates hours_ qriskRows qlevels qpointsOf qsums rules_ qruleKinds qruleLevels qholds qalarms qalarmHours qvalues qchecked qrights, aJ qnow ca 12 now_, aJ qbooks ca 10 books_, aI qconductances ca 5 conductances_, aI qcapacities ca 5 capacities_, aI qrowWaters ca 6 rowWaters_, aI qrowDamps ca 6 rowDamps_, aI qhighs ca 4 highs_, aI qlows ca 4 lows_, aZ qtold ca 4 told_, aI qrates ca 4 rates_, aI qriskRows ca 4 riskRows_, aI qsums ca 4 sums_, aI qlevels ca 20 levels_, aI qpointsOf ca 20 pointsOf_, aI qruleKinds ca 4 ruleKinds_, aI qruleLevels ca 4 ruleLevels_, aI qalarms ca 4 alarms_, aI qalarmHours ca 1200 alarmHours_, aI qholds ca 4 holds_] H → va_D A [oc_Model qa0 thrown_ volume_ share_ qnow qkept qbooks qkeptBooks layers_ qconductances qcapacities kilograms_ rows_ qrowDamps qrowWaters qtold qlows qhighs qrates hours_ qriskRows qlevels qpointsOf qsums rules_ qruleKinds qruleLevels qholds qalarms qalarmHours qvalues qchecked qrights, aJ qnow ca 12 now_, aJ qbooks ca 10 books_, aI qconductances ca 5 conductances_, aI qcapacities ca 5 capacities_, aI qrowWaters ca 6 rowWaters_, aI qrowDamps ca 6 rowDamps_, aI qhighs ca 4 highs_, aI qlows ca 4 lows_, aZ qtold ca 4 told_, aI qrates ca 4 rates_, aI qriskRows ca 4 riskRows_, aI qsums ca 4 sums_, aI qlevels ca 20 levels_, aI qpointsOf ca 20 pointsOf_, aI qruleKinds ca 4 ruleKinds_, aI qruleLevels ca 4 ruleLevels_, aI qalarms ca 4 alarms_, aI qalarmHours ca 1200 alarmHours_, aI qholds ca 4 holds_] → va_S A s.heap H locs → lv_has ls 4 [(0, .ref qa0), (1, .int x1), (2, .int x2), (3, .int x3)] → W p l e rm_Model_hour s m ar below meth c H locs 0 0 Q (F0 m 39 ls [.int j8_0, .int j2_0, .ref qa0]) := by
        intro H locs ls hP hD hS hl
        cases hR
        exact hN5 _ _ _ hP hD hS (lv_sub hl [0, 1, 2, 3] rfl)
      refine lv_if_eq (tgt := 38) hx hb nd_Model_hour_31 (by decide) (fun c7 => ?_) (fun c7 => ?_)
      · have hR := q_p c7 hJ8
        refine lv_iconst (v := 0) hx hb nd_Model_hour_38 (by decide) ?_
        cases hR
        exact hN8 _ _ _ hP hD hS (lv_sub hl [0, 1, 2, 3] rfl)
      · have hR := q_n c7 hJ8
        refine lv_iconst (v := 1) hx hb nd_Model_hour_34 (by decide) ?_
        refine lv_goto (tgt := 39) hx hb nd_Model_hour_35 (by decide) ?_
        cases hR
        exact hN8 _ _ _ hP hD hS (lv_sub hl [0, 1, 2, 3] rfl)
  refine lv_icmp_ge (tgt := 15) hx hb nd_Model_hour_8 (by decide) (fun c1 => ?_) (fun c1 => ?_)
  · have hR := q_p c1 hJ2
    refine lv_iconst (v := 0) hx hb nd_Model_hour_15 (by decide) ?_
    cases hR
    exact hN2 _ _ _ hP hD hS (lv_sub hl [0, 1, 2, 3] rfl)
  · have hR := q_n c1 hJ2
    refine lv_iconst (v := 1) hx hb nd_Model_hour_11 (by decide) ?_
    refine lv_goto (tgt := 16) hx hb nd_Model_hour_12 (by decide) ?_
    cases hR
    exact hN2 _ _ _ hP hD hS (lv_sub hl [0, 1, 2, 3] rfl)
def rm_Model_degrees : Room := { frames := 2, cells := 0, slots := 0, locals := 45 }
theorem kc_Model_degrees : k_cal nY_Model_degrees nC_Model_degrees 1 (some .int) 0 := ⟨tt_923, tt_10, by decide +kernel⟩
theorem kv_Model_degrees : k_vir nY_Model_degrees := ⟨tt_921, tt_922⟩
set_option maxHeartbeats 4000000 in
set_option maxRecDepth 100000 in
theorem cn_Model_degrees (l : Launch) (D : va_G) (ca : Nat → ClassId) (qa0 qnow qkept qbooks qkeptBooks qconductances qcapacities qrowDamps qrowWaters qtold qlows qhighs qrates qriskRows qlevels qpointsOf qsums qruleKinds qruleLevels qholds qalarms qalarmHours qvalues qchecked qrights : Nat) (thrown_ : Int32) (volume_ : Int32) (share_ : Int32) (layers_ : Int32) (kilograms_ : Int32) (rows_ : Int32) (hours_ : Int32) (rules_ : Int32) (now_ : Nat → Int64) (R0 : Int32) (R1 : Int32) (hR : fn_Model_degrees volume_ now_ = some (R0, R1)) (sz : Nat) : Met l nY_Model_degrees (Cond.code nY_Model_degrees nC_Model_degrees 1 (some .int) :: TT) rm_Model_degrees (wr_P [.ref qa0] D ca [oc_Model qa0 thrown_ volume_ share_ qnow qkept qbooks qkeptBooks layers_ qconductances qcapacities kilograms_ rows_ qrowDamps qrowWaters qtold qlows qhighs qrates hours_ qriskRows qlevels qpointsOf qsums rules_ qruleKinds qruleLevels qholds qalarms qalarmHours qvalues qchecked qrights, aJ qnow ca 12 now_] sz) (va_Qi (fun x (_ : Unit) => x = R0) (wr_B D [oc_Model qa0 thrown_ volume_ share_ qnow qkept qbooks qkeptBooks layers_ qconductances qcapacities kilograms_ rows_ qrowDamps qrowWaters qtold qlows qhighs qrates hours_ qriskRows qlevels qpointsOf qsums rules_ qruleKinds qruleLevels qholds qalarms qalarmHours qvalues qchecked qrights, aJ qnow ca 12 now_] sz [oc_Model qa0 R1 volume_ share_ qnow qkept qbooks qkeptBooks layers_ qconductances qcapacities kilograms_ rows_ qrowDamps qrowWaters qtold qlows qhighs qrates hours_ qriskRows qlevels qpointsOf qsums rules_ qruleKinds qruleLevels qholds qalarms qalarmHours qvalues qchecked qrights, aJ qnow ca 12 now_]) (va_A [oc_Model qa0 thrown_ volume_ share_ qnow qkept qbooks qkeptBooks layers_ qconductances qcapacities kilograms_ rows_ qrowDamps qrowWaters qtold qlows qhighs qrates hours_ qriskRows qlevels qpointsOf qsums rules_ qruleKinds qruleLevels qholds qalarms qalarmHours qvalues qchecked qrights, aJ qnow ca 12 now_] sz)) 0 0 (va_A [oc_Model qa0 thrown_ volume_ share_ qnow qkept qbooks qkeptBooks layers_ qconductances qcapacities kilograms_ rows_ qrowDamps qrowWaters qtold qlows qhighs qrates hours_ qriskRows qlevels qpointsOf qsums rules_ qruleKinds qruleLevels qholds qalarms qalarmHours qvalues qchecked qrights, aJ qnow ca 12 now_] sz) := by
  refine wr_ofI (R := (R0, R1)) (val := fun r => r.1) (w1 := fun r : Int32 × Int32 => [oc_Model qa0 r.2 volume_ share_ qnow qkept qbooks qkeptBooks layers_ qconductances qcapacities kilograms_ rows_ qrowDamps qrowWaters qtold qlows qhighs qrates hours_ qriskRows qlevels qpointsOf qsums rules_ qruleKinds qruleLevels qholds qalarms qalarmHours qvalues qchecked qrights, aJ qnow ca 12 now_]) (by decide +kernel) (Nat.le_of_ble_eq_true rfl) ?_
  intro p e s m below meth c Q ar ls hx hb hml hts hown hP hK A hD hA hl hret
  have hS : va_S A s.heap s.heap [] := va_S.rf
  have hown : s.vm.findClass nR_Model = some m.cls := hown
  have hl : lv_has ls 1 [(0, .ref qa0)] := hl
  unfold fn_Model_degrees at hR
  refine lv_aload_n hx hb nd_Model_degrees_0 rfl (lv_at hl 0 rfl) ?_
  refine lv_iconst (v := 0) hx hb nd_Model_degrees_1 (by decide) ?_
  refine va_put (D := D) (ci := 9) (v := .int (0 : Int32)) (ty := .int) (C := nR_Model) (T := nT_Model) (N := 32) hx hb hts ni_Model nt_Model nt_Model_ok nn_Model hown hK hP hD hS 0 rfl rfl 0 (by decide) (hts (.fieldLink nR_Model 96 "RoomClimateModel" "thrown" "I") tt_723) (fun _ h9 => h9) rfl (by decide +kernel) rfl rfl (Nat.le_of_ble_eq_true rfl) nd_Model_degrees_2 (fun H locs hP hD hS => ?_)
  have hP : va_P D vwCl [oc_Model qa0 (0 : Int32) volume_ share_ qnow qkept qbooks qkeptBooks layers_ qconductances qcapacities kilograms_ rows_ qrowDamps qrowWaters qtold qlows qhighs qrates hours_ qriskRows qlevels qpointsOf qsums rules_ qruleKinds qruleLevels qholds qalarms qalarmHours qvalues qchecked qrights, aJ qnow ca 12 now_] H := hP
  have hD : va_D A [oc_Model qa0 (0 : Int32) volume_ share_ qnow qkept qbooks qkeptBooks layers_ qconductances qcapacities kilograms_ rows_ qrowDamps qrowWaters qtold qlows qhighs qrates hours_ qriskRows qlevels qpointsOf qsums rules_ qruleKinds qruleLevels qholds qalarms qalarmHours qvalues qchecked qrights, aJ qnow ca 12 now_] := hD
  refine lv_aload_n hx hb nd_Model_degrees_5 rfl (lv_at hl 0 rfl) ?_
  obtain ⟨r1, e1, hR⟩ := q_b1 hR
  refine k_rVJ (As := []) (rest := []) (r := r1) hx hb hml hown hts (cn_Model_degreesNow l D ca qa0 qnow qkept qbooks qkeptBooks qconductances qcapacities qrowDamps qrowWaters qtold qlows qhighs qrates qriskRows qlevels qpointsOf qsums qruleKinds qruleLevels qholds qalarms qalarmHours qvalues qchecked qrights (0 : Int32) volume_ share_ layers_ kilograms_ rows_ hours_ rules_ now_ r1 e1) kc_Model_degreesNow kv_Model_degreesNow tt_873 ⟨by decide, by decide⟩ rfl rfl hP hK [0, 1] rfl 0 rfl rfl rfl rfl hl.1 (Nat.le_of_ble_eq_true rfl) rfl nd_Model_degrees_6 ⟨Nat.zero_le _, Nat.zero_le _⟩ ?_
  refine lv_l2i hx hb nd_Model_degrees_9 rfl ?_
  exact hret (r1.toInt32, (0 : Int32)) _ _ _ _ nd_Model_degrees_10 hR hP hD hS
def rm_Model_damp : Room := { frames := 2, cells := 0, slots := 0, locals := 45 }
theorem kc_Model_damp : k_cal nY_Model_damp nC_Model_damp 1 (some .int) 0 := ⟨tt_927, tt_10, by decide +kernel⟩
theorem kv_Model_damp : k_vir nY_Model_damp := ⟨tt_925, tt_926⟩
set_option maxHeartbeats 4000000 in
set_option maxRecDepth 100000 in
theorem cn_Model_damp (l : Launch) (D : va_G) (ca : Nat → ClassId) (qa0 qnow qkept qbooks qkeptBooks qconductances qcapacities qrowDamps qrowWaters qtold qlows qhighs qrates qriskRows qlevels qpointsOf qsums qruleKinds qruleLevels qholds qalarms qalarmHours qvalues qchecked qrights : Nat) (thrown_ : Int32) (volume_ : Int32) (share_ : Int32) (layers_ : Int32) (kilograms_ : Int32) (rows_ : Int32) (hours_ : Int32) (rules_ : Int32) (now_ : Nat → Int64) (R0 : Int32) (R1 : Int32) (hR : fn_Model_damp volume_ now_ = some (R0, R1)) (sz : Nat) : Met l nY_Model_damp (Cond.code nY_Model_damp nC_Model_damp 1 (some .int) :: TT) rm_Model_damp (wr_P [.ref qa0] D ca [oc_Model qa0 thrown_ volume_ share_ qnow qkept qbooks qkeptBooks layers_ qconductances qcapacities kilograms_ rows_ qrowDamps qrowWaters qtold qlows qhighs qrates hours_ qriskRows qlevels qpointsOf qsums rules_ qruleKinds qruleLevels qholds qalarms qalarmHours qvalues qchecked qrights, aJ qnow ca 12 now_] sz) (va_Qi (fun x (_ : Unit) => x = R0) (wr_B D [oc_Model qa0 thrown_ volume_ share_ qnow qkept qbooks qkeptBooks layers_ qconductances qcapacities kilograms_ rows_ qrowDamps qrowWaters qtold qlows qhighs qrates hours_ qriskRows qlevels qpointsOf qsums rules_ qruleKinds qruleLevels qholds qalarms qalarmHours qvalues qchecked qrights, aJ qnow ca 12 now_] sz [oc_Model qa0 R1 volume_ share_ qnow qkept qbooks qkeptBooks layers_ qconductances qcapacities kilograms_ rows_ qrowDamps qrowWaters qtold qlows qhighs qrates hours_ qriskRows qlevels qpointsOf qsums rules_ qruleKinds qruleLevels qholds qalarms qalarmHours qvalues qchecked qrights, aJ qnow ca 12 now_]) (va_A [oc_Model qa0 thrown_ volume_ share_ qnow qkept qbooks qkeptBooks layers_ qconductances qcapacities kilograms_ rows_ qrowDamps qrowWaters qtold qlows qhighs qrates hours_ qriskRows qlevels qpointsOf qsums rules_ qruleKinds qruleLevels qholds qalarms qalarmHours qvalues qchecked qrights, aJ qnow ca 12 now_] sz)) 0 0 (va_A [oc_Model qa0 thrown_ volume_ share_ qnow qkept qbooks qkeptBooks layers_ qconductances qcapacities kilograms_ rows_ qrowDamps qrowWaters qtold qlows qhighs qrates hours_ qriskRows qlevels qpointsOf qsums rules_ qruleKinds qruleLevels qholds qalarms qalarmHours qvalues qchecked qrights, aJ qnow ca 12 now_] sz) := by
  refine wr_ofI (R := (R0, R1)) (val := fun r => r.1) (w1 := fun r : Int32 × Int32 => [oc_Model qa0 r.2 volume_ share_ qnow qkept qbooks qkeptBooks layers_ qconductances qcapacities kilograms_ rows_ qrowDamps qrowWaters qtold qlows qhighs qrates hours_ qriskRows qlevels qpointsOf qsums rules_ qruleKinds qruleLevels qholds qalarms qalarmHours qvalues qchecked qrights, aJ qnow ca 12 now_]) (by decide +kernel) (Nat.le_of_ble_eq_true rfl) ?_
  intro p e s m below meth c Q ar ls hx hb hml hts hown hP hK A hD hA hl hret
  have hS : va_S A s.heap s.heap [] := va_S.rf
  have hown : s.vm.findClass nR_Model = some m.cls := hown
  have hl : lv_has ls 1 [(0, .ref qa0)] := hl
  unfold fn_Model_damp at hR
  refine lv_aload_n hx hb nd_Model_damp_0 rfl (lv_at hl 0 rfl) ?_
  refine lv_iconst (v := 0) hx hb nd_Model_damp_1 (by decide) ?_
  refine va_put (D := D) (ci := 9) (v := .int (0 : Int32)) (ty := .int) (C := nR_Model) (T := nT_Model) (N := 32) hx hb hts ni_Model nt_Model nt_Model_ok nn_Model hown hK hP hD hS 0 rfl rfl 0 (by decide) (hts (.fieldLink nR_Model 96 "RoomClimateModel" "thrown" "I") tt_723) (fun _ h9 => h9) rfl (by decide +kernel) rfl rfl (Nat.le_of_ble_eq_true rfl) nd_Model_damp_2 (fun H locs hP hD hS => ?_)
  have hP : va_P D vwCl [oc_Model qa0 (0 : Int32) volume_ share_ qnow qkept qbooks qkeptBooks layers_ qconductances qcapacities kilograms_ rows_ qrowDamps qrowWaters qtold qlows qhighs qrates hours_ qriskRows qlevels qpointsOf qsums rules_ qruleKinds qruleLevels qholds qalarms qalarmHours qvalues qchecked qrights, aJ qnow ca 12 now_] H := hP
  have hD : va_D A [oc_Model qa0 (0 : Int32) volume_ share_ qnow qkept qbooks qkeptBooks layers_ qconductances qcapacities kilograms_ rows_ qrowDamps qrowWaters qtold qlows qhighs qrates hours_ qriskRows qlevels qpointsOf qsums rules_ qruleKinds qruleLevels qholds qalarms qalarmHours qvalues qchecked qrights, aJ qnow ca 12 now_] := hD
  refine lv_aload_n hx hb nd_Model_damp_5 rfl (lv_at hl 0 rfl) ?_
  obtain ⟨r1, e1, hR⟩ := q_b1 hR
  refine k_rVJ (As := []) (rest := []) (r := r1) hx hb hml hown hts (cn_Model_dampNow l D ca qa0 qnow qkept qbooks qkeptBooks qconductances qcapacities qrowDamps qrowWaters qtold qlows qhighs qrates qriskRows qlevels qpointsOf qsums qruleKinds qruleLevels qholds qalarms qalarmHours qvalues qchecked qrights (0 : Int32) volume_ share_ layers_ kilograms_ rows_ hours_ rules_ now_ r1 e1) kc_Model_dampNow kv_Model_dampNow tt_881 ⟨by decide, by decide⟩ rfl rfl hP hK [0, 1] rfl 0 rfl rfl rfl rfl hl.1 (Nat.le_of_ble_eq_true rfl) rfl nd_Model_damp_6 ⟨Nat.zero_le _, Nat.zero_le _⟩ ?_
  refine lv_l2i hx hb nd_Model_damp_9 rfl ?_
  exact hret (r1.toInt32, (0 : Int32)) _ _ _ _ nd_Model_damp_10 hR hP hD hS
def rm_Model_isLayer : Room := { frames := 1, cells := 0, slots := 0, locals := 22 }
theorem kc_Model_isLayer : k_cal nY_Model_isLayer nC_Model_isLayer 2 (some .boolean) 1 := ⟨tt_935, tt_10, by decide +kernel⟩
theorem kv_Model_isLayer : k_vir nY_Model_isLayer := ⟨tt_934, tp_22⟩
set_option maxHeartbeats 4000000 in
set_option maxRecDepth 100000 in
theorem cn_Model_isLayer (l : Launch) (D : va_G) (ca : Nat → ClassId) (qa0 qnow qkept qbooks qkeptBooks qconductances qcapacities qrowDamps qrowWaters qtold qlows qhighs qrates qriskRows qlevels qpointsOf qsums qruleKinds qruleLevels qholds qalarms qalarmHours qvalues qchecked qrights : Nat) (thrown_ : Int32) (volume_ : Int32) (share_ : Int32) (layers_ : Int32) (kilograms_ : Int32) (rows_ : Int32) (hours_ : Int32) (rules_ : Int32) (x1 : Int32) (R0 : Int32) (hR : fn_Model_isLayer layers_ x1 = some R0) : Met l nY_Model_isLayer (Cond.code nY_Model_isLayer nC_Model_isLayer 2 (some .boolean) :: TT) rm_Model_isLayer (rd_P [.ref qa0, .int x1] D ca [oc_Model qa0 thrown_ volume_ share_ qnow qkept qbooks qkeptBooks layers_ qconductances qcapacities kilograms_ rows_ qrowDamps qrowWaters qtold qlows qhighs qrates hours_ qriskRows qlevels qpointsOf qsums rules_ qruleKinds qruleLevels qholds qalarms qalarmHours qvalues qchecked qrights]) (vp_Si (fun x => x = R0)) 0 0 (fun _ => False) := by
  refine rd_ofZ (by decide +kernel) (Nat.le_of_ble_eq_true rfl) ?_
  intro p e s m below meth c Q ar ls hx hb hml hts hown hP hK hl hret
  have hown : s.vm.findClass nR_Model = some m.cls := hown
  have hl : lv_has ls 2 [(0, .ref qa0), (1, .int x1)] := hl
  unfold fn_Model_isLayer at hR
  refine lv_iload_n hx hb nd_Model_isLayer_0 rfl (lv_at hl 1 rfl) ?_
  refine lv_iconst (v := 0) hx hb nd_Model_isLayer_1 (by decide) ?_
  refine lv_aload_n hx hb nd_Model_isLayer_2 rfl (lv_at hl 0 rfl) ?_
  refine va_get (D := D) (ci := 9) (v := .int layers_) (C := nR_Model) (T := nT_Model) (N := 32) hx hb hts ni_Model hown hK hP 0 rfl rfl 7 (by decide) (hts (.fieldLink nR_Model 107 "RoomClimateModel" "layers" "I") tt_730) (fun _ h9 => h9) rfl nd_Model_isLayer_3 ?_
  refine lv_iconst (v := 1) hx hb nd_Model_isLayer_6 (by decide) ?_
  refine lv_isub hx hb nd_Model_isLayer_7 ?_
  obtain ⟨r1, e1, hR⟩ := q_b1 hR
  refine k_rSI (As := [.int x1, .int (0 : Int32), .int (layers_ - (1 : Int32))]) (rest := []) (r := r1) hx hb hml hown hts (cn_Model_within l D ca x1 (0 : Int32) (layers_ - (1 : Int32)) r1 e1) kc_Model_within ks_Model_within tt_828 ⟨by decide, by decide⟩ rfl rfl hP hK [] rfl rfl hl.1 (Nat.le_of_ble_eq_true rfl) rfl nd_Model_isLayer_8 ⟨Nat.zero_le _, Nat.zero_le _⟩ ?_
  obtain ⟨h2, hR⟩ := q_bz hR
  exact hret _ _ _ nd_Model_isLayer_11 h2 (Option.some.inj hR)
def rm_Model_layer : Room := { frames := 2, cells := 0, slots := 0, locals := 46 }
theorem kc_Model_layer : k_cal nY_Model_layer nC_Model_layer 2 (some .int) 1 := ⟨tt_931, tt_10, by decide +kernel⟩
theorem kv_Model_layer : k_vir nY_Model_layer := ⟨tt_929, tt_930⟩
set_option maxHeartbeats 4000000 in
set_option maxRecDepth 100000 in
theorem cn_Model_layer (l : Launch) (D : va_G) (ca : Nat → ClassId) (qa0 qnow qkept qbooks qkeptBooks qconductances qcapacities qrowDamps qrowWaters qtold qlows qhighs qrates qriskRows qlevels qpointsOf qsums qruleKinds qruleLevels qholds qalarms qalarmHours qvalues qchecked qrights : Nat) (thrown_ : Int32) (volume_ : Int32) (share_ : Int32) (layers_ : Int32) (kilograms_ : Int32) (rows_ : Int32) (hours_ : Int32) (rules_ : Int32) (now_ : Nat → Int64) (capacities_ : Nat → Int32) (x1 : Int32) (R0 : Int32) (R1 : Int32) (hR : fn_Model_layer layers_ now_ capacities_ x1 = some (R0, R1)) (sz : Nat) : Met l nY_Model_layer (Cond.code nY_Model_layer nC_Model_layer 2 (some .int) :: TT) rm_Model_layer (wr_P [.ref qa0, .int x1] D ca [oc_Model qa0 thrown_ volume_ share_ qnow qkept qbooks qkeptBooks layers_ qconductances qcapacities kilograms_ rows_ qrowDamps qrowWaters qtold qlows qhighs qrates hours_ qriskRows qlevels qpointsOf qsums rules_ qruleKinds qruleLevels qholds qalarms qalarmHours qvalues qchecked qrights, aJ qnow ca 12 now_, aI qcapacities ca 5 capacities_] sz) (va_Qi (fun x (_ : Unit) => x = R0) (wr_B D [oc_Model qa0 thrown_ volume_ share_ qnow qkept qbooks qkeptBooks layers_ qconductances qcapacities kilograms_ rows_ qrowDamps qrowWaters qtold qlows qhighs qrates hours_ qriskRows qlevels qpointsOf qsums rules_ qruleKinds qruleLevels qholds qalarms qalarmHours qvalues qchecked qrights, aJ qnow ca 12 now_, aI qcapacities ca 5 capacities_] sz [oc_Model qa0 R1 volume_ share_ qnow qkept qbooks qkeptBooks layers_ qconductances qcapacities kilograms_ rows_ qrowDamps qrowWaters qtold qlows qhighs qrates hours_ qriskRows qlevels qpointsOf qsums rules_ qruleKinds qruleLevels qholds qalarms qalarmHours qvalues qchecked qrights, aJ qnow ca 12 now_, aI qcapacities ca 5 capacities_]) (va_A [oc_Model qa0 thrown_ volume_ share_ qnow qkept qbooks qkeptBooks layers_ qconductances qcapacities kilograms_ rows_ qrowDamps qrowWaters qtold qlows qhighs qrates hours_ qriskRows qlevels qpointsOf qsums rules_ qruleKinds qruleLevels qholds qalarms qalarmHours qvalues qchecked qrights, aJ qnow ca 12 now_, aI qcapacities ca 5 capacities_] sz)) 0 0 (va_A [oc_Model qa0 thrown_ volume_ share_ qnow qkept qbooks qkeptBooks layers_ qconductances qcapacities kilograms_ rows_ qrowDamps qrowWaters qtold qlows qhighs qrates hours_ qriskRows qlevels qpointsOf qsums rules_ qruleKinds qruleLevels qholds qalarms qalarmHours qvalues qchecked qrights, aJ qnow ca 12 now_, aI qcapacities ca 5 capacities_] sz) := by
  refine wr_ofI (R := (R0, R1)) (val := fun r => r.1) (w1 := fun r : Int32 × Int32 => [oc_Model qa0 r.2 volume_ share_ qnow qkept qbooks qkeptBooks layers_ qconductances qcapacities kilograms_ rows_ qrowDamps qrowWaters qtold qlows qhighs qrates hours_ qriskRows qlevels qpointsOf qsums rules_ qruleKinds qruleLevels qholds qalarms qalarmHours qvalues qchecked qrights, aJ qnow ca 12 now_, aI qcapacities ca 5 capacities_]) (by decide +kernel) (Nat.le_of_ble_eq_true rfl) ?_
  intro p e s m below meth c Q ar ls hx hb hml hts hown hP hK A hD hA hl hret
  have hS : va_S A s.heap s.heap [] := va_S.rf
  have hown : s.vm.findClass nR_Model = some m.cls := hown
  have hl : lv_has ls 2 [(0, .ref qa0), (1, .int x1)] := hl
  unfold fn_Model_layer at hR
  refine lv_aload_n hx hb nd_Model_layer_0 rfl (lv_at hl 0 rfl) ?_
  refine lv_aload_n hx hb nd_Model_layer_1 rfl (lv_at hl 0 rfl) ?_
  refine lv_iload_n hx hb nd_Model_layer_2 rfl (lv_at hl 1 rfl) ?_
  obtain ⟨r1, e1, hR⟩ := q_b1 hR
  refine k_rVI (As := [.int x1]) (rest := [.ref qa0]) (r := r1) hx hb hml hown hts (cn_Model_isLayer l D ca qa0 qnow qkept qbooks qkeptBooks qconductances qcapacities qrowDamps qrowWaters qtold qlows qhighs qrates qriskRows qlevels qpointsOf qsums qruleKinds qruleLevels qholds qalarms qalarmHours qvalues qchecked qrights thrown_ volume_ share_ layers_ kilograms_ rows_ hours_ rules_ x1 r1 e1) kc_Model_isLayer kv_Model_isLayer tt_932 ⟨by decide, by decide⟩ rfl rfl hP hK [0] rfl 0 rfl rfl rfl rfl hl.1 (Nat.le_of_ble_eq_true rfl) rfl nd_Model_layer_3 ⟨Nat.zero_le _, Nat.zero_le _⟩ ?_
  refine lv_iconst (v := 1) hx hb nd_Model_layer_6 (by decide) ?_
  refine lv_iconst (v := 1) hx hb nd_Model_layer_7 (by decide) ?_
  obtain ⟨r2, u2_0, e2, hR⟩ := q_b2 hR
  refine k_wVI (wr := [aJ qnow ca 12 now_, aI qcapacities ca 5 capacities_]) (w2 := [oc_Model qa0 u2_0 volume_ share_ qnow qkept qbooks qkeptBooks layers_ qconductances qcapacities kilograms_ rows_ qrowDamps qrowWaters qtold qlows qhighs qrates hours_ qriskRows qlevels qpointsOf qsums rules_ qruleKinds qruleLevels qholds qalarms qalarmHours qvalues qchecked qrights, aJ qnow ca 12 now_, aI qcapacities ca 5 capacities_]) (As := [.int r1, .int (1 : Int32), .int (1 : Int32)]) (rest := []) (r := r2) hx hb hml hown hts (cn_Model_goes l D ca qa0 qnow qkept qbooks qkeptBooks qconductances qcapacities qrowDamps qrowWaters qtold qlows qhighs qrates qriskRows qlevels qpointsOf qsums qruleKinds qruleLevels qholds qalarms qalarmHours qvalues qchecked qrights thrown_ volume_ share_ layers_ kilograms_ rows_ hours_ rules_ r1 (1 : Int32) (1 : Int32) r2 u2_0 e2 _) kc_Model_goes kv_Model_goes tt_831 ⟨by decide, by decide⟩ rfl rfl hP hK hD hS hA [0] [1, 2] [2, 0, 1] rfl (by decide) rfl (by decide) (by decide) rfl (by decide) 0 rfl rfl rfl rfl hl.1 (Nat.le_of_ble_eq_true rfl) rfl nd_Model_layer_8 ⟨Nat.zero_le _, Nat.zero_le _⟩ (fun H locs hP hD hS => ?_)
  obtain ⟨j4_0, hJ4, hR⟩ := q_b1 hR
  have hN4 : ∀ (H : Heap) (locs : List Loc) (ls : Array Slot), va_P D vwCl [oc_Model qa0 u2_0 volume_ share_ qnow qkept qbooks qkeptBooks layers_ qconductances qcapacities kilograms_ rows_ qrowDamps qrowWaters qtold qlows qhighs qrates hours_ qriskRows qlevels qpointsOf qsums rules_ qruleKinds qruleLevels qholds qalarms qalarmHours qvalues qchecked qrights, aJ qnow ca 12 now_, aI qcapacities ca 5 capacities_] H → va_D A [oc_Model qa0 u2_0 volume_ share_ qnow qkept qbooks qkeptBooks layers_ qconductances qcapacities kilograms_ rows_ qrowDamps qrowWaters qtold qlows qhighs qrates hours_ qriskRows qlevels qpointsOf qsums rules_ qruleKinds qruleLevels qholds qalarms qalarmHours qvalues qchecked qrights, aJ qnow ca 12 now_, aI qcapacities ca 5 capacities_] → va_S A s.heap H locs → lv_has ls 2 [(0, .ref qa0), (1, .int x1)] → W p l e rm_Model_layer s m ar below meth c H locs 0 0 Q (F0 m 24 ls [.int j4_0]) := by
    intro H locs ls hP hD hS hl
    exact hret (j4_0, u2_0) _ _ _ _ nd_Model_layer_24 hR hP hD hS
  refine lv_if_eq (tgt := 23) hx hb nd_Model_layer_11 (by decide) (fun c3 => ?_) (fun c3 => ?_)
  · have hR := q_p c3 hJ4
    refine lv_iconst (v := 0) hx hb nd_Model_layer_23 (by decide) ?_
    cases hR
    exact hN4 _ _ _ hP hD hS (lv_sub hl [0, 1] rfl)
  · have hR := q_n c3 hJ4
    refine lv_aload_n hx hb nd_Model_layer_14 rfl (lv_at hl 0 rfl) ?_
    refine lv_iload_n hx hb nd_Model_layer_15 rfl (lv_at hl 1 rfl) ?_
    obtain ⟨r5, e5, hR⟩ := q_b1 hR
    refine k_rVJ (As := [.int x1]) (rest := []) (r := r5) hx hb hml hown hts (cn_Model_layerNow l D ca qa0 qnow qkept qbooks qkeptBooks qconductances qcapacities qrowDamps qrowWaters qtold qlows qhighs qrates qriskRows qlevels qpointsOf qsums qruleKinds qruleLevels qholds qalarms qalarmHours qvalues qchecked qrights u2_0 volume_ share_ layers_ kilograms_ rows_ hours_ rules_ now_ capacities_ x1 r5 e5) kc_Model_layerNow kv_Model_layerNow tt_893 ⟨by decide, by decide⟩ rfl rfl hP hK [0, 1, 2] rfl 0 rfl rfl rfl rfl hl.1 (Nat.le_of_ble_eq_true rfl) rfl nd_Model_layer_16 ⟨Nat.zero_le _, Nat.zero_le _⟩ ?_
    refine lv_l2i hx hb nd_Model_layer_19 rfl ?_
    refine lv_goto (tgt := 24) hx hb nd_Model_layer_20 (by decide) ?_
    cases hR
    exact hN4 _ _ _ hP hD hS (lv_sub hl [0, 1] rfl)
def rm_Model_held : Room := { frames := 0, cells := 0, slots := 0, locals := 0 }
theorem kc_Model_held : k_cal nY_Model_held nC_Model_held 1 (some .int) 0 := ⟨tt_939, tt_10, by decide +kernel⟩
theorem kv_Model_held : k_vir nY_Model_held := ⟨tt_937, tt_938⟩
set_option maxHeartbeats 4000000 in
set_option maxRecDepth 100000 in
theorem cn_Model_held (l : Launch) (D : va_G) (ca : Nat → ClassId) (qa0 qnow qkept qbooks qkeptBooks qconductances qcapacities qrowDamps qrowWaters qtold qlows qhighs qrates qriskRows qlevels qpointsOf qsums qruleKinds qruleLevels qholds qalarms qalarmHours qvalues qchecked qrights : Nat) (thrown_ : Int32) (volume_ : Int32) (share_ : Int32) (layers_ : Int32) (kilograms_ : Int32) (rows_ : Int32) (hours_ : Int32) (rules_ : Int32) (now_ : Nat → Int64) (R0 : Int32) (R1 : Int32) (hR : fn_Model_held now_ = some (R0, R1)) (sz : Nat) : Met l nY_Model_held (Cond.code nY_Model_held nC_Model_held 1 (some .int) :: TT) rm_Model_held (wr_P [.ref qa0] D ca [oc_Model qa0 thrown_ volume_ share_ qnow qkept qbooks qkeptBooks layers_ qconductances qcapacities kilograms_ rows_ qrowDamps qrowWaters qtold qlows qhighs qrates hours_ qriskRows qlevels qpointsOf qsums rules_ qruleKinds qruleLevels qholds qalarms qalarmHours qvalues qchecked qrights, aJ qnow ca 12 now_] sz) (va_Qi (fun x (_ : Unit) => x = R0) (wr_B D [oc_Model qa0 thrown_ volume_ share_ qnow qkept qbooks qkeptBooks layers_ qconductances qcapacities kilograms_ rows_ qrowDamps qrowWaters qtold qlows qhighs qrates hours_ qriskRows qlevels qpointsOf qsums rules_ qruleKinds qruleLevels qholds qalarms qalarmHours qvalues qchecked qrights, aJ qnow ca 12 now_] sz [oc_Model qa0 R1 volume_ share_ qnow qkept qbooks qkeptBooks layers_ qconductances qcapacities kilograms_ rows_ qrowDamps qrowWaters qtold qlows qhighs qrates hours_ qriskRows qlevels qpointsOf qsums rules_ qruleKinds qruleLevels qholds qalarms qalarmHours qvalues qchecked qrights, aJ qnow ca 12 now_]) (va_A [oc_Model qa0 thrown_ volume_ share_ qnow qkept qbooks qkeptBooks layers_ qconductances qcapacities kilograms_ rows_ qrowDamps qrowWaters qtold qlows qhighs qrates hours_ qriskRows qlevels qpointsOf qsums rules_ qruleKinds qruleLevels qholds qalarms qalarmHours qvalues qchecked qrights, aJ qnow ca 12 now_] sz)) 0 0 (va_A [oc_Model qa0 thrown_ volume_ share_ qnow qkept qbooks qkeptBooks layers_ qconductances qcapacities kilograms_ rows_ qrowDamps qrowWaters qtold qlows qhighs qrates hours_ qriskRows qlevels qpointsOf qsums rules_ qruleKinds qruleLevels qholds qalarms qalarmHours qvalues qchecked qrights, aJ qnow ca 12 now_] sz) := by
  refine wr_ofI (R := (R0, R1)) (val := fun r => r.1) (w1 := fun r : Int32 × Int32 => [oc_Model qa0 r.2 volume_ share_ qnow qkept qbooks qkeptBooks layers_ qconductances qcapacities kilograms_ rows_ qrowDamps qrowWaters qtold qlows qhighs qrates hours_ qriskRows qlevels qpointsOf qsums rules_ qruleKinds qruleLevels qholds qalarms qalarmHours qvalues qchecked qrights, aJ qnow ca 12 now_]) (by decide +kernel) (Nat.le_of_ble_eq_true rfl) ?_
  intro p e s m below meth c Q ar ls hx hb hml hts hown hP hK A hD hA hl hret
  have hS : va_S A s.heap s.heap [] := va_S.rf
  have hown : s.vm.findClass nR_Model = some m.cls := hown
  have hl : lv_has ls 1 [(0, .ref qa0)] := hl
  unfold fn_Model_held at hR
  refine lv_aload_n hx hb nd_Model_held_0 rfl (lv_at hl 0 rfl) ?_
  refine lv_iconst (v := 0) hx hb nd_Model_held_1 (by decide) ?_
  refine va_put (D := D) (ci := 9) (v := .int (0 : Int32)) (ty := .int) (C := nR_Model) (T := nT_Model) (N := 32) hx hb hts ni_Model nt_Model nt_Model_ok nn_Model hown hK hP hD hS 0 rfl rfl 0 (by decide) (hts (.fieldLink nR_Model 96 "RoomClimateModel" "thrown" "I") tt_723) (fun _ h9 => h9) rfl (by decide +kernel) rfl rfl (Nat.le_of_ble_eq_true rfl) nd_Model_held_2 (fun H locs hP hD hS => ?_)
  have hP : va_P D vwCl [oc_Model qa0 (0 : Int32) volume_ share_ qnow qkept qbooks qkeptBooks layers_ qconductances qcapacities kilograms_ rows_ qrowDamps qrowWaters qtold qlows qhighs qrates hours_ qriskRows qlevels qpointsOf qsums rules_ qruleKinds qruleLevels qholds qalarms qalarmHours qvalues qchecked qrights, aJ qnow ca 12 now_] H := hP
  have hD : va_D A [oc_Model qa0 (0 : Int32) volume_ share_ qnow qkept qbooks qkeptBooks layers_ qconductances qcapacities kilograms_ rows_ qrowDamps qrowWaters qtold qlows qhighs qrates hours_ qriskRows qlevels qpointsOf qsums rules_ qruleKinds qruleLevels qholds qalarms qalarmHours qvalues qchecked qrights, aJ qnow ca 12 now_] := hD
  refine lv_aload_n hx hb nd_Model_held_5 rfl (lv_at hl 0 rfl) ?_
  refine va_get (D := D) (ci := 9) (v := .ref qnow) (C := nR_Model) (T := nT_Model) (N := 32) hx hb hts ni_Model hown hK hP 0 rfl rfl 3 (by decide) (hts (.fieldLink nR_Model 16 "RoomClimateModel" "now" "[J") tt_726) (fun _ h9 => h9) rfl nd_Model_held_6 ?_
  refine lv_iconst (v := 2) hx hb nd_Model_held_9 (by decide) ?_
  obtain ⟨h1, hR⟩ := q_ix hR
  refine va_lald hx hb hK hP 1 1 rfl rfl h1 nd_Model_held_10 ?_
  refine lv_l2i hx hb nd_Model_held_11 rfl ?_
  exact hret ((now_ (2 : Int32).toNatClampNeg).toInt32, (0 : Int32)) _ _ _ _ nd_Model_held_12 hR hP hD hS
def rm_Model_on : Room := { frames := 1, cells := 0, slots := 0, locals := 23 }
theorem kc_Model_on : k_cal nY_Model_on nC_Model_on 2 (some .boolean) 1 := ⟨tt_943, tt_10, by decide +kernel⟩
theorem kv_Model_on : k_vir nY_Model_on := ⟨tt_941, tt_942⟩
set_option maxHeartbeats 4000000 in
set_option maxRecDepth 100000 in
theorem cn_Model_on (l : Launch) (D : va_G) (ca : Nat → ClassId) (qa0 qnow qkept qbooks qkeptBooks qconductances qcapacities qrowDamps qrowWaters qtold qlows qhighs qrates qriskRows qlevels qpointsOf qsums qruleKinds qruleLevels qholds qalarms qalarmHours qvalues qchecked qrights : Nat) (thrown_ : Int32) (volume_ : Int32) (share_ : Int32) (layers_ : Int32) (kilograms_ : Int32) (rows_ : Int32) (hours_ : Int32) (rules_ : Int32) (now_ : Nat → Int64) (x1 : Int32) (R0 : Int32) (R1 : Int32) (hR : fn_Model_on now_ x1 = some (R0, R1)) (sz : Nat) : Met l nY_Model_on (Cond.code nY_Model_on nC_Model_on 2 (some .boolean) :: TT) rm_Model_on (wr_P [.ref qa0, .int x1] D ca [oc_Model qa0 thrown_ volume_ share_ qnow qkept qbooks qkeptBooks layers_ qconductances qcapacities kilograms_ rows_ qrowDamps qrowWaters qtold qlows qhighs qrates hours_ qriskRows qlevels qpointsOf qsums rules_ qruleKinds qruleLevels qholds qalarms qalarmHours qvalues qchecked qrights, aJ qnow ca 12 now_] sz) (va_Qi (fun x (_ : Unit) => x = R0) (wr_B D [oc_Model qa0 thrown_ volume_ share_ qnow qkept qbooks qkeptBooks layers_ qconductances qcapacities kilograms_ rows_ qrowDamps qrowWaters qtold qlows qhighs qrates hours_ qriskRows qlevels qpointsOf qsums rules_ qruleKinds qruleLevels qholds qalarms qalarmHours qvalues qchecked qrights, aJ qnow ca 12 now_] sz [oc_Model qa0 R1 volume_ share_ qnow qkept qbooks qkeptBooks layers_ qconductances qcapacities kilograms_ rows_ qrowDamps qrowWaters qtold qlows qhighs qrates hours_ qriskRows qlevels qpointsOf qsums rules_ qruleKinds qruleLevels qholds qalarms qalarmHours qvalues qchecked qrights, aJ qnow ca 12 now_]) (va_A [oc_Model qa0 thrown_ volume_ share_ qnow qkept qbooks qkeptBooks layers_ qconductances qcapacities kilograms_ rows_ qrowDamps qrowWaters qtold qlows qhighs qrates hours_ qriskRows qlevels qpointsOf qsums rules_ qruleKinds qruleLevels qholds qalarms qalarmHours qvalues qchecked qrights, aJ qnow ca 12 now_] sz)) 0 0 (va_A [oc_Model qa0 thrown_ volume_ share_ qnow qkept qbooks qkeptBooks layers_ qconductances qcapacities kilograms_ rows_ qrowDamps qrowWaters qtold qlows qhighs qrates hours_ qriskRows qlevels qpointsOf qsums rules_ qruleKinds qruleLevels qholds qalarms qalarmHours qvalues qchecked qrights, aJ qnow ca 12 now_] sz) := by
  refine wr_ofZ (R := (R0, R1)) (val := fun r => r.1) (w1 := fun r : Int32 × Int32 => [oc_Model qa0 r.2 volume_ share_ qnow qkept qbooks qkeptBooks layers_ qconductances qcapacities kilograms_ rows_ qrowDamps qrowWaters qtold qlows qhighs qrates hours_ qriskRows qlevels qpointsOf qsums rules_ qruleKinds qruleLevels qholds qalarms qalarmHours qvalues qchecked qrights, aJ qnow ca 12 now_]) (by decide +kernel) (Nat.le_of_ble_eq_true rfl) ?_
  intro p e s m below meth c Q ar ls hx hb hml hts hown hP hK A hD hA hl hret
  have hS : va_S A s.heap s.heap [] := va_S.rf
  have hown : s.vm.findClass nR_Model = some m.cls := hown
  have hl : lv_has ls 2 [(0, .ref qa0), (1, .int x1)] := hl
  unfold fn_Model_on at hR
  refine lv_aload_n hx hb nd_Model_on_0 rfl (lv_at hl 0 rfl) ?_
  refine lv_iload_n hx hb nd_Model_on_1 rfl (lv_at hl 1 rfl) ?_
  refine lv_iconst (v := 0) hx hb nd_Model_on_2 (by decide) ?_
  refine lv_iconst (v := 3) hx hb nd_Model_on_3 (by decide) ?_
  obtain ⟨r1, e1, hR⟩ := q_b1 hR
  refine k_rSI (As := [.int x1, .int (0 : Int32), .int (3 : Int32)]) (rest := [.ref qa0]) (r := r1) hx hb hml hown hts (cn_Model_within l D ca x1 (0 : Int32) (3 : Int32) r1 e1) kc_Model_within ks_Model_within tt_828 ⟨by decide, by decide⟩ rfl rfl hP hK [] rfl rfl hl.1 (Nat.le_of_ble_eq_true rfl) rfl nd_Model_on_4 ⟨Nat.zero_le _, Nat.zero_le _⟩ ?_
  refine lv_iconst (v := 1) hx hb nd_Model_on_7 (by decide) ?_
  refine lv_iconst (v := 1) hx hb nd_Model_on_8 (by decide) ?_
  obtain ⟨r2, u2_0, e2, hR⟩ := q_b2 hR
  refine k_wVI (wr := [aJ qnow ca 12 now_]) (w2 := [oc_Model qa0 u2_0 volume_ share_ qnow qkept qbooks qkeptBooks layers_ qconductances qcapacities kilograms_ rows_ qrowDamps qrowWaters qtold qlows qhighs qrates hours_ qriskRows qlevels qpointsOf qsums rules_ qruleKinds qruleLevels qholds qalarms qalarmHours qvalues qchecked qrights, aJ qnow ca 12 now_]) (As := [.int r1, .int (1 : Int32), .int (1 : Int32)]) (rest := []) (r := r2) hx hb hml hown hts (cn_Model_goes l D ca qa0 qnow qkept qbooks qkeptBooks qconductances qcapacities qrowDamps qrowWaters qtold qlows qhighs qrates qriskRows qlevels qpointsOf qsums qruleKinds qruleLevels qholds qalarms qalarmHours qvalues qchecked qrights thrown_ volume_ share_ layers_ kilograms_ rows_ hours_ rules_ r1 (1 : Int32) (1 : Int32) r2 u2_0 e2 _) kc_Model_goes kv_Model_goes tt_831 ⟨by decide, by decide⟩ rfl rfl hP hK hD hS hA [0] [1] [1, 0] rfl (by decide) rfl (by decide) (by decide) rfl (by decide) 0 rfl rfl rfl rfl hl.1 (Nat.le_of_ble_eq_true rfl) rfl nd_Model_on_9 ⟨Nat.zero_le _, Nat.zero_le _⟩ (fun H locs hP hD hS => ?_)
  obtain ⟨j4_0, hJ4, hR⟩ := q_b1 hR
  have hN4 : ∀ (H : Heap) (locs : List Loc) (ls : Array Slot), va_P D vwCl [oc_Model qa0 u2_0 volume_ share_ qnow qkept qbooks qkeptBooks layers_ qconductances qcapacities kilograms_ rows_ qrowDamps qrowWaters qtold qlows qhighs qrates hours_ qriskRows qlevels qpointsOf qsums rules_ qruleKinds qruleLevels qholds qalarms qalarmHours qvalues qchecked qrights, aJ qnow ca 12 now_] H → va_D A [oc_Model qa0 u2_0 volume_ share_ qnow qkept qbooks qkeptBooks layers_ qconductances qcapacities kilograms_ rows_ qrowDamps qrowWaters qtold qlows qhighs qrates hours_ qriskRows qlevels qpointsOf qsums rules_ qruleKinds qruleLevels qholds qalarms qalarmHours qvalues qchecked qrights, aJ qnow ca 12 now_] → va_S A s.heap H locs → lv_has ls 2 [(0, .ref qa0), (1, .int x1)] → W p l e rm_Model_on s m ar below meth c H locs 0 0 Q (F0 m 34 ls [.int j4_0]) := by
    intro H locs ls hP hD hS hl
    obtain ⟨h8, hR⟩ := q_bz hR
    exact hret (j4_0, u2_0) _ _ _ _ nd_Model_on_34 h8 hR hP hD hS
  refine lv_if_eq (tgt := 33) hx hb nd_Model_on_12 (by decide) (fun c3 => ?_) (fun c3 => ?_)
  · have hR := q_p c3 hJ4
    refine lv_iconst (v := 0) hx hb nd_Model_on_33 (by decide) ?_
    cases hR
    exact hN4 _ _ _ hP hD hS (lv_sub hl [0, 1] rfl)
  · have hR := q_n c3 hJ4
    refine lv_aload_n hx hb nd_Model_on_15 rfl (lv_at hl 0 rfl) ?_
    refine va_get (D := D) (ci := 9) (v := .ref qnow) (C := nR_Model) (T := nT_Model) (N := 32) hx hb hts ni_Model hown hK hP 0 rfl rfl 3 (by decide) (hts (.fieldLink nR_Model 16 "RoomClimateModel" "now" "[J") tt_726) (fun _ h9 => h9) rfl nd_Model_on_16 ?_
    refine lv_bipush (v := 8) hx hb nd_Model_on_19 (by decide) ?_
    refine lv_iload_n hx hb nd_Model_on_21 rfl (lv_at hl 1 rfl) ?_
    refine lv_iadd hx hb nd_Model_on_22 ?_
    obtain ⟨h5, hR⟩ := q_ix hR
    refine va_lald hx hb hK hP 1 1 rfl rfl h5 nd_Model_on_23 ?_
    refine lv_lconst (v := 1) hx hb nd_Model_on_24 (by decide) ?_
    refine W.lcmp hx hb nd_Model_on_25 ?_
    obtain ⟨j7_0, hJ7, hR⟩ := q_b1 hR
    have hN7 : ∀ (H : Heap) (locs : List Loc) (ls : Array Slot), va_P D vwCl [oc_Model qa0 u2_0 volume_ share_ qnow qkept qbooks qkeptBooks layers_ qconductances qcapacities kilograms_ rows_ qrowDamps qrowWaters qtold qlows qhighs qrates hours_ qriskRows qlevels qpointsOf qsums rules_ qruleKinds qruleLevels qholds qalarms qalarmHours qvalues qchecked qrights, aJ qnow ca 12 now_] H → va_D A [oc_Model qa0 u2_0 volume_ share_ qnow qkept qbooks qkeptBooks layers_ qconductances qcapacities kilograms_ rows_ qrowDamps qrowWaters qtold qlows qhighs qrates hours_ qriskRows qlevels qpointsOf qsums rules_ qruleKinds qruleLevels qholds qalarms qalarmHours qvalues qchecked qrights, aJ qnow ca 12 now_] → va_S A s.heap H locs → lv_has ls 2 [(0, .ref qa0), (1, .int x1)] → W p l e rm_Model_on s m ar below meth c H locs 0 0 Q (F0 m 34 ls [.int j7_0]) := by
      intro H locs ls hP hD hS hl
      cases hR
      exact hN4 _ _ _ hP hD hS (lv_sub hl [0, 1] rfl)
    refine lv_if_ne (tgt := 33) hx hb nd_Model_on_26 (by decide) (fun c6 => ?_) (fun c6 => ?_)
    · have hR := q_n c6 hJ7
      refine lv_iconst (v := 0) hx hb nd_Model_on_33 (by decide) ?_
      cases hR
      exact hN7 _ _ _ hP hD hS (lv_sub hl [0, 1] rfl)
    · have hR := q_p c6 hJ7
      refine lv_iconst (v := 1) hx hb nd_Model_on_29 (by decide) ?_
      refine lv_goto (tgt := 34) hx hb nd_Model_on_30 (by decide) ?_
      cases hR
      exact hN7 _ _ _ hP hD hS (lv_sub hl [0, 1] rfl)
def rm_Model_book : Room := { frames := 1, cells := 0, slots := 0, locals := 23 }
theorem kc_Model_book : k_cal nY_Model_book nC_Model_book 3 (some .long) 2 := ⟨tt_947, tt_10, by decide +kernel⟩
theorem kv_Model_book : k_vir nY_Model_book := ⟨tt_945, tt_946⟩
set_option maxHeartbeats 4000000 in
set_option maxRecDepth 100000 in
theorem cn_Model_book (l : Launch) (D : va_G) (ca : Nat → ClassId) (qa0 qnow qkept qbooks qkeptBooks qconductances qcapacities qrowDamps qrowWaters qtold qlows qhighs qrates qriskRows qlevels qpointsOf qsums qruleKinds qruleLevels qholds qalarms qalarmHours qvalues qchecked qrights : Nat) (thrown_ : Int32) (volume_ : Int32) (share_ : Int32) (layers_ : Int32) (kilograms_ : Int32) (rows_ : Int32) (hours_ : Int32) (rules_ : Int32) (books_ : Nat → Int64) (now_ : Nat → Int64) (x1 : Int32) (x2 : Int32) (R0 : Int64) (R1 : Int32) (hR : fn_Model_book books_ now_ x1 x2 = some (R0, R1)) (sz : Nat) : Met l nY_Model_book (Cond.code nY_Model_book nC_Model_book 3 (some .long) :: TT) rm_Model_book (wr_P [.ref qa0, .int x1, .int x2] D ca [oc_Model qa0 thrown_ volume_ share_ qnow qkept qbooks qkeptBooks layers_ qconductances qcapacities kilograms_ rows_ qrowDamps qrowWaters qtold qlows qhighs qrates hours_ qriskRows qlevels qpointsOf qsums rules_ qruleKinds qruleLevels qholds qalarms qalarmHours qvalues qchecked qrights, aJ qbooks ca 10 books_, aJ qnow ca 12 now_] sz) (va_Ql (fun x (_ : Unit) => x = R0) (wr_B D [oc_Model qa0 thrown_ volume_ share_ qnow qkept qbooks qkeptBooks layers_ qconductances qcapacities kilograms_ rows_ qrowDamps qrowWaters qtold qlows qhighs qrates hours_ qriskRows qlevels qpointsOf qsums rules_ qruleKinds qruleLevels qholds qalarms qalarmHours qvalues qchecked qrights, aJ qbooks ca 10 books_, aJ qnow ca 12 now_] sz [oc_Model qa0 R1 volume_ share_ qnow qkept qbooks qkeptBooks layers_ qconductances qcapacities kilograms_ rows_ qrowDamps qrowWaters qtold qlows qhighs qrates hours_ qriskRows qlevels qpointsOf qsums rules_ qruleKinds qruleLevels qholds qalarms qalarmHours qvalues qchecked qrights, aJ qbooks ca 10 books_, aJ qnow ca 12 now_]) (va_A [oc_Model qa0 thrown_ volume_ share_ qnow qkept qbooks qkeptBooks layers_ qconductances qcapacities kilograms_ rows_ qrowDamps qrowWaters qtold qlows qhighs qrates hours_ qriskRows qlevels qpointsOf qsums rules_ qruleKinds qruleLevels qholds qalarms qalarmHours qvalues qchecked qrights, aJ qbooks ca 10 books_, aJ qnow ca 12 now_] sz)) 0 0 (va_A [oc_Model qa0 thrown_ volume_ share_ qnow qkept qbooks qkeptBooks layers_ qconductances qcapacities kilograms_ rows_ qrowDamps qrowWaters qtold qlows qhighs qrates hours_ qriskRows qlevels qpointsOf qsums rules_ qruleKinds qruleLevels qholds qalarms qalarmHours qvalues qchecked qrights, aJ qbooks ca 10 books_, aJ qnow ca 12 now_] sz) := by
  refine wr_ofJ (R := (R0, R1)) (val := fun r => r.1) (w1 := fun r : Int64 × Int32 => [oc_Model qa0 r.2 volume_ share_ qnow qkept qbooks qkeptBooks layers_ qconductances qcapacities kilograms_ rows_ qrowDamps qrowWaters qtold qlows qhighs qrates hours_ qriskRows qlevels qpointsOf qsums rules_ qruleKinds qruleLevels qholds qalarms qalarmHours qvalues qchecked qrights, aJ qbooks ca 10 books_, aJ qnow ca 12 now_]) (by decide +kernel) (Nat.le_of_ble_eq_true rfl) ?_
  intro p e s m below meth c Q ar ls hx hb hml hts hown hP hK A hD hA hl hret
  have hS : va_S A s.heap s.heap [] := va_S.rf
  have hown : s.vm.findClass nR_Model = some m.cls := hown
  have hl : lv_has ls 3 [(0, .ref qa0), (1, .int x1), (2, .int x2)] := hl
  unfold fn_Model_book at hR
  refine lv_aload_n hx hb nd_Model_book_0 rfl (lv_at hl 0 rfl) ?_
  refine lv_iload_n hx hb nd_Model_book_1 rfl (lv_at hl 1 rfl) ?_
  refine lv_iconst (v := -1) hx hb nd_Model_book_2 (by decide) ?_
  refine lv_iconst (v := 4) hx hb nd_Model_book_3 (by decide) ?_
  obtain ⟨r1, e1, hR⟩ := q_b1 hR
  refine k_rSI (As := [.int x1, .int (-1 : Int32), .int (4 : Int32)]) (rest := [.ref qa0]) (r := r1) hx hb hml hown hts (cn_Model_within l D ca x1 (-1 : Int32) (4 : Int32) r1 e1) kc_Model_within ks_Model_within tt_828 ⟨by decide, by decide⟩ rfl rfl hP hK [] rfl rfl hl.1 (Nat.le_of_ble_eq_true rfl) rfl nd_Model_book_4 ⟨Nat.zero_le _, Nat.zero_le _⟩ ?_
  obtain ⟨j3_0, hJ3, hR⟩ := q_b1 hR
  have hN3 : ∀ (H : Heap) (locs : List Loc) (ls : Array Slot), va_P D vwCl [oc_Model qa0 thrown_ volume_ share_ qnow qkept qbooks qkeptBooks layers_ qconductances qcapacities kilograms_ rows_ qrowDamps qrowWaters qtold qlows qhighs qrates hours_ qriskRows qlevels qpointsOf qsums rules_ qruleKinds qruleLevels qholds qalarms qalarmHours qvalues qchecked qrights, aJ qbooks ca 10 books_, aJ qnow ca 12 now_] H → va_D A [oc_Model qa0 thrown_ volume_ share_ qnow qkept qbooks qkeptBooks layers_ qconductances qcapacities kilograms_ rows_ qrowDamps qrowWaters qtold qlows qhighs qrates hours_ qriskRows qlevels qpointsOf qsums rules_ qruleKinds qruleLevels qholds qalarms qalarmHours qvalues qchecked qrights, aJ qbooks ca 10 books_, aJ qnow ca 12 now_] → va_S A s.heap H locs → lv_has ls 3 [(0, .ref qa0), (1, .int x1), (2, .int x2)] → W p l e rm_Model_book s m ar below meth c H locs 0 0 Q (F0 m 24 ls [.int j3_0, .ref qa0]) := by
    intro H locs ls hP hD hS hl
    refine lv_iconst (v := 1) hx hb nd_Model_book_24 (by decide) ?_
    refine lv_iconst (v := 1) hx hb nd_Model_book_25 (by decide) ?_
    obtain ⟨r7, u7_0, e7, hR⟩ := q_b2 hR
    refine k_wVI (wr := [aJ qbooks ca 10 books_, aJ qnow ca 12 now_]) (w2 := [oc_Model qa0 u7_0 volume_ share_ qnow qkept qbooks qkeptBooks layers_ qconductances qcapacities kilograms_ rows_ qrowDamps qrowWaters qtold qlows qhighs qrates hours_ qriskRows qlevels qpointsOf qsums rules_ qruleKinds qruleLevels qholds qalarms qalarmHours qvalues qchecked qrights, aJ qbooks ca 10 books_, aJ qnow ca 12 now_]) (As := [.int j3_0, .int (1 : Int32), .int (1 : Int32)]) (rest := []) (r := r7) hx hb hml hown hts (cn_Model_goes l D ca qa0 qnow qkept qbooks qkeptBooks qconductances qcapacities qrowDamps qrowWaters qtold qlows qhighs qrates qriskRows qlevels qpointsOf qsums qruleKinds qruleLevels qholds qalarms qalarmHours qvalues qchecked qrights thrown_ volume_ share_ layers_ kilograms_ rows_ hours_ rules_ j3_0 (1 : Int32) (1 : Int32) r7 u7_0 e7 _) kc_Model_goes kv_Model_goes tt_831 ⟨by decide, by decide⟩ rfl rfl hP hK hD hS hA [0] [1, 2] [2, 0, 1] rfl (by decide) rfl (by decide) (by decide) rfl (by decide) 0 rfl rfl rfl rfl hl.1 (Nat.le_of_ble_eq_true rfl) rfl nd_Model_book_26 ⟨Nat.zero_le _, Nat.zero_le _⟩ (fun H locs hP hD hS => ?_)
    refine lv_if_ne (tgt := 34) hx hb nd_Model_book_29 (by decide) (fun c8 => ?_) (fun c8 => ?_)
    · replace hR := q_n c8 hR
      refine lv_iload_n hx hb nd_Model_book_34 rfl (lv_at hl 1 rfl) ?_
      refine lv_iconst (v := -1) hx hb nd_Model_book_35 (by decide) ?_
      obtain ⟨j10_0, hJ10, hR⟩ := q_b1 hR
      have hN10 : ∀ (H : Heap) (locs : List Loc) (ls : Array Slot), va_P D vwCl [oc_Model qa0 u7_0 volume_ share_ qnow qkept qbooks qkeptBooks layers_ qconductances qcapacities kilograms_ rows_ qrowDamps qrowWaters qtold qlows qhighs qrates hours_ qriskRows qlevels qpointsOf qsums rules_ qruleKinds qruleLevels qholds qalarms qalarmHours qvalues qchecked qrights, aJ qbooks ca 10 books_, aJ qnow ca 12 now_] H → va_D A [oc_Model qa0 u7_0 volume_ share_ qnow qkept qbooks qkeptBooks layers_ qconductances qcapacities kilograms_ rows_ qrowDamps qrowWaters qtold qlows qhighs qrates hours_ qriskRows qlevels qpointsOf qsums rules_ qruleKinds qruleLevels qholds qalarms qalarmHours qvalues qchecked qrights, aJ qbooks ca 10 books_, aJ qnow ca 12 now_] → va_S A s.heap H locs → lv_has ls 3 [(0, .ref qa0), (1, .int x1), (2, .int x2)] → W p l e rm_Model_book s m ar below meth c H locs 0 0 Q (F0 m 58 ls [.long j10_0]) := by
        intro H locs ls hP hD hS hl
        exact hret (j10_0, u7_0) _ _ _ _ nd_Model_book_58 hR hP hD hS
      refine lv_icmp_ne (tgt := 48) hx hb nd_Model_book_36 (by decide) (fun c9 => ?_) (fun c9 => ?_)
      · have hR := q_n c9 hJ10
        refine lv_aload_n hx hb nd_Model_book_48 rfl (lv_at hl 0 rfl) ?_
        refine va_get (D := D) (ci := 9) (v := .ref qbooks) (C := nR_Model) (T := nT_Model) (N := 32) hx hb hts ni_Model hown hK hP 0 rfl rfl 5 (by decide) (hts (.fieldLink nR_Model 23 "RoomClimateModel" "books" "[J") tt_728) (fun _ h9 => h9) rfl nd_Model_book_49 ?_
        refine lv_iconst (v := 5) hx hb nd_Model_book_52 (by decide) ?_
        refine lv_iload_n hx hb nd_Model_book_53 rfl (lv_at hl 2 rfl) ?_
        refine lv_imul hx hb nd_Model_book_54 ?_
        refine lv_iload_n hx hb nd_Model_book_55 rfl (lv_at hl 1 rfl) ?_
        refine lv_iadd hx hb nd_Model_book_56 ?_
        obtain ⟨h11, hR⟩ := q_ix hR
        refine va_lald hx hb hK hP 1 1 rfl rfl h11 nd_Model_book_57 ?_
        cases hR
        exact hN10 _ _ _ hP hD hS (lv_sub hl [0, 1, 2] rfl)
      · have hR := q_p c9 hJ10
        refine lv_aload_n hx hb nd_Model_book_39 rfl (lv_at hl 0 rfl) ?_
        refine va_get (D := D) (ci := 9) (v := .ref qnow) (C := nR_Model) (T := nT_Model) (N := 32) hx hb hts ni_Model hown hK hP 0 rfl rfl 3 (by decide) (hts (.fieldLink nR_Model 16 "RoomClimateModel" "now" "[J") tt_726) (fun _ h9 => h9) rfl nd_Model_book_40 ?_
        refine lv_iload_n hx hb nd_Model_book_43 rfl (lv_at hl 2 rfl) ?_
        obtain ⟨h12, hR⟩ := q_ix hR
        refine va_lald hx hb hK hP 2 1 rfl rfl h12 nd_Model_book_44 ?_
        refine lv_goto (tgt := 58) hx hb nd_Model_book_45 (by decide) ?_
        cases hR
        exact hN10 _ _ _ hP hD hS (lv_sub hl [0, 1, 2] rfl)
    · replace hR := q_p c8 hR
      refine lv_lconst (v := 0) hx hb nd_Model_book_32 (by decide) ?_
      exact hret ((0 : Int64), u7_0) _ _ _ _ nd_Model_book_33 hR hP hD hS
  refine lv_if_eq (tgt := 23) hx hb nd_Model_book_7 (by decide) (fun c2 => ?_) (fun c2 => ?_)
  · have hR := q_p c2 hJ3
    refine lv_iconst (v := 0) hx hb nd_Model_book_23 (by decide) ?_
    cases hR
    exact hN3 _ _ _ hP hD hS (lv_sub hl [0, 1, 2] rfl)
  · have hR := q_n c2 hJ3
    refine lv_iload_n hx hb nd_Model_book_10 rfl (lv_at hl 2 rfl) ?_
    refine lv_iconst (v := 0) hx hb nd_Model_book_11 (by decide) ?_
    refine lv_iconst (v := 1) hx hb nd_Model_book_12 (by decide) ?_
    obtain ⟨r4, e4, hR⟩ := q_b1 hR
    refine k_rSI (As := [.int x2, .int (0 : Int32), .int (1 : Int32)]) (rest := [.ref qa0]) (r := r4) hx hb hml hown hts (cn_Model_within l D ca x2 (0 : Int32) (1 : Int32) r4 e4) kc_Model_within ks_Model_within tt_828 ⟨by decide, by decide⟩ rfl rfl hP hK [] rfl rfl hl.1 (Nat.le_of_ble_eq_true rfl) rfl nd_Model_book_13 ⟨Nat.zero_le _, Nat.zero_le _⟩ ?_
    obtain ⟨j6_0, hJ6, hR⟩ := q_b1 hR
    have hN6 : ∀ (H : Heap) (locs : List Loc) (ls : Array Slot), va_P D vwCl [oc_Model qa0 thrown_ volume_ share_ qnow qkept qbooks qkeptBooks layers_ qconductances qcapacities kilograms_ rows_ qrowDamps qrowWaters qtold qlows qhighs qrates hours_ qriskRows qlevels qpointsOf qsums rules_ qruleKinds qruleLevels qholds qalarms qalarmHours qvalues qchecked qrights, aJ qbooks ca 10 books_, aJ qnow ca 12 now_] H → va_D A [oc_Model qa0 thrown_ volume_ share_ qnow qkept qbooks qkeptBooks layers_ qconductances qcapacities kilograms_ rows_ qrowDamps qrowWaters qtold qlows qhighs qrates hours_ qriskRows qlevels qpointsOf qsums rules_ qruleKinds qruleLevels qholds qalarms qalarmHours qvalues qchecked qrights, aJ qbooks ca 10 books_, aJ qnow ca 12 now_] → va_S A s.heap H locs → lv_has ls 3 [(0, .ref qa0), (1, .int x1), (2, .int x2)] → W p l e rm_Model_book s m ar below meth c H locs 0 0 Q (F0 m 24 ls [.int j6_0, .ref qa0]) := by
      intro H locs ls hP hD hS hl
      cases hR
      exact hN3 _ _ _ hP hD hS (lv_sub hl [0, 1, 2] rfl)
    refine lv_if_eq (tgt := 23) hx hb nd_Model_book_16 (by decide) (fun c5 => ?_) (fun c5 => ?_)
    · have hR := q_p c5 hJ6
      refine lv_iconst (v := 0) hx hb nd_Model_book_23 (by decide) ?_
      cases hR
      exact hN6 _ _ _ hP hD hS (lv_sub hl [0, 1, 2] rfl)
    · have hR := q_n c5 hJ6
      refine lv_iconst (v := 1) hx hb nd_Model_book_19 (by decide) ?_
      refine lv_goto (tgt := 24) hx hb nd_Model_book_20 (by decide) ?_
      cases hR
      exact hN6 _ _ _ hP hD hS (lv_sub hl [0, 1, 2] rfl)
def rm_Model_dew : Room := { frames := 2, cells := 0, slots := 0, locals := 46 }
theorem kc_Model_dew : k_cal nY_Model_dew nC_Model_dew 4 (some .boolean) 1 := ⟨tt_951, tt_10, by decide +kernel⟩
theorem kv_Model_dew : k_vir nY_Model_dew := ⟨tt_949, tt_950⟩
set_option maxHeartbeats 4000000 in
set_option maxRecDepth 100000 in
theorem cn_Model_dew (l : Launch) (D : va_G) (ca : Nat → ClassId) (qa0 qnow qkept qbooks qkeptBooks qconductances qcapacities qrowDamps qrowWaters qtold qlows qhighs qrates qriskRows qlevels qpointsOf qsums qruleKinds qruleLevels qholds qalarms qalarmHours qvalues qchecked qrights : Nat) (thrown_ : Int32) (volume_ : Int32) (share_ : Int32) (layers_ : Int32) (kilograms_ : Int32) (rows_ : Int32) (hours_ : Int32) (rules_ : Int32) (now_ : Nat → Int64) (capacities_ : Nat → Int32) (x1 : Int32) (R0 : Int32) (R1 : Int32) (hR : fn_Model_dew volume_ layers_ now_ capacities_ x1 = some (R0, R1)) (sz : Nat) : Met l nY_Model_dew (Cond.code nY_Model_dew nC_Model_dew 4 (some .boolean) :: TT) rm_Model_dew (wr_P [.ref qa0, .int x1] D ca [oc_Model qa0 thrown_ volume_ share_ qnow qkept qbooks qkeptBooks layers_ qconductances qcapacities kilograms_ rows_ qrowDamps qrowWaters qtold qlows qhighs qrates hours_ qriskRows qlevels qpointsOf qsums rules_ qruleKinds qruleLevels qholds qalarms qalarmHours qvalues qchecked qrights, aJ qnow ca 12 now_, aI qcapacities ca 5 capacities_] sz) (va_Qi (fun x (_ : Unit) => x = R0) (wr_B D [oc_Model qa0 thrown_ volume_ share_ qnow qkept qbooks qkeptBooks layers_ qconductances qcapacities kilograms_ rows_ qrowDamps qrowWaters qtold qlows qhighs qrates hours_ qriskRows qlevels qpointsOf qsums rules_ qruleKinds qruleLevels qholds qalarms qalarmHours qvalues qchecked qrights, aJ qnow ca 12 now_, aI qcapacities ca 5 capacities_] sz [oc_Model qa0 R1 volume_ share_ qnow qkept qbooks qkeptBooks layers_ qconductances qcapacities kilograms_ rows_ qrowDamps qrowWaters qtold qlows qhighs qrates hours_ qriskRows qlevels qpointsOf qsums rules_ qruleKinds qruleLevels qholds qalarms qalarmHours qvalues qchecked qrights, aJ qnow ca 12 now_, aI qcapacities ca 5 capacities_]) (va_A [oc_Model qa0 thrown_ volume_ share_ qnow qkept qbooks qkeptBooks layers_ qconductances qcapacities kilograms_ rows_ qrowDamps qrowWaters qtold qlows qhighs qrates hours_ qriskRows qlevels qpointsOf qsums rules_ qruleKinds qruleLevels qholds qalarms qalarmHours qvalues qchecked qrights, aJ qnow ca 12 now_, aI qcapacities ca 5 capacities_] sz)) 0 0 (va_A [oc_Model qa0 thrown_ volume_ share_ qnow qkept qbooks qkeptBooks layers_ qconductances qcapacities kilograms_ rows_ qrowDamps qrowWaters qtold qlows qhighs qrates hours_ qriskRows qlevels qpointsOf qsums rules_ qruleKinds qruleLevels qholds qalarms qalarmHours qvalues qchecked qrights, aJ qnow ca 12 now_, aI qcapacities ca 5 capacities_] sz) := by
  refine wr_ofZ (R := (R0, R1)) (val := fun r => r.1) (w1 := fun r : Int32 × Int32 => [oc_Model qa0 r.2 volume_ share_ qnow qkept qbooks qkeptBooks layers_ qconductances qcapacities kilograms_ rows_ qrowDamps qrowWaters qtold qlows qhighs qrates hours_ qriskRows qlevels qpointsOf qsums rules_ qruleKinds qruleLevels qholds qalarms qalarmHours qvalues qchecked qrights, aJ qnow ca 12 now_, aI qcapacities ca 5 capacities_]) (by decide +kernel) (Nat.le_of_ble_eq_true rfl) ?_
  intro p e s m below meth c Q ar ls hx hb hml hts hown hP hK A hD hA hl hret
  have hS : va_S A s.heap s.heap [] := va_S.rf
  have hown : s.vm.findClass nR_Model = some m.cls := hown
  have hl : lv_has ls 4 [(0, .ref qa0), (1, .int x1)] := hl
  unfold fn_Model_dew at hR
  refine lv_aload_n hx hb nd_Model_dew_0 rfl (lv_at hl 0 rfl) ?_
  refine lv_aload_n hx hb nd_Model_dew_1 rfl (lv_at hl 0 rfl) ?_
  refine lv_iload_n hx hb nd_Model_dew_2 rfl (lv_at hl 1 rfl) ?_
  obtain ⟨r1, e1, hR⟩ := q_b1 hR
  refine k_rVI (As := [.int x1]) (rest := [.ref qa0]) (r := r1) hx hb hml hown hts (cn_Model_isLayer l D ca qa0 qnow qkept qbooks qkeptBooks qconductances qcapacities qrowDamps qrowWaters qtold qlows qhighs qrates qriskRows qlevels qpointsOf qsums qruleKinds qruleLevels qholds qalarms qalarmHours qvalues qchecked qrights thrown_ volume_ share_ layers_ kilograms_ rows_ hours_ rules_ x1 r1 e1) kc_Model_isLayer kv_Model_isLayer tt_932 ⟨by decide, by decide⟩ rfl rfl hP hK [0] rfl 0 rfl rfl rfl rfl hl.1 (Nat.le_of_ble_eq_true rfl) rfl nd_Model_dew_3 ⟨Nat.zero_le _, Nat.zero_le _⟩ ?_
  refine lv_iconst (v := 1) hx hb nd_Model_dew_6 (by decide) ?_
  refine lv_iconst (v := 1) hx hb nd_Model_dew_7 (by decide) ?_
  obtain ⟨r2, u2_0, e2, hR⟩ := q_b2 hR
  refine k_wVI (wr := [aJ qnow ca 12 now_, aI qcapacities ca 5 capacities_]) (w2 := [oc_Model qa0 u2_0 volume_ share_ qnow qkept qbooks qkeptBooks layers_ qconductances qcapacities kilograms_ rows_ qrowDamps qrowWaters qtold qlows qhighs qrates hours_ qriskRows qlevels qpointsOf qsums rules_ qruleKinds qruleLevels qholds qalarms qalarmHours qvalues qchecked qrights, aJ qnow ca 12 now_, aI qcapacities ca 5 capacities_]) (As := [.int r1, .int (1 : Int32), .int (1 : Int32)]) (rest := []) (r := r2) hx hb hml hown hts (cn_Model_goes l D ca qa0 qnow qkept qbooks qkeptBooks qconductances qcapacities qrowDamps qrowWaters qtold qlows qhighs qrates qriskRows qlevels qpointsOf qsums qruleKinds qruleLevels qholds qalarms qalarmHours qvalues qchecked qrights thrown_ volume_ share_ layers_ kilograms_ rows_ hours_ rules_ r1 (1 : Int32) (1 : Int32) r2 u2_0 e2 _) kc_Model_goes kv_Model_goes tt_831 ⟨by decide, by decide⟩ rfl rfl hP hK hD hS hA [0] [1, 2] [2, 0, 1] rfl (by decide) rfl (by decide) (by decide) rfl (by decide) 0 rfl rfl rfl rfl hl.1 (Nat.le_of_ble_eq_true rfl) rfl nd_Model_dew_8 ⟨Nat.zero_le _, Nat.zero_le _⟩ (fun H locs hP hD hS => ?_)
  refine lv_if_ne (tgt := 16) hx hb nd_Model_dew_11 (by decide) (fun c3 => ?_) (fun c3 => ?_)
  · replace hR := q_n c3 hR
    refine lv_aload_n hx hb nd_Model_dew_16 rfl (lv_at hl 0 rfl) ?_
    refine lv_iload_n hx hb nd_Model_dew_17 rfl (lv_at hl 1 rfl) ?_
    obtain ⟨r4, e4, hR⟩ := q_b1 hR
    refine k_rVJ (As := [.int x1]) (rest := []) (r := r4) hx hb hml hown hts (cn_Model_layerNow l D ca qa0 qnow qkept qbooks qkeptBooks qconductances qcapacities qrowDamps qrowWaters qtold qlows qhighs qrates qriskRows qlevels qpointsOf qsums qruleKinds qruleLevels qholds qalarms qalarmHours qvalues qchecked qrights u2_0 volume_ share_ layers_ kilograms_ rows_ hours_ rules_ now_ capacities_ x1 r4 e4) kc_Model_layerNow kv_Model_layerNow tt_893 ⟨by decide, by decide⟩ rfl rfl hP hK [0, 1, 2] rfl 0 rfl rfl rfl rfl hl.1 (Nat.le_of_ble_eq_true rfl) rfl nd_Model_dew_18 ⟨Nat.zero_le _, Nat.zero_le _⟩ ?_
    refine lv_lconst (v := 0) hx hb nd_Model_dew_21 (by decide) ?_
    refine W.lcmp hx hb nd_Model_dew_22 ?_
    obtain ⟨j6_0, hJ6, hR⟩ := q_b1 hR
    have hN6 : ∀ (H : Heap) (locs : List Loc) (ls : Array Slot), va_P D vwCl [oc_Model qa0 u2_0 volume_ share_ qnow qkept qbooks qkeptBooks layers_ qconductances qcapacities kilograms_ rows_ qrowDamps qrowWaters qtold qlows qhighs qrates hours_ qriskRows qlevels qpointsOf qsums rules_ qruleKinds qruleLevels qholds qalarms qalarmHours qvalues qchecked qrights, aJ qnow ca 12 now_, aI qcapacities ca 5 capacities_] H → va_D A [oc_Model qa0 u2_0 volume_ share_ qnow qkept qbooks qkeptBooks layers_ qconductances qcapacities kilograms_ rows_ qrowDamps qrowWaters qtold qlows qhighs qrates hours_ qriskRows qlevels qpointsOf qsums rules_ qruleKinds qruleLevels qholds qalarms qalarmHours qvalues qchecked qrights, aJ qnow ca 12 now_, aI qcapacities ca 5 capacities_] → va_S A s.heap H locs → lv_has ls 4 [(0, .ref qa0), (1, .int x1)] → W p l e rm_Model_dew s m ar below meth c H locs 0 0 Q (F0 m 35 ls [.long j6_0]) := by
      intro H locs ls hP hD hS hl
      refine lv_lstore_n (lv' := [(2, .long j6_0), (0, .ref qa0), (1, .int x1)]) hx hb nd_Model_dew_35 rfl hl (by decide) rfl (fun ls hl => ?_)
      refine lv_aload_n hx hb nd_Model_dew_36 rfl (lv_at hl 1 rfl) ?_
      obtain ⟨r8, e8, hR⟩ := q_b1 hR
      refine k_rVJ (As := []) (rest := []) (r := r8) hx hb hml hown hts (cn_Model_dampNow l D ca qa0 qnow qkept qbooks qkeptBooks qconductances qcapacities qrowDamps qrowWaters qtold qlows qhighs qrates qriskRows qlevels qpointsOf qsums qruleKinds qruleLevels qholds qalarms qalarmHours qvalues qchecked qrights u2_0 volume_ share_ layers_ kilograms_ rows_ hours_ rules_ now_ r8 e8) kc_Model_dampNow kv_Model_dampNow tt_881 ⟨by decide, by decide⟩ rfl rfl hP hK [0, 1] rfl 0 rfl rfl rfl rfl hl.1 (Nat.le_of_ble_eq_true rfl) rfl nd_Model_dew_37 ⟨Nat.zero_le _, Nat.zero_le _⟩ ?_
      refine lv_lload_n hx hb nd_Model_dew_40 rfl (lv_at hl 0 rfl) ?_
      refine W.lcmp hx hb nd_Model_dew_41 ?_
      obtain ⟨j10_0, hJ10, hR⟩ := q_b1 hR
      have hN10 : ∀ (H : Heap) (locs : List Loc) (ls : Array Slot), va_P D vwCl [oc_Model qa0 u2_0 volume_ share_ qnow qkept qbooks qkeptBooks layers_ qconductances qcapacities kilograms_ rows_ qrowDamps qrowWaters qtold qlows qhighs qrates hours_ qriskRows qlevels qpointsOf qsums rules_ qruleKinds qruleLevels qholds qalarms qalarmHours qvalues qchecked qrights, aJ qnow ca 12 now_, aI qcapacities ca 5 capacities_] H → va_D A [oc_Model qa0 u2_0 volume_ share_ qnow qkept qbooks qkeptBooks layers_ qconductances qcapacities kilograms_ rows_ qrowDamps qrowWaters qtold qlows qhighs qrates hours_ qriskRows qlevels qpointsOf qsums rules_ qruleKinds qruleLevels qholds qalarms qalarmHours qvalues qchecked qrights, aJ qnow ca 12 now_, aI qcapacities ca 5 capacities_] → va_S A s.heap H locs → lv_has ls 4 [(0, .ref qa0), (1, .int x1), (2, .long j6_0)] → W p l e rm_Model_dew s m ar below meth c H locs 0 0 Q (F0 m 50 ls [.int j10_0]) := by
        intro H locs ls hP hD hS hl
        obtain ⟨h11, hR⟩ := q_bz hR
        exact hret (j10_0, u2_0) _ _ _ _ nd_Model_dew_50 h11 hR hP hD hS
      refine lv_if_le (tgt := 49) hx hb nd_Model_dew_42 (by decide) (fun c9 => ?_) (fun c9 => ?_)
      · have hR := q_p c9 hJ10
        refine lv_iconst (v := 0) hx hb nd_Model_dew_49 (by decide) ?_
        cases hR
        exact hN10 _ _ _ hP hD hS (lv_sub hl [1, 2, 0] rfl)
      · have hR := q_n c9 hJ10
        refine lv_iconst (v := 1) hx hb nd_Model_dew_45 (by decide) ?_
        refine lv_goto (tgt := 50) hx hb nd_Model_dew_46 (by decide) ?_
        cases hR
        exact hN10 _ _ _ hP hD hS (lv_sub hl [1, 2, 0] rfl)
    refine lv_if_ge (tgt := 30) hx hb nd_Model_dew_23 (by decide) (fun c5 => ?_) (fun c5 => ?_)
    · have hR := q_p c5 hJ6
      refine lv_aload_n hx hb nd_Model_dew_30 rfl (lv_at hl 0 rfl) ?_
      refine lv_iload_n hx hb nd_Model_dew_31 rfl (lv_at hl 1 rfl) ?_
      obtain ⟨r7, e7, hR⟩ := q_b1 hR
      refine k_rVJ (As := [.int x1]) (rest := []) (r := r7) hx hb hml hown hts (cn_Model_layerNow l D ca qa0 qnow qkept qbooks qkeptBooks qconductances qcapacities qrowDamps qrowWaters qtold qlows qhighs qrates qriskRows qlevels qpointsOf qsums qruleKinds qruleLevels qholds qalarms qalarmHours qvalues qchecked qrights u2_0 volume_ share_ layers_ kilograms_ rows_ hours_ rules_ now_ capacities_ x1 r7 e7) kc_Model_layerNow kv_Model_layerNow tt_893 ⟨by decide, by decide⟩ rfl rfl hP hK [0, 1, 2] rfl 0 rfl rfl rfl rfl hl.1 (Nat.le_of_ble_eq_true rfl) rfl nd_Model_dew_32 ⟨Nat.zero_le _, Nat.zero_le _⟩ ?_
      cases hR
      exact hN6 _ _ _ hP hD hS (lv_sub hl [0, 1] rfl)
    · have hR := q_n c5 hJ6
      refine lv_lconst (v := 0) hx hb nd_Model_dew_26 (by decide) ?_
      refine lv_goto (tgt := 35) hx hb nd_Model_dew_27 (by decide) ?_
      cases hR
      exact hN6 _ _ _ hP hD hS (lv_sub hl [0, 1] rfl)
  · replace hR := q_p c3 hR
    refine lv_iconst (v := 0) hx hb nd_Model_dew_14 (by decide) ?_
    exact hret ((0 : Int32), u2_0) _ _ _ _ nd_Model_dew_15 (q_bzn (Or.inl rfl)) hR hP hD hS
def rm_Model_risk : Room := { frames := 2, cells := 0, slots := 0, locals := 42 }
theorem kc_Model_risk : k_cal nY_Model_risk nC_Model_risk 7 (some .int) 3 := ⟨tt_955, tt_10, by decide +kernel⟩
theorem kv_Model_risk : k_vir nY_Model_risk := ⟨tt_953, tt_954⟩
set_option maxHeartbeats 4000000 in
set_option maxRecDepth 100000 in
theorem cn_Model_risk (l : Launch) (D : va_G) (ca : Nat → ClassId) (qa0 qnow qkept qbooks qkeptBooks qconductances qcapacities qrowDamps qrowWaters qtold qlows qhighs qrates qriskRows qlevels qpointsOf qsums qruleKinds qruleLevels qholds qalarms qalarmHours qvalues qchecked qrights : Nat) (thrown_ : Int32) (volume_ : Int32) (share_ : Int32) (layers_ : Int32) (kilograms_ : Int32) (rows_ : Int32) (hours_ : Int32) (rules_ : Int32) (riskRows_ : Nat → Int32) (levels_ : Nat → Int32) (pointsOf_ : Nat → Int32) (x1 : Int32) (x2 : Int32) (x3 : Int32) (R0 : Int32) (R1 : Int32) (R2 : Nat → Int32) (R3 : Nat → Int32) (R4 : Nat → Int32) (hR : fn_Model_risk riskRows_ levels_ pointsOf_ x1 x2 x3 = some (R0, R1, R2, R3, R4)) (sz : Nat) : Met l nY_Model_risk (Cond.code nY_Model_risk nC_Model_risk 7 (some .int) :: TT) rm_Model_risk (wr_P [.ref qa0, .int x1, .int x2, .int x3] D ca [oc_Model qa0 thrown_ volume_ share_ qnow qkept qbooks qkeptBooks layers_ qconductances qcapacities kilograms_ rows_ qrowDamps qrowWaters qtold qlows qhighs qrates hours_ qriskRows qlevels qpointsOf qsums rules_ qruleKinds qruleLevels qholds qalarms qalarmHours qvalues qchecked qrights, aI qriskRows ca 4 riskRows_, aI qlevels ca 20 levels_, aI qpointsOf ca 20 pointsOf_] sz) (va_Qi (fun x (_ : Unit) => x = R0) (wr_B D [oc_Model qa0 thrown_ volume_ share_ qnow qkept qbooks qkeptBooks layers_ qconductances qcapacities kilograms_ rows_ qrowDamps qrowWaters qtold qlows qhighs qrates hours_ qriskRows qlevels qpointsOf qsums rules_ qruleKinds qruleLevels qholds qalarms qalarmHours qvalues qchecked qrights, aI qriskRows ca 4 riskRows_, aI qlevels ca 20 levels_, aI qpointsOf ca 20 pointsOf_] sz [oc_Model qa0 R1 volume_ share_ qnow qkept qbooks qkeptBooks layers_ qconductances qcapacities kilograms_ rows_ qrowDamps qrowWaters qtold qlows qhighs qrates hours_ qriskRows qlevels qpointsOf qsums rules_ qruleKinds qruleLevels qholds qalarms qalarmHours qvalues qchecked qrights, aI qriskRows ca 4 R4, aI qlevels ca 20 R2, aI qpointsOf ca 20 R3]) (va_A [oc_Model qa0 thrown_ volume_ share_ qnow qkept qbooks qkeptBooks layers_ qconductances qcapacities kilograms_ rows_ qrowDamps qrowWaters qtold qlows qhighs qrates hours_ qriskRows qlevels qpointsOf qsums rules_ qruleKinds qruleLevels qholds qalarms qalarmHours qvalues qchecked qrights, aI qriskRows ca 4 riskRows_, aI qlevels ca 20 levels_, aI qpointsOf ca 20 pointsOf_] sz)) 0 0 (va_A [oc_Model qa0 thrown_ volume_ share_ qnow qkept qbooks qkeptBooks layers_ qconductances qcapacities kilograms_ rows_ qrowDamps qrowWaters qtold qlows qhighs qrates hours_ qriskRows qlevels qpointsOf qsums rules_ qruleKinds qruleLevels qholds qalarms qalarmHours qvalues qchecked qrights, aI qriskRows ca 4 riskRows_, aI qlevels ca 20 levels_, aI qpointsOf ca 20 pointsOf_] sz) := by
  refine wr_ofI (R := (R0, R1, R2, R3, R4)) (val := fun r => r.1) (w1 := fun r : Int32 × Int32 × (Nat → Int32) × (Nat → Int32) × (Nat → Int32) => [oc_Model qa0 r.2.1 volume_ share_ qnow qkept qbooks qkeptBooks layers_ qconductances qcapacities kilograms_ rows_ qrowDamps qrowWaters qtold qlows qhighs qrates hours_ qriskRows qlevels qpointsOf qsums rules_ qruleKinds qruleLevels qholds qalarms qalarmHours qvalues qchecked qrights, aI qriskRows ca 4 r.2.2.2.2, aI qlevels ca 20 r.2.2.1, aI qpointsOf ca 20 r.2.2.2.1]) (by decide +kernel) (Nat.le_of_ble_eq_true rfl) ?_
  intro p e s m below meth c Q ar ls hx hb hml hts hown hP hK A hD hA hl hret
  have hS : va_S A s.heap s.heap [] := va_S.rf
  have hown : s.vm.findClass nR_Model = some m.cls := hown
  have hl : lv_has ls 7 [(0, .ref qa0), (1, .int x1), (2, .int x2), (3, .int x3)] := hl
  unfold fn_Model_risk at hR
  refine lv_iload_n hx hb nd_Model_risk_0 rfl (lv_at hl 1 rfl) ?_
  refine lv_iconst (v := 0) hx hb nd_Model_risk_1 (by decide) ?_
  refine lv_iconst (v := 3) hx hb nd_Model_risk_2 (by decide) ?_
  obtain ⟨r1, e1, hR⟩ := q_b1 hR
  refine k_rSI (As := [.int x1, .int (0 : Int32), .int (3 : Int32)]) (rest := []) (r := r1) hx hb hml hown hts (cn_Model_within l D ca x1 (0 : Int32) (3 : Int32) r1 e1) kc_Model_within ks_Model_within tt_828 ⟨by decide, by decide⟩ rfl rfl hP hK [] rfl rfl hl.1 (Nat.le_of_ble_eq_true rfl) rfl nd_Model_risk_3 ⟨Nat.zero_le _, Nat.zero_le _⟩ ?_
  refine lv_istore (lv' := [(4, .int r1), (0, .ref qa0), (1, .int x1), (2, .int x2), (3, .int x3)]) hx hb nd_Model_risk_6 hl (by decide) rfl (fun ls hl => ?_)
  refine lv_iload hx hb nd_Model_risk_8 (lv_at hl 0 rfl) ?_
  obtain ⟨j3_0, hJ3, hR⟩ := q_b1 hR
  have hN3 : ∀ (H : Heap) (locs : List Loc) (ls : Array Slot), va_P D vwCl [oc_Model qa0 thrown_ volume_ share_ qnow qkept qbooks qkeptBooks layers_ qconductances qcapacities kilograms_ rows_ qrowDamps qrowWaters qtold qlows qhighs qrates hours_ qriskRows qlevels qpointsOf qsums rules_ qruleKinds qruleLevels qholds qalarms qalarmHours qvalues qchecked qrights, aI qriskRows ca 4 riskRows_, aI qlevels ca 20 levels_, aI qpointsOf ca 20 pointsOf_] H → va_D A [oc_Model qa0 thrown_ volume_ share_ qnow qkept qbooks qkeptBooks layers_ qconductances qcapacities kilograms_ rows_ qrowDamps qrowWaters qtold qlows qhighs qrates hours_ qriskRows qlevels qpointsOf qsums rules_ qruleKinds qruleLevels qholds qalarms qalarmHours qvalues qchecked qrights, aI qriskRows ca 4 riskRows_, aI qlevels ca 20 levels_, aI qpointsOf ca 20 pointsOf_] → va_S A s.heap H locs → lv_has ls 7 [(0, .ref qa0), (1, .int x1), (2, .int x2), (3, .int x3), (4, .int r1)] → W p l e rm_Model_risk s m ar below meth c H locs 0 0 Q (F0 m 23 ls [.int j3_0]) := by
    intro H locs ls hP hD hS hl
    refine lv_istore (lv' := [(5, .int j3_0), (0, .ref qa0), (1, .int x1), (2, .int x2), (3, .int x3), (4, .int r1)]) hx hb nd_Model_risk_23 hl (by decide) rfl (fun ls hl => ?_)
    refine lv_iload hx hb nd_Model_risk_25 (lv_at hl 0 rfl) ?_
    obtain ⟨j6_0, hJ6, hR⟩ := q_b1 hR
    have hN6 : ∀ (H : Heap) (locs : List Loc) (ls : Array Slot), va_P D vwCl [oc_Model qa0 thrown_ volume_ share_ qnow qkept qbooks qkeptBooks layers_ qconductances qcapacities kilograms_ rows_ qrowDamps qrowWaters qtold qlows qhighs qrates hours_ qriskRows qlevels qpointsOf qsums rules_ qruleKinds qruleLevels qholds qalarms qalarmHours qvalues qchecked qrights, aI qriskRows ca 4 riskRows_, aI qlevels ca 20 levels_, aI qpointsOf ca 20 pointsOf_] H → va_D A [oc_Model qa0 thrown_ volume_ share_ qnow qkept qbooks qkeptBooks layers_ qconductances qcapacities kilograms_ rows_ qrowDamps qrowWaters qtold qlows qhighs qrates hours_ qriskRows qlevels qpointsOf qsums rules_ qruleKinds qruleLevels qholds qalarms qalarmHours qvalues qchecked qrights, aI qriskRows ca 4 riskRows_, aI qlevels ca 20 levels_, aI qpointsOf ca 20 pointsOf_] → va_S A s.heap H locs → lv_has ls 7 [(0, .ref qa0), (1, .int x1), (2, .int x2), (3, .int x3), (4, .int r1), (5, .int j3_0)] → W p l e rm_Model_risk s m ar below meth c H locs 0 0 Q (F0 m 52 ls [.int j6_0]) := by
      intro H locs ls hP hD hS hl
      refine lv_istore (lv' := [(6, .int j6_0), (0, .ref qa0), (1, .int x1), (2, .int x2), (3, .int x3), (4, .int r1), (5, .int j3_0)]) hx hb nd_Model_risk_52 hl (by decide) rfl (fun ls hl => ?_)
      refine lv_aload_n hx hb nd_Model_risk_54 rfl (lv_at hl 1 rfl) ?_
      refine lv_iload hx hb nd_Model_risk_55 (lv_at hl 5 rfl) ?_
      refine lv_iload hx hb nd_Model_risk_57 (lv_at hl 6 rfl) ?_
      refine lv_iconst (v := 5) hx hb nd_Model_risk_59 (by decide) ?_
      obtain ⟨j11_0, hJ11, hR⟩ := q_b1 hR
      have hN11 : ∀ (H : Heap) (locs : List Loc) (ls : Array Slot), va_P D vwCl [oc_Model qa0 thrown_ volume_ share_ qnow qkept qbooks qkeptBooks layers_ qconductances qcapacities kilograms_ rows_ qrowDamps qrowWaters qtold qlows qhighs qrates hours_ qriskRows qlevels qpointsOf qsums rules_ qruleKinds qruleLevels qholds qalarms qalarmHours qvalues qchecked qrights, aI qriskRows ca 4 riskRows_, aI qlevels ca 20 levels_, aI qpointsOf ca 20 pointsOf_] H → va_D A [oc_Model qa0 thrown_ volume_ share_ qnow qkept qbooks qkeptBooks layers_ qconductances qcapacities kilograms_ rows_ qrowDamps qrowWaters qtold qlows qhighs qrates hours_ qriskRows qlevels qpointsOf qsums rules_ qruleKinds qruleLevels qholds qalarms qalarmHours qvalues qchecked qrights, aI qriskRows ca 4 riskRows_, aI qlevels ca 20 levels_, aI qpointsOf ca 20 pointsOf_] → va_S A s.heap H locs → lv_has ls 7 [(0, .ref qa0), (1, .int x1), (2, .int x2), (3, .int x3), (4, .int r1), (5, .int j3_0), (6, .int j6_0)] → W p l e rm_Model_risk s m ar below meth c H locs 0 0 Q (F0 m 68 ls [.int j11_0, .int r1, .ref qa0]) := by
        intro H locs ls hP hD hS hl
        refine lv_iload_n hx hb nd_Model_risk_68 rfl (lv_at hl 2 rfl) ?_
        obtain ⟨r12, e12, hR⟩ := q_b1 hR
        refine k_rSI (As := [.int x2]) (rest := [.int j11_0, .int r1, .ref qa0]) (r := r12) hx hb hml hown hts (cn_Model_isLevel l D ca x2 r12 e12) kc_Model_isLevel ks_Model_isLevel tt_853 ⟨by decide, by decide⟩ rfl rfl hP hK [] rfl rfl hl.1 (Nat.le_of_ble_eq_true rfl) rfl nd_Model_risk_69 ⟨Nat.zero_le _, Nat.zero_le _⟩ ?_
        obtain ⟨j14_0, hJ14, hR⟩ := q_b1 hR
        have hN14 : ∀ (H : Heap) (locs : List Loc) (ls : Array Slot), va_P D vwCl [oc_Model qa0 thrown_ volume_ share_ qnow qkept qbooks qkeptBooks layers_ qconductances qcapacities kilograms_ rows_ qrowDamps qrowWaters qtold qlows qhighs qrates hours_ qriskRows qlevels qpointsOf qsums rules_ qruleKinds qruleLevels qholds qalarms qalarmHours qvalues qchecked qrights, aI qriskRows ca 4 riskRows_, aI qlevels ca 20 levels_, aI qpointsOf ca 20 pointsOf_] H → va_D A [oc_Model qa0 thrown_ volume_ share_ qnow qkept qbooks qkeptBooks layers_ qconductances qcapacities kilograms_ rows_ qrowDamps qrowWaters qtold qlows qhighs qrates hours_ qriskRows qlevels qpointsOf qsums rules_ qruleKinds qruleLevels qholds qalarms qalarmHours qvalues qchecked qrights, aI qriskRows ca 4 riskRows_, aI qlevels ca 20 levels_, aI qpointsOf ca 20 pointsOf_] → va_S A s.heap H locs → lv_has ls 7 [(0, .ref qa0), (1, .int x1), (2, .int x2), (3, .int x3), (4, .int r1), (5, .int j3_0), (6, .int j6_0)] → W p l e rm_Model_risk s m ar below meth c H locs 0 0 Q (F0 m 96 ls [.int j14_0, .int j11_0, .int r1, .ref qa0]) := by
          intro H locs ls hP hD hS hl
          obtain ⟨r20, u20_0, e20, hR⟩ := q_b2 hR
          refine k_wVI (wr := [aI qriskRows ca 4 riskRows_, aI qlevels ca 20 levels_, aI qpointsOf ca 20 pointsOf_]) (w2 := [oc_Model qa0 u20_0 volume_ share_ qnow qkept qbooks qkeptBooks layers_ qconductances qcapacities kilograms_ rows_ qrowDamps qrowWaters qtold qlows qhighs qrates hours_ qriskRows qlevels qpointsOf qsums rules_ qruleKinds qruleLevels qholds qalarms qalarmHours qvalues qchecked qrights, aI qriskRows ca 4 riskRows_, aI qlevels ca 20 levels_, aI qpointsOf ca 20 pointsOf_]) (As := [.int r1, .int j11_0, .int j14_0]) (rest := []) (r := r20) hx hb hml hown hts (cn_Model_goes l D ca qa0 qnow qkept qbooks qkeptBooks qconductances qcapacities qrowDamps qrowWaters qtold qlows qhighs qrates qriskRows qlevels qpointsOf qsums qruleKinds qruleLevels qholds qalarms qalarmHours qvalues qchecked qrights thrown_ volume_ share_ layers_ kilograms_ rows_ hours_ rules_ r1 j11_0 j14_0 r20 u20_0 e20 _) kc_Model_goes kv_Model_goes tt_831 ⟨by decide, by decide⟩ rfl rfl hP hK hD hS hA [0] [1, 2, 3] [3, 0, 1, 2] rfl (by decide) rfl (by decide) (by decide) rfl (by decide) 0 rfl rfl rfl rfl hl.1 (Nat.le_of_ble_eq_true rfl) rfl nd_Model_risk_96 ⟨Nat.zero_le _, Nat.zero_le _⟩ (fun H locs hP hD hS => ?_)
          refine lv_if_ne (tgt := 104) hx hb nd_Model_risk_99 (by decide) (fun c21 => ?_) (fun c21 => ?_)
          · replace hR := q_n c21 hR
            refine lv_aload_n hx hb nd_Model_risk_104 rfl (lv_at hl 0 rfl) ?_
            refine va_get (D := D) (ci := 9) (v := .ref qlevels) (C := nR_Model) (T := nT_Model) (N := 32) hx hb hts ni_Model hown hK hP 0 rfl rfl 20 (by decide) (hts (.fieldLink nR_Model 58 "RoomClimateModel" "levels" "[I") tt_743) (fun _ h9 => h9) rfl nd_Model_risk_105 ?_
            refine lv_iconst (v := 5) hx hb nd_Model_risk_108 (by decide) ?_
            refine lv_iload_n hx hb nd_Model_risk_109 rfl (lv_at hl 1 rfl) ?_
            refine lv_imul hx hb nd_Model_risk_110 ?_
            refine lv_iload hx hb nd_Model_risk_111 (lv_at hl 5 rfl) ?_
            refine lv_iadd hx hb nd_Model_risk_113 ?_
            refine lv_iload_n hx hb nd_Model_risk_114 rfl (lv_at hl 2 rfl) ?_
            obtain ⟨h22, hR⟩ := q_ix hR
            refine va_iast hx hb hK hP hD hS 2 0 rfl rfl h22 nd_Model_risk_115 (fun H locs hP hD hS => ?_)
            have hP : va_P D vwCl [oc_Model qa0 u20_0 volume_ share_ qnow qkept qbooks qkeptBooks layers_ qconductances qcapacities kilograms_ rows_ qrowDamps qrowWaters qtold qlows qhighs qrates hours_ qriskRows qlevels qpointsOf qsums rules_ qruleKinds qruleLevels qholds qalarms qalarmHours qvalues qchecked qrights, aI qriskRows ca 4 riskRows_, aI qlevels ca 20 (upd levels_ (((5 : Int32) * x1) + j3_0).toNatClampNeg x2), aI qpointsOf ca 20 pointsOf_] H := hP
            have hD : va_D A [oc_Model qa0 u20_0 volume_ share_ qnow qkept qbooks qkeptBooks layers_ qconductances qcapacities kilograms_ rows_ qrowDamps qrowWaters qtold qlows qhighs qrates hours_ qriskRows qlevels qpointsOf qsums rules_ qruleKinds qruleLevels qholds qalarms qalarmHours qvalues qchecked qrights, aI qriskRows ca 4 riskRows_, aI qlevels ca 20 (upd levels_ (((5 : Int32) * x1) + j3_0).toNatClampNeg x2), aI qpointsOf ca 20 pointsOf_] := hD
            refine lv_aload_n hx hb nd_Model_risk_116 rfl (lv_at hl 0 rfl) ?_
            refine va_get (D := D) (ci := 9) (v := .ref qpointsOf) (C := nR_Model) (T := nT_Model) (N := 32) hx hb hts ni_Model hown hK hP 0 rfl rfl 21 (by decide) (hts (.fieldLink nR_Model 61 "RoomClimateModel" "pointsOf" "[I") tt_744) (fun _ h9 => h9) rfl nd_Model_risk_117 ?_
            refine lv_iconst (v := 5) hx hb nd_Model_risk_120 (by decide) ?_
            refine lv_iload_n hx hb nd_Model_risk_121 rfl (lv_at hl 1 rfl) ?_
            refine lv_imul hx hb nd_Model_risk_122 ?_
            refine lv_iload hx hb nd_Model_risk_123 (lv_at hl 5 rfl) ?_
            refine lv_iadd hx hb nd_Model_risk_125 ?_
            refine lv_iload_n hx hb nd_Model_risk_126 rfl (lv_at hl 3 rfl) ?_
            refine va_iast hx hb hK hP hD hS 3 0 rfl rfl h22 nd_Model_risk_127 (fun H locs hP hD hS => ?_)
            have hP : va_P D vwCl [oc_Model qa0 u20_0 volume_ share_ qnow qkept qbooks qkeptBooks layers_ qconductances qcapacities kilograms_ rows_ qrowDamps qrowWaters qtold qlows qhighs qrates hours_ qriskRows qlevels qpointsOf qsums rules_ qruleKinds qruleLevels qholds qalarms qalarmHours qvalues qchecked qrights, aI qriskRows ca 4 riskRows_, aI qlevels ca 20 (upd levels_ (((5 : Int32) * x1) + j3_0).toNatClampNeg x2), aI qpointsOf ca 20 (upd pointsOf_ (((5 : Int32) * x1) + j3_0).toNatClampNeg x3)] H := hP
            have hD : va_D A [oc_Model qa0 u20_0 volume_ share_ qnow qkept qbooks qkeptBooks layers_ qconductances qcapacities kilograms_ rows_ qrowDamps qrowWaters qtold qlows qhighs qrates hours_ qriskRows qlevels qpointsOf qsums rules_ qruleKinds qruleLevels qholds qalarms qalarmHours qvalues qchecked qrights, aI qriskRows ca 4 riskRows_, aI qlevels ca 20 (upd levels_ (((5 : Int32) * x1) + j3_0).toNatClampNeg x2), aI qpointsOf ca 20 (upd pointsOf_ (((5 : Int32) * x1) + j3_0).toNatClampNeg x3)] := hD
            refine lv_aload_n hx hb nd_Model_risk_128 rfl (lv_at hl 0 rfl) ?_
            refine va_get (D := D) (ci := 9) (v := .ref qriskRows) (C := nR_Model) (T := nT_Model) (N := 32) hx hb hts ni_Model hown hK hP 0 rfl rfl 19 (by decide) (hts (.fieldLink nR_Model 55 "RoomClimateModel" "riskRows" "[I") tt_742) (fun _ h9 => h9) rfl nd_Model_risk_129 ?_
            refine lv_iload_n hx hb nd_Model_risk_132 rfl (lv_at hl 1 rfl) ?_
            refine lv_dup2_11 hx hb nd_Model_risk_133 rfl rfl ?_
            obtain ⟨h23, hR⟩ := q_ix hR
            refine va_iald hx hb hK hP 1 0 rfl rfl h23 nd_Model_risk_134 ?_
            refine lv_iconst (v := 1) hx hb nd_Model_risk_135 (by decide) ?_
            refine lv_iadd hx hb nd_Model_risk_136 ?_
            refine va_iast hx hb hK hP hD hS 1 0 rfl rfl h23 nd_Model_risk_137 (fun H locs hP hD hS => ?_)
            have hP : va_P D vwCl [oc_Model qa0 u20_0 volume_ share_ qnow qkept qbooks qkeptBooks layers_ qconductances qcapacities kilograms_ rows_ qrowDamps qrowWaters qtold qlows qhighs qrates hours_ qriskRows qlevels qpointsOf qsums rules_ qruleKinds qruleLevels qholds qalarms qalarmHours qvalues qchecked qrights, aI qriskRows ca 4 (upd riskRows_ x1.toNatClampNeg ((riskRows_ x1.toNatClampNeg) + (1 : Int32))), aI qlevels ca 20 (upd levels_ (((5 : Int32) * x1) + j3_0).toNatClampNeg x2), aI qpointsOf ca 20 (upd pointsOf_ (((5 : Int32) * x1) + j3_0).toNatClampNeg x3)] H := hP
            have hD : va_D A [oc_Model qa0 u20_0 volume_ share_ qnow qkept qbooks qkeptBooks layers_ qconductances qcapacities kilograms_ rows_ qrowDamps qrowWaters qtold qlows qhighs qrates hours_ qriskRows qlevels qpointsOf qsums rules_ qruleKinds qruleLevels qholds qalarms qalarmHours qvalues qchecked qrights, aI qriskRows ca 4 (upd riskRows_ x1.toNatClampNeg ((riskRows_ x1.toNatClampNeg) + (1 : Int32))), aI qlevels ca 20 (upd levels_ (((5 : Int32) * x1) + j3_0).toNatClampNeg x2), aI qpointsOf ca 20 (upd pointsOf_ (((5 : Int32) * x1) + j3_0).toNatClampNeg x3)] := hD
            refine lv_iload hx hb nd_Model_risk_138 (lv_at hl 5 rfl) ?_
            exact hret (j3_0, u20_0, upd levels_ (((5 : Int32) * x1) + j3_0).toNatClampNeg x2, upd pointsOf_ (((5 : Int32) * x1) + j3_0).toNatClampNeg x3, upd riskRows_ x1.toNatClampNeg ((riskRows_ x1.toNatClampNeg) + (1 : Int32))) _ _ _ _ nd_Model_risk_140 hR hP hD hS
          · replace hR := q_p c21 hR
            refine lv_iconst (v := 0) hx hb nd_Model_risk_102 (by decide) ?_
            exact hret ((0 : Int32), u20_0, levels_, pointsOf_, riskRows_) _ _ _ _ nd_Model_risk_103 hR hP hD hS
        refine lv_if_eq (tgt := 95) hx hb nd_Model_risk_72 (by decide) (fun c13 => ?_) (fun c13 => ?_)
        · have hR := q_p c13 hJ14
          refine lv_iconst (v := 0) hx hb nd_Model_risk_95 (by decide) ?_
          cases hR
          exact hN14 _ _ _ hP hD hS (lv_sub hl [0, 1, 2, 3, 4, 5, 6] rfl)
        · have hR := q_n c13 hJ14
          refine lv_iload_n hx hb nd_Model_risk_75 rfl (lv_at hl 3 rfl) ?_
          refine lv_iconst (v := 0) hx hb nd_Model_risk_76 (by decide) ?_
          refine lv_sipush (v := 1000) hx hb nd_Model_risk_77 (by decide) ?_
          obtain ⟨r15, e15, hR⟩ := q_b1 hR
          refine k_rSI (As := [.int x3, .int (0 : Int32), .int (1000 : Int32)]) (rest := [.int j11_0, .int r1, .ref qa0]) (r := r15) hx hb hml hown hts (cn_Model_within l D ca x3 (0 : Int32) (1000 : Int32) r15 e15) kc_Model_within ks_Model_within tt_828 ⟨by decide, by decide⟩ rfl rfl hP hK [] rfl rfl hl.1 (Nat.le_of_ble_eq_true rfl) rfl nd_Model_risk_80 ⟨Nat.zero_le _, Nat.zero_le _⟩ ?_
          obtain ⟨j17_0, hJ17, hR⟩ := q_b1 hR
          have hN17 : ∀ (H : Heap) (locs : List Loc) (ls : Array Slot), va_P D vwCl [oc_Model qa0 thrown_ volume_ share_ qnow qkept qbooks qkeptBooks layers_ qconductances qcapacities kilograms_ rows_ qrowDamps qrowWaters qtold qlows qhighs qrates hours_ qriskRows qlevels qpointsOf qsums rules_ qruleKinds qruleLevels qholds qalarms qalarmHours qvalues qchecked qrights, aI qriskRows ca 4 riskRows_, aI qlevels ca 20 levels_, aI qpointsOf ca 20 pointsOf_] H → va_D A [oc_Model qa0 thrown_ volume_ share_ qnow qkept qbooks qkeptBooks layers_ qconductances qcapacities kilograms_ rows_ qrowDamps qrowWaters qtold qlows qhighs qrates hours_ qriskRows qlevels qpointsOf qsums rules_ qruleKinds qruleLevels qholds qalarms qalarmHours qvalues qchecked qrights, aI qriskRows ca 4 riskRows_, aI qlevels ca 20 levels_, aI qpointsOf ca 20 pointsOf_] → va_S A s.heap H locs → lv_has ls 7 [(0, .ref qa0), (1, .int x1), (2, .int x2), (3, .int x3), (4, .int r1), (5, .int j3_0), (6, .int j6_0)] → W p l e rm_Model_risk s m ar below meth c H locs 0 0 Q (F0 m 96 ls [.int j17_0, .int j11_0, .int r1, .ref qa0]) := by
            intro H locs ls hP hD hS hl
            cases hR
            exact hN14 _ _ _ hP hD hS (lv_sub hl [0, 1, 2, 3, 4, 5, 6] rfl)
          refine lv_if_eq (tgt := 95) hx hb nd_Model_risk_83 (by decide) (fun c16 => ?_) (fun c16 => ?_)
          · have hR := q_p c16 hJ17
            refine lv_iconst (v := 0) hx hb nd_Model_risk_95 (by decide) ?_
            cases hR
            exact hN17 _ _ _ hP hD hS (lv_sub hl [0, 1, 2, 3, 4, 5, 6] rfl)
          · have hR := q_n c16 hJ17
            refine lv_iload hx hb nd_Model_risk_86 (lv_at hl 6 rfl) ?_
            obtain ⟨j19_0, hJ19, hR⟩ := q_b1 hR
            have hN19 : ∀ (H : Heap) (locs : List Loc) (ls : Array Slot), va_P D vwCl [oc_Model qa0 thrown_ volume_ share_ qnow qkept qbooks qkeptBooks layers_ qconductances qcapacities kilograms_ rows_ qrowDamps qrowWaters qtold qlows qhighs qrates hours_ qriskRows qlevels qpointsOf qsums rules_ qruleKinds qruleLevels qholds qalarms qalarmHours qvalues qchecked qrights, aI qriskRows ca 4 riskRows_, aI qlevels ca 20 levels_, aI qpointsOf ca 20 pointsOf_] H → va_D A [oc_Model qa0 thrown_ volume_ share_ qnow qkept qbooks qkeptBooks layers_ qconductances qcapacities kilograms_ rows_ qrowDamps qrowWaters qtold qlows qhighs qrates hours_ qriskRows qlevels qpointsOf qsums rules_ qruleKinds qruleLevels qholds qalarms qalarmHours qvalues qchecked qrights, aI qriskRows ca 4 riskRows_, aI qlevels ca 20 levels_, aI qpointsOf ca 20 pointsOf_] → va_S A s.heap H locs → lv_has ls 7 [(0, .ref qa0), (1, .int x1), (2, .int x2), (3, .int x3), (4, .int r1), (5, .int j3_0), (6, .int j6_0)] → W p l e rm_Model_risk s m ar below meth c H locs 0 0 Q (F0 m 96 ls [.int j19_0, .int j11_0, .int r1, .ref qa0]) := by
              intro H locs ls hP hD hS hl
              cases hR
              exact hN17 _ _ _ hP hD hS (lv_sub hl [0, 1, 2, 3, 4, 5, 6] rfl)
            refine lv_if_eq (tgt := 95) hx hb nd_Model_risk_88 (by decide) (fun c18 => ?_) (fun c18 => ?_)
            · have hR := q_p c18 hJ19
              refine lv_iconst (v := 0) hx hb nd_Model_risk_95 (by decide) ?_
              cases hR
              exact hN19 _ _ _ hP hD hS (lv_sub hl [0, 1, 2, 3, 4, 5, 6] rfl)
            · have hR := q_n c18 hJ19
              refine lv_iconst (v := 1) hx hb nd_Model_risk_91 (by decide) ?_
              refine lv_goto (tgt := 96) hx hb nd_Model_risk_92 (by decide) ?_
              cases hR
              exact hN19 _ _ _ hP hD hS (lv_sub hl [0, 1, 2, 3, 4, 5, 6] rfl)
      refine lv_icmp_ge (tgt := 67) hx hb nd_Model_risk_60 (by decide) (fun c10 => ?_) (fun c10 => ?_)
      · have hR := q_p c10 hJ11
        refine lv_iconst (v := 0) hx hb nd_Model_risk_67 (by decide) ?_
        cases hR
        exact hN11 _ _ _ hP hD hS (lv_sub hl [1, 2, 3, 4, 5, 6, 0] rfl)
      · have hR := q_n c10 hJ11
        refine lv_iconst (v := 1) hx hb nd_Model_risk_63 (by decide) ?_
        refine lv_goto (tgt := 68) hx hb nd_Model_risk_64 (by decide) ?_
        cases hR
        exact hN11 _ _ _ hP hD hS (lv_sub hl [1, 2, 3, 4, 5, 6, 0] rfl)
    refine lv_if_eq (tgt := 47) hx hb nd_Model_risk_27 (by decide) (fun c5 => ?_) (fun c5 => ?_)
    · have hR := q_p c5 hJ6
      refine lv_iconst (v := 1) hx hb nd_Model_risk_47 (by decide) ?_
      refine lv_goto (tgt := 52) hx hb nd_Model_risk_48 (by decide) ?_
      cases hR
      exact hN6 _ _ _ hP hD hS (lv_sub hl [1, 2, 3, 4, 5, 0] rfl)
    · have hR := q_n c5 hJ6
      refine lv_iload_n hx hb nd_Model_risk_30 rfl (lv_at hl 3 rfl) ?_
      refine lv_aload_n hx hb nd_Model_risk_31 rfl (lv_at hl 1 rfl) ?_
      refine va_get (D := D) (ci := 9) (v := .ref qlevels) (C := nR_Model) (T := nT_Model) (N := 32) hx hb hts ni_Model hown hK hP 0 rfl rfl 20 (by decide) (hts (.fieldLink nR_Model 58 "RoomClimateModel" "levels" "[I") tt_743) (fun _ h9 => h9) rfl nd_Model_risk_32 ?_
      refine lv_iconst (v := 5) hx hb nd_Model_risk_35 (by decide) ?_
      refine lv_iload_n hx hb nd_Model_risk_36 rfl (lv_at hl 2 rfl) ?_
      refine lv_imul hx hb nd_Model_risk_37 ?_
      refine lv_iload hx hb nd_Model_risk_38 (lv_at hl 0 rfl) ?_
      refine lv_iadd hx hb nd_Model_risk_40 ?_
      refine lv_iconst (v := 1) hx hb nd_Model_risk_41 (by decide) ?_
      refine lv_isub hx hb nd_Model_risk_42 ?_
      obtain ⟨h7, hR⟩ := q_ix hR
      refine va_iald hx hb hK hP 2 0 rfl rfl h7 nd_Model_risk_43 ?_
      obtain ⟨j9_0, hJ9, hR⟩ := q_b1 hR
      have hN9 : ∀ (H : Heap) (locs : List Loc) (ls : Array Slot), va_P D vwCl [oc_Model qa0 thrown_ volume_ share_ qnow qkept qbooks qkeptBooks layers_ qconductances qcapacities kilograms_ rows_ qrowDamps qrowWaters qtold qlows qhighs qrates hours_ qriskRows qlevels qpointsOf qsums rules_ qruleKinds qruleLevels qholds qalarms qalarmHours qvalues qchecked qrights, aI qriskRows ca 4 riskRows_, aI qlevels ca 20 levels_, aI qpointsOf ca 20 pointsOf_] H → va_D A [oc_Model qa0 thrown_ volume_ share_ qnow qkept qbooks qkeptBooks layers_ qconductances qcapacities kilograms_ rows_ qrowDamps qrowWaters qtold qlows qhighs qrates hours_ qriskRows qlevels qpointsOf qsums rules_ qruleKinds qruleLevels qholds qalarms qalarmHours qvalues qchecked qrights, aI qriskRows ca 4 riskRows_, aI qlevels ca 20 levels_, aI qpointsOf ca 20 pointsOf_] → va_S A s.heap H locs → lv_has ls 7 [(0, .ref qa0), (1, .int x1), (2, .int x2), (3, .int x3), (4, .int r1), (5, .int j3_0)] → W p l e rm_Model_risk s m ar below meth c H locs 0 0 Q (F0 m 52 ls [.int j9_0]) := by
        intro H locs ls hP hD hS hl
        cases hR
        exact hN6 _ _ _ hP hD hS (lv_sub hl [0, 1, 2, 3, 4, 5] rfl)
      refine lv_icmp_le (tgt := 51) hx hb nd_Model_risk_44 (by decide) (fun c8 => ?_) (fun c8 => ?_)
      · have hR := q_p c8 hJ9
        refine lv_iconst (v := 0) hx hb nd_Model_risk_51 (by decide) ?_
        cases hR
        exact hN9 _ _ _ hP hD hS (lv_sub hl [1, 2, 3, 4, 5, 0] rfl)
      · have hR := q_n c8 hJ9
        refine lv_iconst (v := 1) hx hb nd_Model_risk_47 (by decide) ?_
        refine lv_goto (tgt := 52) hx hb nd_Model_risk_48 (by decide) ?_
        cases hR
        exact hN9 _ _ _ hP hD hS (lv_sub hl [1, 2, 3, 4, 5, 0] rfl)
  refine lv_if_eq (tgt := 22) hx hb nd_Model_risk_10 (by decide) (fun c2 => ?_) (fun c2 => ?_)
  · have hR := q_p c2 hJ3
    refine lv_iconst (v := 0) hx hb nd_Model_risk_22 (by decide) ?_
    cases hR
    exact hN3 _ _ _ hP hD hS (lv_sub hl [1, 2, 3, 4, 0] rfl)
  · have hR := q_n c2 hJ3
    refine lv_aload_n hx hb nd_Model_risk_13 rfl (lv_at hl 1 rfl) ?_
    refine va_get (D := D) (ci := 9) (v := .ref qriskRows) (C := nR_Model) (T := nT_Model) (N := 32) hx hb hts ni_Model hown hK hP 0 rfl rfl 19 (by decide) (hts (.fieldLink nR_Model 55 "RoomClimateModel" "riskRows" "[I") tt_742) (fun _ h9 => h9) rfl nd_Model_risk_14 ?_
    refine lv_iload_n hx hb nd_Model_risk_17 rfl (lv_at hl 2 rfl) ?_
    obtain ⟨h4, hR⟩ := q_ix hR
    refine va_iald hx hb hK hP 1 0 rfl rfl h4 nd_Model_risk_18 ?_
    refine lv_goto (tgt := 23) hx hb nd_Model_risk_19 (by decide) ?_
    cases hR
    exact hN3 _ _ _ hP hD hS (lv_sub hl [1, 2, 3, 4, 0] rfl)
def rm_Model_points : Room := { frames := 1, cells := 0, slots := 0, locals := 23 }
theorem kc_Model_points : k_cal nY_Model_points nC_Model_points 2 (some .int) 1 := ⟨tt_959, tt_10, by decide +kernel⟩
theorem kv_Model_points : k_vir nY_Model_points := ⟨tt_957, tt_958⟩
set_option maxHeartbeats 4000000 in
set_option maxRecDepth 100000 in
theorem cn_Model_points (l : Launch) (D : va_G) (ca : Nat → ClassId) (qa0 qnow qkept qbooks qkeptBooks qconductances qcapacities qrowDamps qrowWaters qtold qlows qhighs qrates qriskRows qlevels qpointsOf qsums qruleKinds qruleLevels qholds qalarms qalarmHours qvalues qchecked qrights : Nat) (thrown_ : Int32) (volume_ : Int32) (share_ : Int32) (layers_ : Int32) (kilograms_ : Int32) (rows_ : Int32) (hours_ : Int32) (rules_ : Int32) (sums_ : Nat → Int32) (x1 : Int32) (R0 : Int32) (R1 : Int32) (hR : fn_Model_points sums_ x1 = some (R0, R1)) (sz : Nat) : Met l nY_Model_points (Cond.code nY_Model_points nC_Model_points 2 (some .int) :: TT) rm_Model_points (wr_P [.ref qa0, .int x1] D ca [oc_Model qa0 thrown_ volume_ share_ qnow qkept qbooks qkeptBooks layers_ qconductances qcapacities kilograms_ rows_ qrowDamps qrowWaters qtold qlows qhighs qrates hours_ qriskRows qlevels qpointsOf qsums rules_ qruleKinds qruleLevels qholds qalarms qalarmHours qvalues qchecked qrights, aI qsums ca 4 sums_] sz) (va_Qi (fun x (_ : Unit) => x = R0) (wr_B D [oc_Model qa0 thrown_ volume_ share_ qnow qkept qbooks qkeptBooks layers_ qconductances qcapacities kilograms_ rows_ qrowDamps qrowWaters qtold qlows qhighs qrates hours_ qriskRows qlevels qpointsOf qsums rules_ qruleKinds qruleLevels qholds qalarms qalarmHours qvalues qchecked qrights, aI qsums ca 4 sums_] sz [oc_Model qa0 R1 volume_ share_ qnow qkept qbooks qkeptBooks layers_ qconductances qcapacities kilograms_ rows_ qrowDamps qrowWaters qtold qlows qhighs qrates hours_ qriskRows qlevels qpointsOf qsums rules_ qruleKinds qruleLevels qholds qalarms qalarmHours qvalues qchecked qrights, aI qsums ca 4 sums_]) (va_A [oc_Model qa0 thrown_ volume_ share_ qnow qkept qbooks qkeptBooks layers_ qconductances qcapacities kilograms_ rows_ qrowDamps qrowWaters qtold qlows qhighs qrates hours_ qriskRows qlevels qpointsOf qsums rules_ qruleKinds qruleLevels qholds qalarms qalarmHours qvalues qchecked qrights, aI qsums ca 4 sums_] sz)) 0 0 (va_A [oc_Model qa0 thrown_ volume_ share_ qnow qkept qbooks qkeptBooks layers_ qconductances qcapacities kilograms_ rows_ qrowDamps qrowWaters qtold qlows qhighs qrates hours_ qriskRows qlevels qpointsOf qsums rules_ qruleKinds qruleLevels qholds qalarms qalarmHours qvalues qchecked qrights, aI qsums ca 4 sums_] sz) := by
  refine wr_ofI (R := (R0, R1)) (val := fun r => r.1) (w1 := fun r : Int32 × Int32 => [oc_Model qa0 r.2 volume_ share_ qnow qkept qbooks qkeptBooks layers_ qconductances qcapacities kilograms_ rows_ qrowDamps qrowWaters qtold qlows qhighs qrates hours_ qriskRows qlevels qpointsOf qsums rules_ qruleKinds qruleLevels qholds qalarms qalarmHours qvalues qchecked qrights, aI qsums ca 4 sums_]) (by decide +kernel) (Nat.le_of_ble_eq_true rfl) ?_
  intro p e s m below meth c Q ar ls hx hb hml hts hown hP hK A hD hA hl hret
  have hS : va_S A s.heap s.heap [] := va_S.rf
  have hown : s.vm.findClass nR_Model = some m.cls := hown
  have hl : lv_has ls 2 [(0, .ref qa0), (1, .int x1)] := hl
  unfold fn_Model_points at hR
  refine lv_aload_n hx hb nd_Model_points_0 rfl (lv_at hl 0 rfl) ?_
  refine lv_iload_n hx hb nd_Model_points_1 rfl (lv_at hl 1 rfl) ?_
  refine lv_iconst (v := 0) hx hb nd_Model_points_2 (by decide) ?_
  refine lv_iconst (v := 3) hx hb nd_Model_points_3 (by decide) ?_
  obtain ⟨r1, e1, hR⟩ := q_b1 hR
  refine k_rSI (As := [.int x1, .int (0 : Int32), .int (3 : Int32)]) (rest := [.ref qa0]) (r := r1) hx hb hml hown hts (cn_Model_within l D ca x1 (0 : Int32) (3 : Int32) r1 e1) kc_Model_within ks_Model_within tt_828 ⟨by decide, by decide⟩ rfl rfl hP hK [] rfl rfl hl.1 (Nat.le_of_ble_eq_true rfl) rfl nd_Model_points_4 ⟨Nat.zero_le _, Nat.zero_le _⟩ ?_
  refine lv_iconst (v := 1) hx hb nd_Model_points_7 (by decide) ?_
  refine lv_iconst (v := 1) hx hb nd_Model_points_8 (by decide) ?_
  obtain ⟨r2, u2_0, e2, hR⟩ := q_b2 hR
  refine k_wVI (wr := [aI qsums ca 4 sums_]) (w2 := [oc_Model qa0 u2_0 volume_ share_ qnow qkept qbooks qkeptBooks layers_ qconductances qcapacities kilograms_ rows_ qrowDamps qrowWaters qtold qlows qhighs qrates hours_ qriskRows qlevels qpointsOf qsums rules_ qruleKinds qruleLevels qholds qalarms qalarmHours qvalues qchecked qrights, aI qsums ca 4 sums_]) (As := [.int r1, .int (1 : Int32), .int (1 : Int32)]) (rest := []) (r := r2) hx hb hml hown hts (cn_Model_goes l D ca qa0 qnow qkept qbooks qkeptBooks qconductances qcapacities qrowDamps qrowWaters qtold qlows qhighs qrates qriskRows qlevels qpointsOf qsums qruleKinds qruleLevels qholds qalarms qalarmHours qvalues qchecked qrights thrown_ volume_ share_ layers_ kilograms_ rows_ hours_ rules_ r1 (1 : Int32) (1 : Int32) r2 u2_0 e2 _) kc_Model_goes kv_Model_goes tt_831 ⟨by decide, by decide⟩ rfl rfl hP hK hD hS hA [0] [1] [1, 0] rfl (by decide) rfl (by decide) (by decide) rfl (by decide) 0 rfl rfl rfl rfl hl.1 (Nat.le_of_ble_eq_true rfl) rfl nd_Model_points_9 ⟨Nat.zero_le _, Nat.zero_le _⟩ (fun H locs hP hD hS => ?_)
  obtain ⟨j4_0, hJ4, hR⟩ := q_b1 hR
  have hN4 : ∀ (H : Heap) (locs : List Loc) (ls : Array Slot), va_P D vwCl [oc_Model qa0 u2_0 volume_ share_ qnow qkept qbooks qkeptBooks layers_ qconductances qcapacities kilograms_ rows_ qrowDamps qrowWaters qtold qlows qhighs qrates hours_ qriskRows qlevels qpointsOf qsums rules_ qruleKinds qruleLevels qholds qalarms qalarmHours qvalues qchecked qrights, aI qsums ca 4 sums_] H → va_D A [oc_Model qa0 u2_0 volume_ share_ qnow qkept qbooks qkeptBooks layers_ qconductances qcapacities kilograms_ rows_ qrowDamps qrowWaters qtold qlows qhighs qrates hours_ qriskRows qlevels qpointsOf qsums rules_ qruleKinds qruleLevels qholds qalarms qalarmHours qvalues qchecked qrights, aI qsums ca 4 sums_] → va_S A s.heap H locs → lv_has ls 2 [(0, .ref qa0), (1, .int x1)] → W p l e rm_Model_points s m ar below meth c H locs 0 0 Q (F0 m 25 ls [.int j4_0]) := by
    intro H locs ls hP hD hS hl
    exact hret (j4_0, u2_0) _ _ _ _ nd_Model_points_25 hR hP hD hS
  refine lv_if_eq (tgt := 24) hx hb nd_Model_points_12 (by decide) (fun c3 => ?_) (fun c3 => ?_)
  · have hR := q_p c3 hJ4
    refine lv_iconst (v := 0) hx hb nd_Model_points_24 (by decide) ?_
    cases hR
    exact hN4 _ _ _ hP hD hS (lv_sub hl [0, 1] rfl)
  · have hR := q_n c3 hJ4
    refine lv_aload_n hx hb nd_Model_points_15 rfl (lv_at hl 0 rfl) ?_
    refine va_get (D := D) (ci := 9) (v := .ref qsums) (C := nR_Model) (T := nT_Model) (N := 32) hx hb hts ni_Model hown hK hP 0 rfl rfl 22 (by decide) (hts (.fieldLink nR_Model 64 "RoomClimateModel" "sums" "[I") tt_745) (fun _ h9 => h9) rfl nd_Model_points_16 ?_
    refine lv_iload_n hx hb nd_Model_points_19 rfl (lv_at hl 1 rfl) ?_
    obtain ⟨h5, hR⟩ := q_ix hR
    refine va_iald hx hb hK hP 1 0 rfl rfl h5 nd_Model_points_20 ?_
    refine lv_goto (tgt := 25) hx hb nd_Model_points_21 (by decide) ?_
    cases hR
    exact hN4 _ _ _ hP hD hS (lv_sub hl [0, 1] rfl)
def rm_Model_rule : Room := { frames := 2, cells := 0, slots := 0, locals := 42 }
theorem kc_Model_rule : k_cal nY_Model_rule nC_Model_rule 4 (some .int) 3 := ⟨tt_963, tt_10, by decide +kernel⟩
theorem kv_Model_rule : k_vir nY_Model_rule := ⟨tt_961, tt_962⟩
set_option maxHeartbeats 4000000 in
set_option maxRecDepth 100000 in
theorem cn_Model_rule (l : Launch) (D : va_G) (ca : Nat → ClassId) (qa0 qnow qkept qbooks qkeptBooks qconductances qcapacities qrowDamps qrowWaters qtold qlows qhighs qrates qriskRows qlevels qpointsOf qsums qruleKinds qruleLevels qholds qalarms qalarmHours qvalues qchecked qrights : Nat) (thrown_ : Int32) (volume_ : Int32) (share_ : Int32) (layers_ : Int32) (kilograms_ : Int32) (rows_ : Int32) (hours_ : Int32) (rules_ : Int32) (ruleKinds_ : Nat → Int32) (ruleLevels_ : Nat → Int32) (holds_ : Nat → Int32) (x1 : Int32) (x2 : Int32) (x3 : Int32) (R0 : Int32) (R1 : Int32) (R2 : Nat → Int32) (R3 : Nat → Int32) (R4 : Nat → Int32) (R5 : Int32) (hR : fn_Model_rule rules_ ruleKinds_ ruleLevels_ holds_ x1 x2 x3 = some (R0, R1, R2, R3, R4, R5)) (sz : Nat) : Met l nY_Model_rule (Cond.code nY_Model_rule nC_Model_rule 4 (some .int) :: TT) rm_Model_rule (wr_P [.ref qa0, .int x1, .int x2, .int x3] D ca [oc_Model qa0 thrown_ volume_ share_ qnow qkept qbooks qkeptBooks layers_ qconductances qcapacities kilograms_ rows_ qrowDamps qrowWaters qtold qlows qhighs qrates hours_ qriskRows qlevels qpointsOf qsums rules_ qruleKinds qruleLevels qholds qalarms qalarmHours qvalues qchecked qrights, aI qruleKinds ca 4 ruleKinds_, aI qruleLevels ca 4 ruleLevels_, aI qholds ca 4 holds_] sz) (va_Qi (fun x (_ : Unit) => x = R0) (wr_B D [oc_Model qa0 thrown_ volume_ share_ qnow qkept qbooks qkeptBooks layers_ qconductances qcapacities kilograms_ rows_ qrowDamps qrowWaters qtold qlows qhighs qrates hours_ qriskRows qlevels qpointsOf qsums rules_ qruleKinds qruleLevels qholds qalarms qalarmHours qvalues qchecked qrights, aI qruleKinds ca 4 ruleKinds_, aI qruleLevels ca 4 ruleLevels_, aI qholds ca 4 holds_] sz [oc_Model qa0 R1 volume_ share_ qnow qkept qbooks qkeptBooks layers_ qconductances qcapacities kilograms_ rows_ qrowDamps qrowWaters qtold qlows qhighs qrates hours_ qriskRows qlevels qpointsOf qsums R5 qruleKinds qruleLevels qholds qalarms qalarmHours qvalues qchecked qrights, aI qruleKinds ca 4 R2, aI qruleLevels ca 4 R3, aI qholds ca 4 R4]) (va_A [oc_Model qa0 thrown_ volume_ share_ qnow qkept qbooks qkeptBooks layers_ qconductances qcapacities kilograms_ rows_ qrowDamps qrowWaters qtold qlows qhighs qrates hours_ qriskRows qlevels qpointsOf qsums rules_ qruleKinds qruleLevels qholds qalarms qalarmHours qvalues qchecked qrights, aI qruleKinds ca 4 ruleKinds_, aI qruleLevels ca 4 ruleLevels_, aI qholds ca 4 holds_] sz)) 0 0 (va_A [oc_Model qa0 thrown_ volume_ share_ qnow qkept qbooks qkeptBooks layers_ qconductances qcapacities kilograms_ rows_ qrowDamps qrowWaters qtold qlows qhighs qrates hours_ qriskRows qlevels qpointsOf qsums rules_ qruleKinds qruleLevels qholds qalarms qalarmHours qvalues qchecked qrights, aI qruleKinds ca 4 ruleKinds_, aI qruleLevels ca 4 ruleLevels_, aI qholds ca 4 holds_] sz) := by
  refine wr_ofI (R := (R0, R1, R2, R3, R4, R5)) (val := fun r => r.1) (w1 := fun r : Int32 × Int32 × (Nat → Int32) × (Nat → Int32) × (Nat → Int32) × Int32 => [oc_Model qa0 r.2.1 volume_ share_ qnow qkept qbooks qkeptBooks layers_ qconductances qcapacities kilograms_ rows_ qrowDamps qrowWaters qtold qlows qhighs qrates hours_ qriskRows qlevels qpointsOf qsums r.2.2.2.2.2 qruleKinds qruleLevels qholds qalarms qalarmHours qvalues qchecked qrights, aI qruleKinds ca 4 r.2.2.1, aI qruleLevels ca 4 r.2.2.2.1, aI qholds ca 4 r.2.2.2.2.1]) (by decide +kernel) (Nat.le_of_ble_eq_true rfl) ?_
  intro p e s m below meth c Q ar ls hx hb hml hts hown hP hK A hD hA hl hret
  have hS : va_S A s.heap s.heap [] := va_S.rf
  have hown : s.vm.findClass nR_Model = some m.cls := hown
  have hl : lv_has ls 4 [(0, .ref qa0), (1, .int x1), (2, .int x2), (3, .int x3)] := hl
  unfold fn_Model_rule at hR
  refine lv_aload_n hx hb nd_Model_rule_0 rfl (lv_at hl 0 rfl) ?_
  refine lv_aload_n hx hb nd_Model_rule_1 rfl (lv_at hl 0 rfl) ?_
  refine va_get (D := D) (ci := 9) (v := .int rules_) (C := nR_Model) (T := nT_Model) (N := 32) hx hb hts ni_Model hown hK hP 0 rfl rfl 23 (by decide) (hts (.fieldLink nR_Model 169 "RoomClimateModel" "rules" "I") tt_746) (fun _ h9 => h9) rfl nd_Model_rule_2 ?_
  refine lv_iconst (v := 4) hx hb nd_Model_rule_5 (by decide) ?_
  obtain ⟨j2_0, hJ2, hR⟩ := q_b1 hR
  have hN2 : ∀ (H : Heap) (locs : List Loc) (ls : Array Slot), va_P D vwCl [oc_Model qa0 thrown_ volume_ share_ qnow qkept qbooks qkeptBooks layers_ qconductances qcapacities kilograms_ rows_ qrowDamps qrowWaters qtold qlows qhighs qrates hours_ qriskRows qlevels qpointsOf qsums rules_ qruleKinds qruleLevels qholds qalarms qalarmHours qvalues qchecked qrights, aI qruleKinds ca 4 ruleKinds_, aI qruleLevels ca 4 ruleLevels_, aI qholds ca 4 holds_] H → va_D A [oc_Model qa0 thrown_ volume_ share_ qnow qkept qbooks qkeptBooks layers_ qconductances qcapacities kilograms_ rows_ qrowDamps qrowWaters qtold qlows qhighs qrates hours_ qriskRows qlevels qpointsOf qsums rules_ qruleKinds qruleLevels qholds qalarms qalarmHours qvalues qchecked qrights, aI qruleKinds ca 4 ruleKinds_, aI qruleLevels ca 4 ruleLevels_, aI qholds ca 4 holds_] → va_S A s.heap H locs → lv_has ls 4 [(0, .ref qa0), (1, .int x1), (2, .int x2), (3, .int x3)] → W p l e rm_Model_rule s m ar below meth c H locs 0 0 Q (F0 m 14 ls [.int j2_0, .ref qa0]) := by
    intro H locs ls hP hD hS hl
    refine lv_iload_n hx hb nd_Model_rule_14 rfl (lv_at hl 1 rfl) ?_
    refine lv_iconst (v := 0) hx hb nd_Model_rule_15 (by decide) ?_
    refine lv_iconst (v := 3) hx hb nd_Model_rule_16 (by decide) ?_
    obtain ⟨r3, e3, hR⟩ := q_b1 hR
    refine k_rSI (As := [.int x1, .int (0 : Int32), .int (3 : Int32)]) (rest := [.int j2_0, .ref qa0]) (r := r3) hx hb hml hown hts (cn_Model_within l D ca x1 (0 : Int32) (3 : Int32) r3 e3) kc_Model_within ks_Model_within tt_828 ⟨by decide, by decide⟩ rfl rfl hP hK [] rfl rfl hl.1 (Nat.le_of_ble_eq_true rfl) rfl nd_Model_rule_17 ⟨Nat.zero_le _, Nat.zero_le _⟩ ?_
    obtain ⟨j5_0, hJ5, hR⟩ := q_b1 hR
    have hN5 : ∀ (H : Heap) (locs : List Loc) (ls : Array Slot), va_P D vwCl [oc_Model qa0 thrown_ volume_ share_ qnow qkept qbooks qkeptBooks layers_ qconductances qcapacities kilograms_ rows_ qrowDamps qrowWaters qtold qlows qhighs qrates hours_ qriskRows qlevels qpointsOf qsums rules_ qruleKinds qruleLevels qholds qalarms qalarmHours qvalues qchecked qrights, aI qruleKinds ca 4 ruleKinds_, aI qruleLevels ca 4 ruleLevels_, aI qholds ca 4 holds_] H → va_D A [oc_Model qa0 thrown_ volume_ share_ qnow qkept qbooks qkeptBooks layers_ qconductances qcapacities kilograms_ rows_ qrowDamps qrowWaters qtold qlows qhighs qrates hours_ qriskRows qlevels qpointsOf qsums rules_ qruleKinds qruleLevels qholds qalarms qalarmHours qvalues qchecked qrights, aI qruleKinds ca 4 ruleKinds_, aI qruleLevels ca 4 ruleLevels_, aI qholds ca 4 holds_] → va_S A s.heap H locs → lv_has ls 4 [(0, .ref qa0), (1, .int x1), (2, .int x2), (3, .int x3)] → W p l e rm_Model_rule s m ar below meth c H locs 0 0 Q (F0 m 45 ls [.int j5_0, .int j2_0, .ref qa0]) := by
      intro H locs ls hP hD hS hl
      refine lv_iconst (v := 1) hx hb nd_Model_rule_45 (by decide) ?_
      obtain ⟨r12, u12_0, e12, hR⟩ := q_b2 hR
      refine k_wVI (wr := [aI qruleKinds ca 4 ruleKinds_, aI qruleLevels ca 4 ruleLevels_, aI qholds ca 4 holds_]) (w2 := [oc_Model qa0 u12_0 volume_ share_ qnow qkept qbooks qkeptBooks layers_ qconductances qcapacities kilograms_ rows_ qrowDamps qrowWaters qtold qlows qhighs qrates hours_ qriskRows qlevels qpointsOf qsums rules_ qruleKinds qruleLevels qholds qalarms qalarmHours qvalues qchecked qrights, aI qruleKinds ca 4 ruleKinds_, aI qruleLevels ca 4 ruleLevels_, aI qholds ca 4 holds_]) (As := [.int j2_0, .int j5_0, .int (1 : Int32)]) (rest := []) (r := r12) hx hb hml hown hts (cn_Model_goes l D ca qa0 qnow qkept qbooks qkeptBooks qconductances qcapacities qrowDamps qrowWaters qtold qlows qhighs qrates qriskRows qlevels qpointsOf qsums qruleKinds qruleLevels qholds qalarms qalarmHours qvalues qchecked qrights thrown_ volume_ share_ layers_ kilograms_ rows_ hours_ rules_ j2_0 j5_0 (1 : Int32) r12 u12_0 e12 _) kc_Model_goes kv_Model_goes tt_831 ⟨by decide, by decide⟩ rfl rfl hP hK hD hS hA [0] [1, 2, 3] [3, 0, 1, 2] rfl (by decide) rfl (by decide) (by decide) rfl (by decide) 0 rfl rfl rfl rfl hl.1 (Nat.le_of_ble_eq_true rfl) rfl nd_Model_rule_46 ⟨Nat.zero_le _, Nat.zero_le _⟩ (fun H locs hP hD hS => ?_)
      refine lv_if_ne (tgt := 54) hx hb nd_Model_rule_49 (by decide) (fun c13 => ?_) (fun c13 => ?_)
      · replace hR := q_n c13 hR
        refine lv_aload_n hx hb nd_Model_rule_54 rfl (lv_at hl 0 rfl) ?_
        refine va_get (D := D) (ci := 9) (v := .ref qruleKinds) (C := nR_Model) (T := nT_Model) (N := 32) hx hb hts ni_Model hown hK hP 0 rfl rfl 24 (by decide) (hts (.fieldLink nR_Model 67 "RoomClimateModel" "ruleKinds" "[I") tt_747) (fun _ h9 => h9) rfl nd_Model_rule_55 ?_
        refine lv_aload_n hx hb nd_Model_rule_58 rfl (lv_at hl 0 rfl) ?_
        refine va_get (D := D) (ci := 9) (v := .int rules_) (C := nR_Model) (T := nT_Model) (N := 32) hx hb hts ni_Model hown hK hP 0 rfl rfl 23 (by decide) (hts (.fieldLink nR_Model 169 "RoomClimateModel" "rules" "I") tt_746) (fun _ h9 => h9) rfl nd_Model_rule_59 ?_
        refine lv_iload_n hx hb nd_Model_rule_62 rfl (lv_at hl 1 rfl) ?_
        obtain ⟨h14, hR⟩ := q_ix hR
        refine va_iast hx hb hK hP hD hS 1 0 rfl rfl h14 nd_Model_rule_63 (fun H locs hP hD hS => ?_)
        have hP : va_P D vwCl [oc_Model qa0 u12_0 volume_ share_ qnow qkept qbooks qkeptBooks layers_ qconductances qcapacities kilograms_ rows_ qrowDamps qrowWaters qtold qlows qhighs qrates hours_ qriskRows qlevels qpointsOf qsums rules_ qruleKinds qruleLevels qholds qalarms qalarmHours qvalues qchecked qrights, aI qruleKinds ca 4 (upd ruleKinds_ rules_.toNatClampNeg x1), aI qruleLevels ca 4 ruleLevels_, aI qholds ca 4 holds_] H := hP
        have hD : va_D A [oc_Model qa0 u12_0 volume_ share_ qnow qkept qbooks qkeptBooks layers_ qconductances qcapacities kilograms_ rows_ qrowDamps qrowWaters qtold qlows qhighs qrates hours_ qriskRows qlevels qpointsOf qsums rules_ qruleKinds qruleLevels qholds qalarms qalarmHours qvalues qchecked qrights, aI qruleKinds ca 4 (upd ruleKinds_ rules_.toNatClampNeg x1), aI qruleLevels ca 4 ruleLevels_, aI qholds ca 4 holds_] := hD
        refine lv_aload_n hx hb nd_Model_rule_64 rfl (lv_at hl 0 rfl) ?_
        refine va_get (D := D) (ci := 9) (v := .ref qruleLevels) (C := nR_Model) (T := nT_Model) (N := 32) hx hb hts ni_Model hown hK hP 0 rfl rfl 25 (by decide) (hts (.fieldLink nR_Model 70 "RoomClimateModel" "ruleLevels" "[I") tt_748) (fun _ h9 => h9) rfl nd_Model_rule_65 ?_
        refine lv_aload_n hx hb nd_Model_rule_68 rfl (lv_at hl 0 rfl) ?_
        refine va_get (D := D) (ci := 9) (v := .int rules_) (C := nR_Model) (T := nT_Model) (N := 32) hx hb hts ni_Model hown hK hP 0 rfl rfl 23 (by decide) (hts (.fieldLink nR_Model 169 "RoomClimateModel" "rules" "I") tt_746) (fun _ h9 => h9) rfl nd_Model_rule_69 ?_
        refine lv_iload_n hx hb nd_Model_rule_72 rfl (lv_at hl 2 rfl) ?_
        refine va_iast hx hb hK hP hD hS 2 0 rfl rfl h14 nd_Model_rule_73 (fun H locs hP hD hS => ?_)
        have hP : va_P D vwCl [oc_Model qa0 u12_0 volume_ share_ qnow qkept qbooks qkeptBooks layers_ qconductances qcapacities kilograms_ rows_ qrowDamps qrowWaters qtold qlows qhighs qrates hours_ qriskRows qlevels qpointsOf qsums rules_ qruleKinds qruleLevels qholds qalarms qalarmHours qvalues qchecked qrights, aI qruleKinds ca 4 (upd ruleKinds_ rules_.toNatClampNeg x1), aI qruleLevels ca 4 (upd ruleLevels_ rules_.toNatClampNeg x2), aI qholds ca 4 holds_] H := hP
        have hD : va_D A [oc_Model qa0 u12_0 volume_ share_ qnow qkept qbooks qkeptBooks layers_ qconductances qcapacities kilograms_ rows_ qrowDamps qrowWaters qtold qlows qhighs qrates hours_ qriskRows qlevels qpointsOf qsums rules_ qruleKinds qruleLevels qholds qalarms qalarmHours qvalues qchecked qrights, aI qruleKinds ca 4 (upd ruleKinds_ rules_.toNatClampNeg x1), aI qruleLevels ca 4 (upd ruleLevels_ rules_.toNatClampNeg x2), aI qholds ca 4 holds_] := hD
        refine lv_aload_n hx hb nd_Model_rule_74 rfl (lv_at hl 0 rfl) ?_
        refine va_get (D := D) (ci := 9) (v := .ref qholds) (C := nR_Model) (T := nT_Model) (N := 32) hx hb hts ni_Model hown hK hP 0 rfl rfl 26 (by decide) (hts (.fieldLink nR_Model 73 "RoomClimateModel" "holds" "[I") tt_749) (fun _ h9 => h9) rfl nd_Model_rule_75 ?_
        refine lv_aload_n hx hb nd_Model_rule_78 rfl (lv_at hl 0 rfl) ?_
        refine va_get (D := D) (ci := 9) (v := .int rules_) (C := nR_Model) (T := nT_Model) (N := 32) hx hb hts ni_Model hown hK hP 0 rfl rfl 23 (by decide) (hts (.fieldLink nR_Model 169 "RoomClimateModel" "rules" "I") tt_746) (fun _ h9 => h9) rfl nd_Model_rule_79 ?_
        refine lv_iload_n hx hb nd_Model_rule_82 rfl (lv_at hl 3 rfl) ?_
        refine va_iast hx hb hK hP hD hS 3 0 rfl rfl h14 nd_Model_rule_83 (fun H locs hP hD hS => ?_)
        have hP : va_P D vwCl [oc_Model qa0 u12_0 volume_ share_ qnow qkept qbooks qkeptBooks layers_ qconductances qcapacities kilograms_ rows_ qrowDamps qrowWaters qtold qlows qhighs qrates hours_ qriskRows qlevels qpointsOf qsums rules_ qruleKinds qruleLevels qholds qalarms qalarmHours qvalues qchecked qrights, aI qruleKinds ca 4 (upd ruleKinds_ rules_.toNatClampNeg x1), aI qruleLevels ca 4 (upd ruleLevels_ rules_.toNatClampNeg x2), aI qholds ca 4 (upd holds_ rules_.toNatClampNeg x3)] H := hP
        have hD : va_D A [oc_Model qa0 u12_0 volume_ share_ qnow qkept qbooks qkeptBooks layers_ qconductances qcapacities kilograms_ rows_ qrowDamps qrowWaters qtold qlows qhighs qrates hours_ qriskRows qlevels qpointsOf qsums rules_ qruleKinds qruleLevels qholds qalarms qalarmHours qvalues qchecked qrights, aI qruleKinds ca 4 (upd ruleKinds_ rules_.toNatClampNeg x1), aI qruleLevels ca 4 (upd ruleLevels_ rules_.toNatClampNeg x2), aI qholds ca 4 (upd holds_ rules_.toNatClampNeg x3)] := hD
        refine lv_aload_n hx hb nd_Model_rule_84 rfl (lv_at hl 0 rfl) ?_
        refine lv_dup hx hb nd_Model_rule_85 rfl ?_
        refine va_get (D := D) (ci := 9) (v := .int rules_) (C := nR_Model) (T := nT_Model) (N := 32) hx hb hts ni_Model hown hK hP 0 rfl rfl 23 (by decide) (hts (.fieldLink nR_Model 169 "RoomClimateModel" "rules" "I") tt_746) (fun _ h9 => h9) rfl nd_Model_rule_86 ?_
        refine lv_iconst (v := 1) hx hb nd_Model_rule_89 (by decide) ?_
        refine lv_iadd hx hb nd_Model_rule_90 ?_
        refine va_put (D := D) (ci := 9) (v := .int (rules_ + (1 : Int32))) (ty := .int) (C := nR_Model) (T := nT_Model) (N := 32) hx hb hts ni_Model nt_Model nt_Model_ok nn_Model hown hK hP hD hS 0 rfl rfl 23 (by decide) (hts (.fieldLink nR_Model 169 "RoomClimateModel" "rules" "I") tt_746) (fun _ h9 => h9) rfl (by decide +kernel) rfl rfl (Nat.le_of_ble_eq_true rfl) nd_Model_rule_91 (fun H locs hP hD hS => ?_)
        have hP : va_P D vwCl [oc_Model qa0 u12_0 volume_ share_ qnow qkept qbooks qkeptBooks layers_ qconductances qcapacities kilograms_ rows_ qrowDamps qrowWaters qtold qlows qhighs qrates hours_ qriskRows qlevels qpointsOf qsums (rules_ + (1 : Int32)) qruleKinds qruleLevels qholds qalarms qalarmHours qvalues qchecked qrights, aI qruleKinds ca 4 (upd ruleKinds_ rules_.toNatClampNeg x1), aI qruleLevels ca 4 (upd ruleLevels_ rules_.toNatClampNeg x2), aI qholds ca 4 (upd holds_ rules_.toNatClampNeg x3)] H := hP
        have hD : va_D A [oc_Model qa0 u12_0 volume_ share_ qnow qkept qbooks qkeptBooks layers_ qconductances qcapacities kilograms_ rows_ qrowDamps qrowWaters qtold qlows qhighs qrates hours_ qriskRows qlevels qpointsOf qsums (rules_ + (1 : Int32)) qruleKinds qruleLevels qholds qalarms qalarmHours qvalues qchecked qrights, aI qruleKinds ca 4 (upd ruleKinds_ rules_.toNatClampNeg x1), aI qruleLevels ca 4 (upd ruleLevels_ rules_.toNatClampNeg x2), aI qholds ca 4 (upd holds_ rules_.toNatClampNeg x3)] := hD
        refine lv_aload_n hx hb nd_Model_rule_94 rfl (lv_at hl 0 rfl) ?_
        refine va_get (D := D) (ci := 9) (v := .int (rules_ + (1 : Int32))) (C := nR_Model) (T := nT_Model) (N := 32) hx hb hts ni_Model hown hK hP 0 rfl rfl 23 (by decide) (hts (.fieldLink nR_Model 169 "RoomClimateModel" "rules" "I") tt_746) (fun _ h9 => h9) rfl nd_Model_rule_95 ?_
        refine lv_iconst (v := 1) hx hb nd_Model_rule_98 (by decide) ?_
        refine lv_isub hx hb nd_Model_rule_99 ?_
        exact hret ((rules_ + (1 : Int32)) - (1 : Int32), u12_0, upd ruleKinds_ rules_.toNatClampNeg x1, upd ruleLevels_ rules_.toNatClampNeg x2, upd holds_ rules_.toNatClampNeg x3, rules_ + (1 : Int32)) _ _ _ _ nd_Model_rule_100 hR hP hD hS
      · replace hR := q_p c13 hR
        refine lv_iconst (v := 0) hx hb nd_Model_rule_52 (by decide) ?_
        exact hret ((0 : Int32), u12_0, ruleKinds_, ruleLevels_, holds_, rules_) _ _ _ _ nd_Model_rule_53 hR hP hD hS
    refine lv_if_eq (tgt := 44) hx hb nd_Model_rule_20 (by decide) (fun c4 => ?_) (fun c4 => ?_)
    · have hR := q_p c4 hJ5
      refine lv_iconst (v := 0) hx hb nd_Model_rule_44 (by decide) ?_
      cases hR
      exact hN5 _ _ _ hP hD hS (lv_sub hl [0, 1, 2, 3] rfl)
    · have hR := q_n c4 hJ5
      refine lv_iload_n hx hb nd_Model_rule_23 rfl (lv_at hl 2 rfl) ?_
      obtain ⟨r6, e6, hR⟩ := q_b1 hR
      refine k_rSI (As := [.int x2]) (rest := [.int j2_0, .ref qa0]) (r := r6) hx hb hml hown hts (cn_Model_isLevel l D ca x2 r6 e6) kc_Model_isLevel ks_Model_isLevel tt_853 ⟨by decide, by decide⟩ rfl rfl hP hK [] rfl rfl hl.1 (Nat.le_of_ble_eq_true rfl) rfl nd_Model_rule_24 ⟨Nat.zero_le _, Nat.zero_le _⟩ ?_
      obtain ⟨j8_0, hJ8, hR⟩ := q_b1 hR
      have hN8 : ∀ (H : Heap) (locs : List Loc) (ls : Array Slot), va_P D vwCl [oc_Model qa0 thrown_ volume_ share_ qnow qkept qbooks qkeptBooks layers_ qconductances qcapacities kilograms_ rows_ qrowDamps qrowWaters qtold qlows qhighs qrates hours_ qriskRows qlevels qpointsOf qsums rules_ qruleKinds qruleLevels qholds qalarms qalarmHours qvalues qchecked qrights, aI qruleKinds ca 4 ruleKinds_, aI qruleLevels ca 4 ruleLevels_, aI qholds ca 4 holds_] H → va_D A [oc_Model qa0 thrown_ volume_ share_ qnow qkept qbooks qkeptBooks layers_ qconductances qcapacities kilograms_ rows_ qrowDamps qrowWaters qtold qlows qhighs qrates hours_ qriskRows qlevels qpointsOf qsums rules_ qruleKinds qruleLevels qholds qalarms qalarmHours qvalues qchecked qrights, aI qruleKinds ca 4 ruleKinds_, aI qruleLevels ca 4 ruleLevels_, aI qholds ca 4 holds_] → va_S A s.heap H locs → lv_has ls 4 [(0, .ref qa0), (1, .int x1), (2, .int x2), (3, .int x3)] → W p l e rm_Model_rule s m ar below meth c H locs 0 0 Q (F0 m 45 ls [.int j8_0, .int j2_0, .ref qa0]) := by
        intro H locs ls hP hD hS hl
        cases hR
        exact hN5 _ _ _ hP hD hS (lv_sub hl [0, 1, 2, 3] rfl)
      refine lv_if_eq (tgt := 44) hx hb nd_Model_rule_27 (by decide) (fun c7 => ?_) (fun c7 => ?_)
      · have hR := q_p c7 hJ8
        refine lv_iconst (v := 0) hx hb nd_Model_rule_44 (by decide) ?_
        cases hR
        exact hN8 _ _ _ hP hD hS (lv_sub hl [0, 1, 2, 3] rfl)
      · have hR := q_n c7 hJ8
        refine lv_iload_n hx hb nd_Model_rule_30 rfl (lv_at hl 3 rfl) ?_
        refine lv_iconst (v := 1) hx hb nd_Model_rule_31 (by decide) ?_
        refine lv_bipush (v := 99) hx hb nd_Model_rule_32 (by decide) ?_
        obtain ⟨r9, e9, hR⟩ := q_b1 hR
        refine k_rSI (As := [.int x3, .int (1 : Int32), .int (99 : Int32)]) (rest := [.int j2_0, .ref qa0]) (r := r9) hx hb hml hown hts (cn_Model_within l D ca x3 (1 : Int32) (99 : Int32) r9 e9) kc_Model_within ks_Model_within tt_828 ⟨by decide, by decide⟩ rfl rfl hP hK [] rfl rfl hl.1 (Nat.le_of_ble_eq_true rfl) rfl nd_Model_rule_34 ⟨Nat.zero_le _, Nat.zero_le _⟩ ?_
        obtain ⟨j11_0, hJ11, hR⟩ := q_b1 hR
        have hN11 : ∀ (H : Heap) (locs : List Loc) (ls : Array Slot), va_P D vwCl [oc_Model qa0 thrown_ volume_ share_ qnow qkept qbooks qkeptBooks layers_ qconductances qcapacities kilograms_ rows_ qrowDamps qrowWaters qtold qlows qhighs qrates hours_ qriskRows qlevels qpointsOf qsums rules_ qruleKinds qruleLevels qholds qalarms qalarmHours qvalues qchecked qrights, aI qruleKinds ca 4 ruleKinds_, aI qruleLevels ca 4 ruleLevels_, aI qholds ca 4 holds_] H → va_D A [oc_Model qa0 thrown_ volume_ share_ qnow qkept qbooks qkeptBooks layers_ qconductances qcapacities kilograms_ rows_ qrowDamps qrowWaters qtold qlows qhighs qrates hours_ qriskRows qlevels qpointsOf qsums rules_ qruleKinds qruleLevels qholds qalarms qalarmHours qvalues qchecked qrights, aI qruleKinds ca 4 ruleKinds_, aI qruleLevels ca 4 ruleLevels_, aI qholds ca 4 holds_] → va_S A s.heap H locs → lv_has ls 4 [(0, .ref qa0), (1, .int x1), (2, .int x2), (3, .int x3)] → W p l e rm_Model_rule s m ar below meth c H locs 0 0 Q (F0 m 45 ls [.int j11_0, .int j2_0, .ref qa0]) := by
          intro H locs ls hP hD hS hl
          cases hR
          exact hN8 _ _ _ hP hD hS (lv_sub hl [0, 1, 2, 3] rfl)
        refine lv_if_eq (tgt := 44) hx hb nd_Model_rule_37 (by decide) (fun c10 => ?_) (fun c10 => ?_)
        · have hR := q_p c10 hJ11
          refine lv_iconst (v := 0) hx hb nd_Model_rule_44 (by decide) ?_
          cases hR
          exact hN11 _ _ _ hP hD hS (lv_sub hl [0, 1, 2, 3] rfl)
        · have hR := q_n c10 hJ11
          refine lv_iconst (v := 1) hx hb nd_Model_rule_40 (by decide) ?_
          refine lv_goto (tgt := 45) hx hb nd_Model_rule_41 (by decide) ?_
          cases hR
          exact hN11 _ _ _ hP hD hS (lv_sub hl [0, 1, 2, 3] rfl)
  refine lv_icmp_ge (tgt := 13) hx hb nd_Model_rule_6 (by decide) (fun c1 => ?_) (fun c1 => ?_)
  · have hR := q_p c1 hJ2
    refine lv_iconst (v := 0) hx hb nd_Model_rule_13 (by decide) ?_
    cases hR
    exact hN2 _ _ _ hP hD hS (lv_sub hl [0, 1, 2, 3] rfl)
  · have hR := q_n c1 hJ2
    refine lv_iconst (v := 1) hx hb nd_Model_rule_9 (by decide) ?_
    refine lv_goto (tgt := 14) hx hb nd_Model_rule_10 (by decide) ?_
    cases hR
    exact hN2 _ _ _ hP hD hS (lv_sub hl [0, 1, 2, 3] rfl)
def rm_Model_alarm : Room := { frames := 1, cells := 0, slots := 0, locals := 23 }
theorem kc_Model_alarm : k_cal nY_Model_alarm nC_Model_alarm 3 (some .int) 2 := ⟨tt_967, tt_10, by decide +kernel⟩
theorem kv_Model_alarm : k_vir nY_Model_alarm := ⟨tt_965, tt_966⟩
set_option maxHeartbeats 4000000 in
set_option maxRecDepth 100000 in
theorem cn_Model_alarm (l : Launch) (D : va_G) (ca : Nat → ClassId) (qa0 qnow qkept qbooks qkeptBooks qconductances qcapacities qrowDamps qrowWaters qtold qlows qhighs qrates qriskRows qlevels qpointsOf qsums qruleKinds qruleLevels qholds qalarms qalarmHours qvalues qchecked qrights : Nat) (thrown_ : Int32) (volume_ : Int32) (share_ : Int32) (layers_ : Int32) (kilograms_ : Int32) (rows_ : Int32) (hours_ : Int32) (rules_ : Int32) (alarms_ : Nat → Int32) (alarmHours_ : Nat → Int32) (x1 : Int32) (x2 : Int32) (R0 : Int32) (R1 : Int32) (hR : fn_Model_alarm rules_ alarms_ alarmHours_ x1 x2 = some (R0, R1)) (sz : Nat) : Met l nY_Model_alarm (Cond.code nY_Model_alarm nC_Model_alarm 3 (some .int) :: TT) rm_Model_alarm (wr_P [.ref qa0, .int x1, .int x2] D ca [oc_Model qa0 thrown_ volume_ share_ qnow qkept qbooks qkeptBooks layers_ qconductances qcapacities kilograms_ rows_ qrowDamps qrowWaters qtold qlows qhighs qrates hours_ qriskRows qlevels qpointsOf qsums rules_ qruleKinds qruleLevels qholds qalarms qalarmHours qvalues qchecked qrights, aI qalarms ca 4 alarms_, aI qalarmHours ca 1200 alarmHours_] sz) (va_Qi (fun x (_ : Unit) => x = R0) (wr_B D [oc_Model qa0 thrown_ volume_ share_ qnow qkept qbooks qkeptBooks layers_ qconductances qcapacities kilograms_ rows_ qrowDamps qrowWaters qtold qlows qhighs qrates hours_ qriskRows qlevels qpointsOf qsums rules_ qruleKinds qruleLevels qholds qalarms qalarmHours qvalues qchecked qrights, aI qalarms ca 4 alarms_, aI qalarmHours ca 1200 alarmHours_] sz [oc_Model qa0 R1 volume_ share_ qnow qkept qbooks qkeptBooks layers_ qconductances qcapacities kilograms_ rows_ qrowDamps qrowWaters qtold qlows qhighs qrates hours_ qriskRows qlevels qpointsOf qsums rules_ qruleKinds qruleLevels qholds qalarms qalarmHours qvalues qchecked qrights, aI qalarms ca 4 alarms_, aI qalarmHours ca 1200 alarmHours_]) (va_A [oc_Model qa0 thrown_ volume_ share_ qnow qkept qbooks qkeptBooks layers_ qconductances qcapacities kilograms_ rows_ qrowDamps qrowWaters qtold qlows qhighs qrates hours_ qriskRows qlevels qpointsOf qsums rules_ qruleKinds qruleLevels qholds qalarms qalarmHours qvalues qchecked qrights, aI qalarms ca 4 alarms_, aI qalarmHours ca 1200 alarmHours_] sz)) 0 0 (va_A [oc_Model qa0 thrown_ volume_ share_ qnow qkept qbooks qkeptBooks layers_ qconductances qcapacities kilograms_ rows_ qrowDamps qrowWaters qtold qlows qhighs qrates hours_ qriskRows qlevels qpointsOf qsums rules_ qruleKinds qruleLevels qholds qalarms qalarmHours qvalues qchecked qrights, aI qalarms ca 4 alarms_, aI qalarmHours ca 1200 alarmHours_] sz) := by
  refine wr_ofI (R := (R0, R1)) (val := fun r => r.1) (w1 := fun r : Int32 × Int32 => [oc_Model qa0 r.2 volume_ share_ qnow qkept qbooks qkeptBooks layers_ qconductances qcapacities kilograms_ rows_ qrowDamps qrowWaters qtold qlows qhighs qrates hours_ qriskRows qlevels qpointsOf qsums rules_ qruleKinds qruleLevels qholds qalarms qalarmHours qvalues qchecked qrights, aI qalarms ca 4 alarms_, aI qalarmHours ca 1200 alarmHours_]) (by decide +kernel) (Nat.le_of_ble_eq_true rfl) ?_
  intro p e s m below meth c Q ar ls hx hb hml hts hown hP hK A hD hA hl hret
  have hS : va_S A s.heap s.heap [] := va_S.rf
  have hown : s.vm.findClass nR_Model = some m.cls := hown
  have hl : lv_has ls 3 [(0, .ref qa0), (1, .int x1), (2, .int x2)] := hl
  unfold fn_Model_alarm at hR
  refine lv_aload_n hx hb nd_Model_alarm_0 rfl (lv_at hl 0 rfl) ?_
  refine lv_iload_n hx hb nd_Model_alarm_1 rfl (lv_at hl 1 rfl) ?_
  refine lv_iconst (v := 0) hx hb nd_Model_alarm_2 (by decide) ?_
  refine lv_aload_n hx hb nd_Model_alarm_3 rfl (lv_at hl 0 rfl) ?_
  refine va_get (D := D) (ci := 9) (v := .int rules_) (C := nR_Model) (T := nT_Model) (N := 32) hx hb hts ni_Model hown hK hP 0 rfl rfl 23 (by decide) (hts (.fieldLink nR_Model 169 "RoomClimateModel" "rules" "I") tt_746) (fun _ h9 => h9) rfl nd_Model_alarm_4 ?_
  refine lv_iconst (v := 1) hx hb nd_Model_alarm_7 (by decide) ?_
  refine lv_isub hx hb nd_Model_alarm_8 ?_
  obtain ⟨r1, e1, hR⟩ := q_b1 hR
  refine k_rSI (As := [.int x1, .int (0 : Int32), .int (rules_ - (1 : Int32))]) (rest := [.ref qa0]) (r := r1) hx hb hml hown hts (cn_Model_within l D ca x1 (0 : Int32) (rules_ - (1 : Int32)) r1 e1) kc_Model_within ks_Model_within tt_828 ⟨by decide, by decide⟩ rfl rfl hP hK [] rfl rfl hl.1 (Nat.le_of_ble_eq_true rfl) rfl nd_Model_alarm_9 ⟨Nat.zero_le _, Nat.zero_le _⟩ ?_
  obtain ⟨j3_0, hJ3, hR⟩ := q_b1 hR
  have hN3 : ∀ (H : Heap) (locs : List Loc) (ls : Array Slot), va_P D vwCl [oc_Model qa0 thrown_ volume_ share_ qnow qkept qbooks qkeptBooks layers_ qconductances qcapacities kilograms_ rows_ qrowDamps qrowWaters qtold qlows qhighs qrates hours_ qriskRows qlevels qpointsOf qsums rules_ qruleKinds qruleLevels qholds qalarms qalarmHours qvalues qchecked qrights, aI qalarms ca 4 alarms_, aI qalarmHours ca 1200 alarmHours_] H → va_D A [oc_Model qa0 thrown_ volume_ share_ qnow qkept qbooks qkeptBooks layers_ qconductances qcapacities kilograms_ rows_ qrowDamps qrowWaters qtold qlows qhighs qrates hours_ qriskRows qlevels qpointsOf qsums rules_ qruleKinds qruleLevels qholds qalarms qalarmHours qvalues qchecked qrights, aI qalarms ca 4 alarms_, aI qalarmHours ca 1200 alarmHours_] → va_S A s.heap H locs → lv_has ls 3 [(0, .ref qa0), (1, .int x1), (2, .int x2)] → W p l e rm_Model_alarm s m ar below meth c H locs 0 0 Q (F0 m 25 ls [.int j3_0, .ref qa0]) := by
    intro H locs ls hP hD hS hl
    refine lv_iconst (v := 1) hx hb nd_Model_alarm_25 (by decide) ?_
    refine lv_iconst (v := 1) hx hb nd_Model_alarm_26 (by decide) ?_
    obtain ⟨r6, u6_0, e6, hR⟩ := q_b2 hR
    refine k_wVI (wr := [aI qalarms ca 4 alarms_, aI qalarmHours ca 1200 alarmHours_]) (w2 := [oc_Model qa0 u6_0 volume_ share_ qnow qkept qbooks qkeptBooks layers_ qconductances qcapacities kilograms_ rows_ qrowDamps qrowWaters qtold qlows qhighs qrates hours_ qriskRows qlevels qpointsOf qsums rules_ qruleKinds qruleLevels qholds qalarms qalarmHours qvalues qchecked qrights, aI qalarms ca 4 alarms_, aI qalarmHours ca 1200 alarmHours_]) (As := [.int j3_0, .int (1 : Int32), .int (1 : Int32)]) (rest := []) (r := r6) hx hb hml hown hts (cn_Model_goes l D ca qa0 qnow qkept qbooks qkeptBooks qconductances qcapacities qrowDamps qrowWaters qtold qlows qhighs qrates qriskRows qlevels qpointsOf qsums qruleKinds qruleLevels qholds qalarms qalarmHours qvalues qchecked qrights thrown_ volume_ share_ layers_ kilograms_ rows_ hours_ rules_ j3_0 (1 : Int32) (1 : Int32) r6 u6_0 e6 _) kc_Model_goes kv_Model_goes tt_831 ⟨by decide, by decide⟩ rfl rfl hP hK hD hS hA [0] [1, 2] [2, 0, 1] rfl (by decide) rfl (by decide) (by decide) rfl (by decide) 0 rfl rfl rfl rfl hl.1 (Nat.le_of_ble_eq_true rfl) rfl nd_Model_alarm_27 ⟨Nat.zero_le _, Nat.zero_le _⟩ (fun H locs hP hD hS => ?_)
    refine lv_if_ne (tgt := 35) hx hb nd_Model_alarm_30 (by decide) (fun c7 => ?_) (fun c7 => ?_)
    · replace hR := q_n c7 hR
      refine lv_iload_n hx hb nd_Model_alarm_35 rfl (lv_at hl 2 rfl) ?_
      refine lv_iconst (v := -1) hx hb nd_Model_alarm_36 (by decide) ?_
      obtain ⟨j9_0, hJ9, hR⟩ := q_b1 hR
      have hN9 : ∀ (H : Heap) (locs : List Loc) (ls : Array Slot), va_P D vwCl [oc_Model qa0 u6_0 volume_ share_ qnow qkept qbooks qkeptBooks layers_ qconductances qcapacities kilograms_ rows_ qrowDamps qrowWaters qtold qlows qhighs qrates hours_ qriskRows qlevels qpointsOf qsums rules_ qruleKinds qruleLevels qholds qalarms qalarmHours qvalues qchecked qrights, aI qalarms ca 4 alarms_, aI qalarmHours ca 1200 alarmHours_] H → va_D A [oc_Model qa0 u6_0 volume_ share_ qnow qkept qbooks qkeptBooks layers_ qconductances qcapacities kilograms_ rows_ qrowDamps qrowWaters qtold qlows qhighs qrates hours_ qriskRows qlevels qpointsOf qsums rules_ qruleKinds qruleLevels qholds qalarms qalarmHours qvalues qchecked qrights, aI qalarms ca 4 alarms_, aI qalarmHours ca 1200 alarmHours_] → va_S A s.heap H locs → lv_has ls 3 [(0, .ref qa0), (1, .int x1), (2, .int x2)] → W p l e rm_Model_alarm s m ar below meth c H locs 0 0 Q (F0 m 75 ls [.int j9_0]) := by
        intro H locs ls hP hD hS hl
        exact hret (j9_0, u6_0) _ _ _ _ nd_Model_alarm_75 hR hP hD hS
      refine lv_icmp_ne (tgt := 49) hx hb nd_Model_alarm_37 (by decide) (fun c8 => ?_) (fun c8 => ?_)
      · have hR := q_n c8 hJ9
        refine lv_iload_n hx hb nd_Model_alarm_49 rfl (lv_at hl 2 rfl) ?_
        refine lv_aload_n hx hb nd_Model_alarm_50 rfl (lv_at hl 0 rfl) ?_
        refine va_get (D := D) (ci := 9) (v := .ref qalarms) (C := nR_Model) (T := nT_Model) (N := 32) hx hb hts ni_Model hown hK hP 0 rfl rfl 27 (by decide) (hts (.fieldLink nR_Model 76 "RoomClimateModel" "alarms" "[I") tt_750) (fun _ h9 => h9) rfl nd_Model_alarm_51 ?_
        refine lv_iload_n hx hb nd_Model_alarm_54 rfl (lv_at hl 1 rfl) ?_
        obtain ⟨h10, hR⟩ := q_ix hR
        refine va_iald hx hb hK hP 1 0 rfl rfl h10 nd_Model_alarm_55 ?_
        obtain ⟨j12_0, hJ12, hR⟩ := q_b1 hR
        have hN12 : ∀ (H : Heap) (locs : List Loc) (ls : Array Slot), va_P D vwCl [oc_Model qa0 u6_0 volume_ share_ qnow qkept qbooks qkeptBooks layers_ qconductances qcapacities kilograms_ rows_ qrowDamps qrowWaters qtold qlows qhighs qrates hours_ qriskRows qlevels qpointsOf qsums rules_ qruleKinds qruleLevels qholds qalarms qalarmHours qvalues qchecked qrights, aI qalarms ca 4 alarms_, aI qalarmHours ca 1200 alarmHours_] H → va_D A [oc_Model qa0 u6_0 volume_ share_ qnow qkept qbooks qkeptBooks layers_ qconductances qcapacities kilograms_ rows_ qrowDamps qrowWaters qtold qlows qhighs qrates hours_ qriskRows qlevels qpointsOf qsums rules_ qruleKinds qruleLevels qholds qalarms qalarmHours qvalues qchecked qrights, aI qalarms ca 4 alarms_, aI qalarmHours ca 1200 alarmHours_] → va_S A s.heap H locs → lv_has ls 3 [(0, .ref qa0), (1, .int x1), (2, .int x2)] → W p l e rm_Model_alarm s m ar below meth c H locs 0 0 Q (F0 m 75 ls [.int j12_0]) := by
          intro H locs ls hP hD hS hl
          cases hR
          exact hN9 _ _ _ hP hD hS (lv_sub hl [0, 1, 2] rfl)
        refine lv_icmp_ge (tgt := 74) hx hb nd_Model_alarm_56 (by decide) (fun c11 => ?_) (fun c11 => ?_)
        · have hR := q_p c11 hJ12
          refine lv_iconst (v := -1) hx hb nd_Model_alarm_74 (by decide) ?_
          cases hR
          exact hN12 _ _ _ hP hD hS (lv_sub hl [0, 1, 2] rfl)
        · have hR := q_n c11 hJ12
          refine lv_aload_n hx hb nd_Model_alarm_59 rfl (lv_at hl 0 rfl) ?_
          refine va_get (D := D) (ci := 9) (v := .ref qalarmHours) (C := nR_Model) (T := nT_Model) (N := 32) hx hb hts ni_Model hown hK hP 0 rfl rfl 28 (by decide) (hts (.fieldLink nR_Model 79 "RoomClimateModel" "alarmHours" "[I") tt_751) (fun _ h9 => h9) rfl nd_Model_alarm_60 ?_
          refine lv_sipush (v := 300) hx hb nd_Model_alarm_63 (by decide) ?_
          refine lv_iload_n hx hb nd_Model_alarm_66 rfl (lv_at hl 1 rfl) ?_
          refine lv_imul hx hb nd_Model_alarm_67 ?_
          refine lv_iload_n hx hb nd_Model_alarm_68 rfl (lv_at hl 2 rfl) ?_
          refine lv_iadd hx hb nd_Model_alarm_69 ?_
          obtain ⟨h13, hR⟩ := q_ix hR
          refine va_iald hx hb hK hP 2 0 rfl rfl h13 nd_Model_alarm_70 ?_
          refine lv_goto (tgt := 75) hx hb nd_Model_alarm_71 (by decide) ?_
          cases hR
          exact hN12 _ _ _ hP hD hS (lv_sub hl [0, 1, 2] rfl)
      · have hR := q_p c8 hJ9
        refine lv_aload_n hx hb nd_Model_alarm_40 rfl (lv_at hl 0 rfl) ?_
        refine va_get (D := D) (ci := 9) (v := .ref qalarms) (C := nR_Model) (T := nT_Model) (N := 32) hx hb hts ni_Model hown hK hP 0 rfl rfl 27 (by decide) (hts (.fieldLink nR_Model 76 "RoomClimateModel" "alarms" "[I") tt_750) (fun _ h9 => h9) rfl nd_Model_alarm_41 ?_
        refine lv_iload_n hx hb nd_Model_alarm_44 rfl (lv_at hl 1 rfl) ?_
        obtain ⟨h14, hR⟩ := q_ix hR
        refine va_iald hx hb hK hP 1 0 rfl rfl h14 nd_Model_alarm_45 ?_
        refine lv_goto (tgt := 75) hx hb nd_Model_alarm_46 (by decide) ?_
        cases hR
        exact hN9 _ _ _ hP hD hS (lv_sub hl [0, 1, 2] rfl)
    · replace hR := q_p c7 hR
      refine lv_iconst (v := 0) hx hb nd_Model_alarm_33 (by decide) ?_
      exact hret ((0 : Int32), u6_0) _ _ _ _ nd_Model_alarm_34 hR hP hD hS
  refine lv_if_eq (tgt := 24) hx hb nd_Model_alarm_12 (by decide) (fun c2 => ?_) (fun c2 => ?_)
  · have hR := q_p c2 hJ3
    refine lv_iconst (v := 0) hx hb nd_Model_alarm_24 (by decide) ?_
    cases hR
    exact hN3 _ _ _ hP hD hS (lv_sub hl [0, 1, 2] rfl)
  · have hR := q_n c2 hJ3
    refine lv_iload_n hx hb nd_Model_alarm_15 rfl (lv_at hl 2 rfl) ?_
    refine lv_iconst (v := -1) hx hb nd_Model_alarm_16 (by decide) ?_
    obtain ⟨j5_0, hJ5, hR⟩ := q_b1 hR
    have hN5 : ∀ (H : Heap) (locs : List Loc) (ls : Array Slot), va_P D vwCl [oc_Model qa0 thrown_ volume_ share_ qnow qkept qbooks qkeptBooks layers_ qconductances qcapacities kilograms_ rows_ qrowDamps qrowWaters qtold qlows qhighs qrates hours_ qriskRows qlevels qpointsOf qsums rules_ qruleKinds qruleLevels qholds qalarms qalarmHours qvalues qchecked qrights, aI qalarms ca 4 alarms_, aI qalarmHours ca 1200 alarmHours_] H → va_D A [oc_Model qa0 thrown_ volume_ share_ qnow qkept qbooks qkeptBooks layers_ qconductances qcapacities kilograms_ rows_ qrowDamps qrowWaters qtold qlows qhighs qrates hours_ qriskRows qlevels qpointsOf qsums rules_ qruleKinds qruleLevels qholds qalarms qalarmHours qvalues qchecked qrights, aI qalarms ca 4 alarms_, aI qalarmHours ca 1200 alarmHours_] → va_S A s.heap H locs → lv_has ls 3 [(0, .ref qa0), (1, .int x1), (2, .int x2)] → W p l e rm_Model_alarm s m ar below meth c H locs 0 0 Q (F0 m 25 ls [.int j5_0, .ref qa0]) := by
      intro H locs ls hP hD hS hl
      cases hR
      exact hN3 _ _ _ hP hD hS (lv_sub hl [0, 1, 2] rfl)
    refine lv_icmp_lt (tgt := 24) hx hb nd_Model_alarm_17 (by decide) (fun c4 => ?_) (fun c4 => ?_)
    · have hR := q_p c4 hJ5
      refine lv_iconst (v := 0) hx hb nd_Model_alarm_24 (by decide) ?_
      cases hR
      exact hN5 _ _ _ hP hD hS (lv_sub hl [0, 1, 2] rfl)
    · have hR := q_n c4 hJ5
      refine lv_iconst (v := 1) hx hb nd_Model_alarm_20 (by decide) ?_
      refine lv_goto (tgt := 25) hx hb nd_Model_alarm_21 (by decide) ?_
      cases hR
      exact hN5 _ _ _ hP hD hS (lv_sub hl [0, 1, 2] rfl)
def rm_Model_wasHour : Room := { frames := 1, cells := 0, slots := 0, locals := 22 }
theorem kc_Model_wasHour : k_cal nY_Model_wasHour nC_Model_wasHour 2 (some .boolean) 1 := ⟨tt_975, tt_10, by decide +kernel⟩
theorem kv_Model_wasHour : k_vir nY_Model_wasHour := ⟨tt_974, tp_23⟩
set_option maxHeartbeats 4000000 in
set_option maxRecDepth 100000 in
theorem cn_Model_wasHour (l : Launch) (D : va_G) (ca : Nat → ClassId) (qa0 qnow qkept qbooks qkeptBooks qconductances qcapacities qrowDamps qrowWaters qtold qlows qhighs qrates qriskRows qlevels qpointsOf qsums qruleKinds qruleLevels qholds qalarms qalarmHours qvalues qchecked qrights : Nat) (thrown_ : Int32) (volume_ : Int32) (share_ : Int32) (layers_ : Int32) (kilograms_ : Int32) (rows_ : Int32) (hours_ : Int32) (rules_ : Int32) (x1 : Int32) (R0 : Int32) (hR : fn_Model_wasHour hours_ x1 = some R0) : Met l nY_Model_wasHour (Cond.code nY_Model_wasHour nC_Model_wasHour 2 (some .boolean) :: TT) rm_Model_wasHour (rd_P [.ref qa0, .int x1] D ca [oc_Model qa0 thrown_ volume_ share_ qnow qkept qbooks qkeptBooks layers_ qconductances qcapacities kilograms_ rows_ qrowDamps qrowWaters qtold qlows qhighs qrates hours_ qriskRows qlevels qpointsOf qsums rules_ qruleKinds qruleLevels qholds qalarms qalarmHours qvalues qchecked qrights]) (vp_Si (fun x => x = R0)) 0 0 (fun _ => False) := by
  refine rd_ofZ (by decide +kernel) (Nat.le_of_ble_eq_true rfl) ?_
  intro p e s m below meth c Q ar ls hx hb hml hts hown hP hK hl hret
  have hown : s.vm.findClass nR_Model = some m.cls := hown
  have hl : lv_has ls 2 [(0, .ref qa0), (1, .int x1)] := hl
  unfold fn_Model_wasHour at hR
  refine lv_iload_n hx hb nd_Model_wasHour_0 rfl (lv_at hl 1 rfl) ?_
  refine lv_iconst (v := 0) hx hb nd_Model_wasHour_1 (by decide) ?_
  refine lv_aload_n hx hb nd_Model_wasHour_2 rfl (lv_at hl 0 rfl) ?_
  refine va_get (D := D) (ci := 9) (v := .int hours_) (C := nR_Model) (T := nT_Model) (N := 32) hx hb hts ni_Model hown hK hP 0 rfl rfl 18 (by decide) (hts (.fieldLink nR_Model 172 "RoomClimateModel" "hours" "I") tt_741) (fun _ h9 => h9) rfl nd_Model_wasHour_3 ?_
  refine lv_iconst (v := 1) hx hb nd_Model_wasHour_6 (by decide) ?_
  refine lv_isub hx hb nd_Model_wasHour_7 ?_
  obtain ⟨r1, e1, hR⟩ := q_b1 hR
  refine k_rSI (As := [.int x1, .int (0 : Int32), .int (hours_ - (1 : Int32))]) (rest := []) (r := r1) hx hb hml hown hts (cn_Model_within l D ca x1 (0 : Int32) (hours_ - (1 : Int32)) r1 e1) kc_Model_within ks_Model_within tt_828 ⟨by decide, by decide⟩ rfl rfl hP hK [] rfl rfl hl.1 (Nat.le_of_ble_eq_true rfl) rfl nd_Model_wasHour_8 ⟨Nat.zero_le _, Nat.zero_le _⟩ ?_
  obtain ⟨h2, hR⟩ := q_bz hR
  exact hret _ _ _ nd_Model_wasHour_11 h2 (Option.some.inj hR)
def rm_Model_sensor : Room := { frames := 2, cells := 0, slots := 0, locals := 43 }
theorem kc_Model_sensor : k_cal nY_Model_sensor nC_Model_sensor 3 none 2 := ⟨tt_971, tt_10, by decide +kernel⟩
theorem kv_Model_sensor : k_vir nY_Model_sensor := ⟨tt_969, tt_970⟩
set_option maxHeartbeats 4000000 in
set_option maxRecDepth 100000 in
theorem cn_Model_sensor (l : Launch) (D : va_G) (ca : Nat → ClassId) (qa0 qnow qkept qbooks qkeptBooks qconductances qcapacities qrowDamps qrowWaters qtold qlows qhighs qrates qriskRows qlevels qpointsOf qsums qruleKinds qruleLevels qholds qalarms qalarmHours qvalues qchecked qrights : Nat) (thrown_ : Int32) (volume_ : Int32) (share_ : Int32) (layers_ : Int32) (kilograms_ : Int32) (rows_ : Int32) (hours_ : Int32) (rules_ : Int32) (values_ : Nat → Int32) (x1 : Int32) (x2 : Int32) (R0 : Int32) (R1 : Nat → Int32) (hR : fn_Model_sensor hours_ values_ x1 x2 = some (R0, R1)) (sz : Nat) : Met l nY_Model_sensor (Cond.code nY_Model_sensor nC_Model_sensor 3 none :: TT) rm_Model_sensor (wr_P [.ref qa0, .int x1, .int x2] D ca [oc_Model qa0 thrown_ volume_ share_ qnow qkept qbooks qkeptBooks layers_ qconductances qcapacities kilograms_ rows_ qrowDamps qrowWaters qtold qlows qhighs qrates hours_ qriskRows qlevels qpointsOf qsums rules_ qruleKinds qruleLevels qholds qalarms qalarmHours qvalues qchecked qrights, aI qvalues ca 300 values_] sz) (va_Qv (fun (_ : Unit) => True) (wr_B D [oc_Model qa0 thrown_ volume_ share_ qnow qkept qbooks qkeptBooks layers_ qconductances qcapacities kilograms_ rows_ qrowDamps qrowWaters qtold qlows qhighs qrates hours_ qriskRows qlevels qpointsOf qsums rules_ qruleKinds qruleLevels qholds qalarms qalarmHours qvalues qchecked qrights, aI qvalues ca 300 values_] sz [oc_Model qa0 R0 volume_ share_ qnow qkept qbooks qkeptBooks layers_ qconductances qcapacities kilograms_ rows_ qrowDamps qrowWaters qtold qlows qhighs qrates hours_ qriskRows qlevels qpointsOf qsums rules_ qruleKinds qruleLevels qholds qalarms qalarmHours qvalues qchecked qrights, aI qvalues ca 300 R1]) (va_A [oc_Model qa0 thrown_ volume_ share_ qnow qkept qbooks qkeptBooks layers_ qconductances qcapacities kilograms_ rows_ qrowDamps qrowWaters qtold qlows qhighs qrates hours_ qriskRows qlevels qpointsOf qsums rules_ qruleKinds qruleLevels qholds qalarms qalarmHours qvalues qchecked qrights, aI qvalues ca 300 values_] sz)) 0 0 (va_A [oc_Model qa0 thrown_ volume_ share_ qnow qkept qbooks qkeptBooks layers_ qconductances qcapacities kilograms_ rows_ qrowDamps qrowWaters qtold qlows qhighs qrates hours_ qriskRows qlevels qpointsOf qsums rules_ qruleKinds qruleLevels qholds qalarms qalarmHours qvalues qchecked qrights, aI qvalues ca 300 values_] sz) := by
  refine wr_ofV (R := (R0, R1)) (w1 := fun r : Int32 × (Nat → Int32) => [oc_Model qa0 r.1 volume_ share_ qnow qkept qbooks qkeptBooks layers_ qconductances qcapacities kilograms_ rows_ qrowDamps qrowWaters qtold qlows qhighs qrates hours_ qriskRows qlevels qpointsOf qsums rules_ qruleKinds qruleLevels qholds qalarms qalarmHours qvalues qchecked qrights, aI qvalues ca 300 r.2]) (by decide +kernel) (Nat.le_of_ble_eq_true rfl) ?_
  intro p e s m below meth c Q ar ls hx hb hml hts hown hP hK A hD hA hl hret
  have hS : va_S A s.heap s.heap [] := va_S.rf
  have hown : s.vm.findClass nR_Model = some m.cls := hown
  have hl : lv_has ls 3 [(0, .ref qa0), (1, .int x1), (2, .int x2)] := hl
  unfold fn_Model_sensor at hR
  refine lv_aload_n hx hb nd_Model_sensor_0 rfl (lv_at hl 0 rfl) ?_
  refine lv_aload_n hx hb nd_Model_sensor_1 rfl (lv_at hl 0 rfl) ?_
  refine lv_iload_n hx hb nd_Model_sensor_2 rfl (lv_at hl 1 rfl) ?_
  obtain ⟨r1, e1, hR⟩ := q_b1 hR
  refine k_rVI (As := [.int x1]) (rest := [.ref qa0]) (r := r1) hx hb hml hown hts (cn_Model_wasHour l D ca qa0 qnow qkept qbooks qkeptBooks qconductances qcapacities qrowDamps qrowWaters qtold qlows qhighs qrates qriskRows qlevels qpointsOf qsums qruleKinds qruleLevels qholds qalarms qalarmHours qvalues qchecked qrights thrown_ volume_ share_ layers_ kilograms_ rows_ hours_ rules_ x1 r1 e1) kc_Model_wasHour kv_Model_wasHour tt_972 ⟨by decide, by decide⟩ rfl rfl hP hK [0] rfl 0 rfl rfl rfl rfl hl.1 (Nat.le_of_ble_eq_true rfl) rfl nd_Model_sensor_3 ⟨Nat.zero_le _, Nat.zero_le _⟩ ?_
  refine lv_iload_n hx hb nd_Model_sensor_6 rfl (lv_at hl 2 rfl) ?_
  refine lv_ldc hx hb hown (hts _ tt_976) nd_Model_sensor_7 ?_
  refine lv_ldc hx hb hown (hts _ tt_857) nd_Model_sensor_9 ?_
  obtain ⟨r2, e2, hR⟩ := q_b1 hR
  refine k_rSI (As := [.int x2, .int (-100000 : Int32), .int (100000 : Int32)]) (rest := [.int r1, .ref qa0]) (r := r2) hx hb hml hown hts (cn_Model_within l D ca x2 (-100000 : Int32) (100000 : Int32) r2 e2) kc_Model_within ks_Model_within tt_828 ⟨by decide, by decide⟩ rfl rfl hP hK [] rfl rfl hl.1 (Nat.le_of_ble_eq_true rfl) rfl nd_Model_sensor_11 ⟨Nat.zero_le _, Nat.zero_le _⟩ ?_
  refine lv_iconst (v := 1) hx hb nd_Model_sensor_14 (by decide) ?_
  obtain ⟨r3, u3_0, e3, hR⟩ := q_b2 hR
  refine k_wVI (wr := [aI qvalues ca 300 values_]) (w2 := [oc_Model qa0 u3_0 volume_ share_ qnow qkept qbooks qkeptBooks layers_ qconductances qcapacities kilograms_ rows_ qrowDamps qrowWaters qtold qlows qhighs qrates hours_ qriskRows qlevels qpointsOf qsums rules_ qruleKinds qruleLevels qholds qalarms qalarmHours qvalues qchecked qrights, aI qvalues ca 300 values_]) (As := [.int r1, .int r2, .int (1 : Int32)]) (rest := []) (r := r3) hx hb hml hown hts (cn_Model_goes l D ca qa0 qnow qkept qbooks qkeptBooks qconductances qcapacities qrowDamps qrowWaters qtold qlows qhighs qrates qriskRows qlevels qpointsOf qsums qruleKinds qruleLevels qholds qalarms qalarmHours qvalues qchecked qrights thrown_ volume_ share_ layers_ kilograms_ rows_ hours_ rules_ r1 r2 (1 : Int32) r3 u3_0 e3 _) kc_Model_goes kv_Model_goes tt_831 ⟨by decide, by decide⟩ rfl rfl hP hK hD hS hA [0] [1] [1, 0] rfl (by decide) rfl (by decide) (by decide) rfl (by decide) 0 rfl rfl rfl rfl hl.1 (Nat.le_of_ble_eq_true rfl) rfl nd_Model_sensor_15 ⟨Nat.zero_le _, Nat.zero_le _⟩ (fun H locs hP hD hS => ?_)
  obtain ⟨j5_0, hJ5, hR⟩ := q_b1 hR
  have hN5 : ∀ (H : Heap) (locs : List Loc) (ls : Array Slot), va_P D vwCl [oc_Model qa0 u3_0 volume_ share_ qnow qkept qbooks qkeptBooks layers_ qconductances qcapacities kilograms_ rows_ qrowDamps qrowWaters qtold qlows qhighs qrates hours_ qriskRows qlevels qpointsOf qsums rules_ qruleKinds qruleLevels qholds qalarms qalarmHours qvalues qchecked qrights, aI qvalues ca 300 j5_0] H → va_D A [oc_Model qa0 u3_0 volume_ share_ qnow qkept qbooks qkeptBooks layers_ qconductances qcapacities kilograms_ rows_ qrowDamps qrowWaters qtold qlows qhighs qrates hours_ qriskRows qlevels qpointsOf qsums rules_ qruleKinds qruleLevels qholds qalarms qalarmHours qvalues qchecked qrights, aI qvalues ca 300 j5_0] → va_S A s.heap H locs → lv_has ls 3 [(0, .ref qa0), (1, .int x1), (2, .int x2)] → W p l e rm_Model_sensor s m ar below meth c H locs 0 0 Q (F0 m 28 ls []) := by
    intro H locs ls hP hD hS hl
    exact hret (u3_0, j5_0) _ _ _ _ nd_Model_sensor_28 hR hP hD hS
  refine lv_if_eq (tgt := 28) hx hb nd_Model_sensor_18 (by decide) (fun c4 => ?_) (fun c4 => ?_)
  · have hR := q_p c4 hJ5
    cases hR
    exact hN5 _ _ _ hP hD hS (lv_sub hl [0, 1, 2] rfl)
  · have hR := q_n c4 hJ5
    refine lv_aload_n hx hb nd_Model_sensor_21 rfl (lv_at hl 0 rfl) ?_
    refine va_get (D := D) (ci := 9) (v := .ref qvalues) (C := nR_Model) (T := nT_Model) (N := 32) hx hb hts ni_Model hown hK hP 0 rfl rfl 29 (by decide) (hts (.fieldLink nR_Model 82 "RoomClimateModel" "values" "[I") tt_752) (fun _ h9 => h9) rfl nd_Model_sensor_22 ?_
    refine lv_iload_n hx hb nd_Model_sensor_25 rfl (lv_at hl 1 rfl) ?_
    refine lv_iload_n hx hb nd_Model_sensor_26 rfl (lv_at hl 2 rfl) ?_
    obtain ⟨h6, hR⟩ := q_ix hR
    refine va_iast hx hb hK hP hD hS 1 0 rfl rfl h6 nd_Model_sensor_27 (fun H locs hP hD hS => ?_)
    have hP : va_P D vwCl [oc_Model qa0 u3_0 volume_ share_ qnow qkept qbooks qkeptBooks layers_ qconductances qcapacities kilograms_ rows_ qrowDamps qrowWaters qtold qlows qhighs qrates hours_ qriskRows qlevels qpointsOf qsums rules_ qruleKinds qruleLevels qholds qalarms qalarmHours qvalues qchecked qrights, aI qvalues ca 300 (upd values_ x1.toNatClampNeg x2)] H := hP
    have hD : va_D A [oc_Model qa0 u3_0 volume_ share_ qnow qkept qbooks qkeptBooks layers_ qconductances qcapacities kilograms_ rows_ qrowDamps qrowWaters qtold qlows qhighs qrates hours_ qriskRows qlevels qpointsOf qsums rules_ qruleKinds qruleLevels qholds qalarms qalarmHours qvalues qchecked qrights, aI qvalues ca 300 (upd values_ x1.toNatClampNeg x2)] := hD
    cases hR
    exact hN5 _ _ _ hP hD hS (lv_sub hl [0, 1, 2] rfl)
def rm_Model_check : Room := { frames := 2, cells := 0, slots := 0, locals := 43 }
theorem kc_Model_check : k_cal nY_Model_check nC_Model_check 4 none 2 := ⟨tt_980, tt_10, by decide +kernel⟩
theorem kv_Model_check : k_vir nY_Model_check := ⟨tt_978, tt_979⟩
set_option maxHeartbeats 4000000 in
set_option maxRecDepth 100000 in
theorem cn_Model_check (l : Launch) (D : va_G) (ca : Nat → ClassId) (qa0 qnow qkept qbooks qkeptBooks qconductances qcapacities qrowDamps qrowWaters qtold qlows qhighs qrates qriskRows qlevels qpointsOf qsums qruleKinds qruleLevels qholds qalarms qalarmHours qvalues qchecked qrights : Nat) (thrown_ : Int32) (volume_ : Int32) (share_ : Int32) (layers_ : Int32) (kilograms_ : Int32) (rows_ : Int32) (hours_ : Int32) (rules_ : Int32) (values_ : Nat → Int32) (checked_ : Nat → Int32) (rights_ : Nat → Int32) (x1 : Int32) (x2 : Int32) (R0 : Int32) (R1 : Nat → Int32) (R2 : Nat → Int32) (hR : fn_Model_check hours_ values_ checked_ rights_ x1 x2 = some (R0, R1, R2)) (sz : Nat) : Met l nY_Model_check (Cond.code nY_Model_check nC_Model_check 4 none :: TT) rm_Model_check (wr_P [.ref qa0, .int x1, .int x2] D ca [oc_Model qa0 thrown_ volume_ share_ qnow qkept qbooks qkeptBooks layers_ qconductances qcapacities kilograms_ rows_ qrowDamps qrowWaters qtold qlows qhighs qrates hours_ qriskRows qlevels qpointsOf qsums rules_ qruleKinds qruleLevels qholds qalarms qalarmHours qvalues qchecked qrights, aI qvalues ca 300 values_, aZ qchecked ca 300 checked_, aI qrights ca 300 rights_] sz) (va_Qv (fun (_ : Unit) => True) (wr_B D [oc_Model qa0 thrown_ volume_ share_ qnow qkept qbooks qkeptBooks layers_ qconductances qcapacities kilograms_ rows_ qrowDamps qrowWaters qtold qlows qhighs qrates hours_ qriskRows qlevels qpointsOf qsums rules_ qruleKinds qruleLevels qholds qalarms qalarmHours qvalues qchecked qrights, aI qvalues ca 300 values_, aZ qchecked ca 300 checked_, aI qrights ca 300 rights_] sz [oc_Model qa0 R0 volume_ share_ qnow qkept qbooks qkeptBooks layers_ qconductances qcapacities kilograms_ rows_ qrowDamps qrowWaters qtold qlows qhighs qrates hours_ qriskRows qlevels qpointsOf qsums rules_ qruleKinds qruleLevels qholds qalarms qalarmHours qvalues qchecked qrights, aI qvalues ca 300 values_, aZ qchecked ca 300 R1, aI qrights ca 300 R2]) (va_A [oc_Model qa0 thrown_ volume_ share_ qnow qkept qbooks qkeptBooks layers_ qconductances qcapacities kilograms_ rows_ qrowDamps qrowWaters qtold qlows qhighs qrates hours_ qriskRows qlevels qpointsOf qsums rules_ qruleKinds qruleLevels qholds qalarms qalarmHours qvalues qchecked qrights, aI qvalues ca 300 values_, aZ qchecked ca 300 checked_, aI qrights ca 300 rights_] sz)) 0 0 (va_A [oc_Model qa0 thrown_ volume_ share_ qnow qkept qbooks qkeptBooks layers_ qconductances qcapacities kilograms_ rows_ qrowDamps qrowWaters qtold qlows qhighs qrates hours_ qriskRows qlevels qpointsOf qsums rules_ qruleKinds qruleLevels qholds qalarms qalarmHours qvalues qchecked qrights, aI qvalues ca 300 values_, aZ qchecked ca 300 checked_, aI qrights ca 300 rights_] sz) := by
  refine wr_ofV (R := (R0, R1, R2)) (w1 := fun r : Int32 × (Nat → Int32) × (Nat → Int32) => [oc_Model qa0 r.1 volume_ share_ qnow qkept qbooks qkeptBooks layers_ qconductances qcapacities kilograms_ rows_ qrowDamps qrowWaters qtold qlows qhighs qrates hours_ qriskRows qlevels qpointsOf qsums rules_ qruleKinds qruleLevels qholds qalarms qalarmHours qvalues qchecked qrights, aI qvalues ca 300 values_, aZ qchecked ca 300 r.2.1, aI qrights ca 300 r.2.2]) (by decide +kernel) (Nat.le_of_ble_eq_true rfl) ?_
  intro p e s m below meth c Q ar ls hx hb hml hts hown hP hK A hD hA hl hret
  have hS : va_S A s.heap s.heap [] := va_S.rf
  have hown : s.vm.findClass nR_Model = some m.cls := hown
  have hl : lv_has ls 4 [(0, .ref qa0), (1, .int x1), (2, .int x2)] := hl
  unfold fn_Model_check at hR
  refine lv_aload_n hx hb nd_Model_check_0 rfl (lv_at hl 0 rfl) ?_
  refine lv_iload_n hx hb nd_Model_check_1 rfl (lv_at hl 1 rfl) ?_
  obtain ⟨r1, e1, hR⟩ := q_b1 hR
  refine k_rVI (As := [.int x1]) (rest := []) (r := r1) hx hb hml hown hts (cn_Model_wasHour l D ca qa0 qnow qkept qbooks qkeptBooks qconductances qcapacities qrowDamps qrowWaters qtold qlows qhighs qrates qriskRows qlevels qpointsOf qsums qruleKinds qruleLevels qholds qalarms qalarmHours qvalues qchecked qrights thrown_ volume_ share_ layers_ kilograms_ rows_ hours_ rules_ x1 r1 e1) kc_Model_wasHour kv_Model_wasHour tt_972 ⟨by decide, by decide⟩ rfl rfl hP hK [0] rfl 0 rfl rfl rfl rfl hl.1 (Nat.le_of_ble_eq_true rfl) rfl nd_Model_check_2 ⟨Nat.zero_le _, Nat.zero_le _⟩ ?_
  refine lv_istore_n (lv' := [(3, .int r1), (0, .ref qa0), (1, .int x1), (2, .int x2)]) hx hb nd_Model_check_5 rfl hl (by decide) rfl (fun ls hl => ?_)
  refine lv_aload_n hx hb nd_Model_check_6 rfl (lv_at hl 1 rfl) ?_
  refine lv_iload_n hx hb nd_Model_check_7 rfl (lv_at hl 0 rfl) ?_
  refine lv_iload_n hx hb nd_Model_check_8 rfl (lv_at hl 0 rfl) ?_
  obtain ⟨j3_0, hJ3, hR⟩ := q_b1 hR
  have hN3 : ∀ (H : Heap) (locs : List Loc) (ls : Array Slot), va_P D vwCl [oc_Model qa0 thrown_ volume_ share_ qnow qkept qbooks qkeptBooks layers_ qconductances qcapacities kilograms_ rows_ qrowDamps qrowWaters qtold qlows qhighs qrates hours_ qriskRows qlevels qpointsOf qsums rules_ qruleKinds qruleLevels qholds qalarms qalarmHours qvalues qchecked qrights, aI qvalues ca 300 values_, aZ qchecked ca 300 checked_, aI qrights ca 300 rights_] H → va_D A [oc_Model qa0 thrown_ volume_ share_ qnow qkept qbooks qkeptBooks layers_ qconductances qcapacities kilograms_ rows_ qrowDamps qrowWaters qtold qlows qhighs qrates hours_ qriskRows qlevels qpointsOf qsums rules_ qruleKinds qruleLevels qholds qalarms qalarmHours qvalues qchecked qrights, aI qvalues ca 300 values_, aZ qchecked ca 300 checked_, aI qrights ca 300 rights_] → va_S A s.heap H locs → lv_has ls 4 [(0, .ref qa0), (1, .int x1), (2, .int x2), (3, .int r1)] → W p l e rm_Model_check s m ar below meth c H locs 0 0 Q (F0 m 28 ls [.int j3_0, .int r1, .ref qa0]) := by
    intro H locs ls hP hD hS hl
    refine lv_iload_n hx hb nd_Model_check_28 rfl (lv_at hl 2 rfl) ?_
    refine lv_ldc hx hb hown (hts _ tt_976) nd_Model_check_29 ?_
    refine lv_ldc hx hb hown (hts _ tt_857) nd_Model_check_31 ?_
    obtain ⟨r7, e7, hR⟩ := q_b1 hR
    refine k_rSI (As := [.int x2, .int (-100000 : Int32), .int (100000 : Int32)]) (rest := [.int j3_0, .int r1, .ref qa0]) (r := r7) hx hb hml hown hts (cn_Model_within l D ca x2 (-100000 : Int32) (100000 : Int32) r7 e7) kc_Model_within ks_Model_within tt_828 ⟨by decide, by decide⟩ rfl rfl hP hK [] rfl rfl hl.1 (Nat.le_of_ble_eq_true rfl) rfl nd_Model_check_33 ⟨Nat.zero_le _, Nat.zero_le _⟩ ?_
    obtain ⟨r8, u8_0, e8, hR⟩ := q_b2 hR
    refine k_wVI (wr := [aI qvalues ca 300 values_, aZ qchecked ca 300 checked_, aI qrights ca 300 rights_]) (w2 := [oc_Model qa0 u8_0 volume_ share_ qnow qkept qbooks qkeptBooks layers_ qconductances qcapacities kilograms_ rows_ qrowDamps qrowWaters qtold qlows qhighs qrates hours_ qriskRows qlevels qpointsOf qsums rules_ qruleKinds qruleLevels qholds qalarms qalarmHours qvalues qchecked qrights, aI qvalues ca 300 values_, aZ qchecked ca 300 checked_, aI qrights ca 300 rights_]) (As := [.int r1, .int j3_0, .int r7]) (rest := []) (r := r8) hx hb hml hown hts (cn_Model_goes l D ca qa0 qnow qkept qbooks qkeptBooks qconductances qcapacities qrowDamps qrowWaters qtold qlows qhighs qrates qriskRows qlevels qpointsOf qsums qruleKinds qruleLevels qholds qalarms qalarmHours qvalues qchecked qrights thrown_ volume_ share_ layers_ kilograms_ rows_ hours_ rules_ r1 j3_0 r7 r8 u8_0 e8 _) kc_Model_goes kv_Model_goes tt_831 ⟨by decide, by decide⟩ rfl rfl hP hK hD hS hA [0] [1, 2, 3] [3, 0, 1, 2] rfl (by decide) rfl (by decide) (by decide) rfl (by decide) 0 rfl rfl rfl rfl hl.1 (Nat.le_of_ble_eq_true rfl) rfl nd_Model_check_36 ⟨Nat.zero_le _, Nat.zero_le _⟩ (fun H locs hP hD hS => ?_)
    obtain ⟨j10_0, j10_1, hJ10, hR⟩ := q_b2 hR
    have hN10 : ∀ (H : Heap) (locs : List Loc) (ls : Array Slot), va_P D vwCl [oc_Model qa0 u8_0 volume_ share_ qnow qkept qbooks qkeptBooks layers_ qconductances qcapacities kilograms_ rows_ qrowDamps qrowWaters qtold qlows qhighs qrates hours_ qriskRows qlevels qpointsOf qsums rules_ qruleKinds qruleLevels qholds qalarms qalarmHours qvalues qchecked qrights, aI qvalues ca 300 values_, aZ qchecked ca 300 j10_0, aI qrights ca 300 j10_1] H → va_D A [oc_Model qa0 u8_0 volume_ share_ qnow qkept qbooks qkeptBooks layers_ qconductances qcapacities kilograms_ rows_ qrowDamps qrowWaters qtold qlows qhighs qrates hours_ qriskRows qlevels qpointsOf qsums rules_ qruleKinds qruleLevels qholds qalarms qalarmHours qvalues qchecked qrights, aI qvalues ca 300 values_, aZ qchecked ca 300 j10_0, aI qrights ca 300 j10_1] → va_S A s.heap H locs → lv_has ls 4 [(0, .ref qa0), (1, .int x1), (2, .int x2), (3, .int r1)] → W p l e rm_Model_check s m ar below meth c H locs 0 0 Q (F0 m 56 ls []) := by
      intro H locs ls hP hD hS hl
      exact hret (u8_0, j10_0, j10_1) _ _ _ _ nd_Model_check_56 hR hP hD hS
    refine lv_if_eq (tgt := 56) hx hb nd_Model_check_39 (by decide) (fun c9 => ?_) (fun c9 => ?_)
    · have hR := q_p c9 hJ10
      cases hR
      exact hN10 _ _ _ hP hD hS (lv_sub hl [0, 1, 2, 3] rfl)
    · have hR := q_n c9 hJ10
      refine lv_aload_n hx hb nd_Model_check_42 rfl (lv_at hl 0 rfl) ?_
      refine va_get (D := D) (ci := 9) (v := .ref qchecked) (C := nR_Model) (T := nT_Model) (N := 32) hx hb hts ni_Model hown hK hP 0 rfl rfl 30 (by decide) (hts (.fieldLink nR_Model 85 "RoomClimateModel" "checked" "[Z") tt_753) (fun _ h9 => h9) rfl nd_Model_check_43 ?_
      refine lv_iload_n hx hb nd_Model_check_46 rfl (lv_at hl 1 rfl) ?_
      refine lv_iconst (v := 1) hx hb nd_Model_check_47 (by decide) ?_
      obtain ⟨h11, hR⟩ := q_ix hR
      refine va_zast hx hb hK hP hD hS 2 2 rfl rfl h11 nd_Model_check_48 (fun H locs hP hD hS => ?_)
      have hP : va_P D vwCl [oc_Model qa0 u8_0 volume_ share_ qnow qkept qbooks qkeptBooks layers_ qconductances qcapacities kilograms_ rows_ qrowDamps qrowWaters qtold qlows qhighs qrates hours_ qriskRows qlevels qpointsOf qsums rules_ qruleKinds qruleLevels qholds qalarms qalarmHours qvalues qchecked qrights, aI qvalues ca 300 values_, aZ qchecked ca 300 (upd checked_ x1.toNatClampNeg (vp_nar .boolean (1 : Int32))), aI qrights ca 300 rights_] H := hP
      have hD : va_D A [oc_Model qa0 u8_0 volume_ share_ qnow qkept qbooks qkeptBooks layers_ qconductances qcapacities kilograms_ rows_ qrowDamps qrowWaters qtold qlows qhighs qrates hours_ qriskRows qlevels qpointsOf qsums rules_ qruleKinds qruleLevels qholds qalarms qalarmHours qvalues qchecked qrights, aI qvalues ca 300 values_, aZ qchecked ca 300 (upd checked_ x1.toNatClampNeg (vp_nar .boolean (1 : Int32))), aI qrights ca 300 rights_] := hD
      refine lv_aload_n hx hb nd_Model_check_49 rfl (lv_at hl 0 rfl) ?_
      refine va_get (D := D) (ci := 9) (v := .ref qrights) (C := nR_Model) (T := nT_Model) (N := 32) hx hb hts ni_Model hown hK hP 0 rfl rfl 31 (by decide) (hts (.fieldLink nR_Model 88 "RoomClimateModel" "rights" "[I") tt_754) (fun _ h9 => h9) rfl nd_Model_check_50 ?_
      refine lv_iload_n hx hb nd_Model_check_53 rfl (lv_at hl 1 rfl) ?_
      refine lv_iload_n hx hb nd_Model_check_54 rfl (lv_at hl 2 rfl) ?_
      refine va_iast hx hb hK hP hD hS 3 0 rfl rfl h11 nd_Model_check_55 (fun H locs hP hD hS => ?_)
      have hP : va_P D vwCl [oc_Model qa0 u8_0 volume_ share_ qnow qkept qbooks qkeptBooks layers_ qconductances qcapacities kilograms_ rows_ qrowDamps qrowWaters qtold qlows qhighs qrates hours_ qriskRows qlevels qpointsOf qsums rules_ qruleKinds qruleLevels qholds qalarms qalarmHours qvalues qchecked qrights, aI qvalues ca 300 values_, aZ qchecked ca 300 (upd checked_ x1.toNatClampNeg (vp_nar .boolean (1 : Int32))), aI qrights ca 300 (upd rights_ x1.toNatClampNeg x2)] H := hP
      have hD : va_D A [oc_Model qa0 u8_0 volume_ share_ qnow qkept qbooks qkeptBooks layers_ qconductances qcapacities kilograms_ rows_ qrowDamps qrowWaters qtold qlows qhighs qrates hours_ qriskRows qlevels qpointsOf qsums rules_ qruleKinds qruleLevels qholds qalarms qalarmHours qvalues qchecked qrights, aI qvalues ca 300 values_, aZ qchecked ca 300 (upd checked_ x1.toNatClampNeg (vp_nar .boolean (1 : Int32))), aI qrights ca 300 (upd rights_ x1.toNatClampNeg x2)] := hD
      cases hR
      exact hN10 _ _ _ hP hD hS (lv_sub hl [0, 1, 2, 3] rfl)
  refine lv_if_eq (tgt := 27) hx hb nd_Model_check_9 (by decide) (fun c2 => ?_) (fun c2 => ?_)
  · have hR := q_p c2 hJ3
    refine lv_iconst (v := 0) hx hb nd_Model_check_27 (by decide) ?_
    cases hR
    exact hN3 _ _ _ hP hD hS (lv_sub hl [1, 2, 3, 0] rfl)
  · have hR := q_n c2 hJ3
    refine lv_aload_n hx hb nd_Model_check_12 rfl (lv_at hl 1 rfl) ?_
    refine va_get (D := D) (ci := 9) (v := .ref qvalues) (C := nR_Model) (T := nT_Model) (N := 32) hx hb hts ni_Model hown hK hP 0 rfl rfl 29 (by decide) (hts (.fieldLink nR_Model 82 "RoomClimateModel" "values" "[I") tt_752) (fun _ h9 => h9) rfl nd_Model_check_13 ?_
    refine lv_iload_n hx hb nd_Model_check_16 rfl (lv_at hl 2 rfl) ?_
    obtain ⟨h4, hR⟩ := q_ix hR
    refine va_iald hx hb hK hP 1 0 rfl rfl h4 nd_Model_check_17 ?_
    refine lv_ldc hx hb hown (hts _ tt_722) nd_Model_check_18 ?_
    obtain ⟨j6_0, hJ6, hR⟩ := q_b1 hR
    have hN6 : ∀ (H : Heap) (locs : List Loc) (ls : Array Slot), va_P D vwCl [oc_Model qa0 thrown_ volume_ share_ qnow qkept qbooks qkeptBooks layers_ qconductances qcapacities kilograms_ rows_ qrowDamps qrowWaters qtold qlows qhighs qrates hours_ qriskRows qlevels qpointsOf qsums rules_ qruleKinds qruleLevels qholds qalarms qalarmHours qvalues qchecked qrights, aI qvalues ca 300 values_, aZ qchecked ca 300 checked_, aI qrights ca 300 rights_] H → va_D A [oc_Model qa0 thrown_ volume_ share_ qnow qkept qbooks qkeptBooks layers_ qconductances qcapacities kilograms_ rows_ qrowDamps qrowWaters qtold qlows qhighs qrates hours_ qriskRows qlevels qpointsOf qsums rules_ qruleKinds qruleLevels qholds qalarms qalarmHours qvalues qchecked qrights, aI qvalues ca 300 values_, aZ qchecked ca 300 checked_, aI qrights ca 300 rights_] → va_S A s.heap H locs → lv_has ls 4 [(0, .ref qa0), (1, .int x1), (2, .int x2), (3, .int r1)] → W p l e rm_Model_check s m ar below meth c H locs 0 0 Q (F0 m 28 ls [.int j6_0, .int r1, .ref qa0]) := by
      intro H locs ls hP hD hS hl
      cases hR
      exact hN3 _ _ _ hP hD hS (lv_sub hl [0, 1, 2, 3] rfl)
    refine lv_icmp_eq (tgt := 27) hx hb nd_Model_check_20 (by decide) (fun c5 => ?_) (fun c5 => ?_)
    · have hR := q_p c5 hJ6
      refine lv_iconst (v := 0) hx hb nd_Model_check_27 (by decide) ?_
      cases hR
      exact hN6 _ _ _ hP hD hS (lv_sub hl [1, 2, 3, 0] rfl)
    · have hR := q_n c5 hJ6
      refine lv_iconst (v := 1) hx hb nd_Model_check_23 (by decide) ?_
      refine lv_goto (tgt := 28) hx hb nd_Model_check_24 (by decide) ?_
      cases hR
      exact hN6 _ _ _ hP hD hS (lv_sub hl [1, 2, 3, 0] rfl)
def rm_Model_corrected : Room := { frames := 2, cells := 0, slots := 0, locals := 43 }
theorem kc_Model_corrected : k_cal nY_Model_corrected nC_Model_corrected 12 (some .int) 1 := ⟨tt_984, tt_10, by decide +kernel⟩
theorem kv_Model_corrected : k_vir nY_Model_corrected := ⟨tt_982, tt_983⟩
set_option maxHeartbeats 4000000 in
set_option maxRecDepth 100000 in
theorem cn_Model_corrected (l : Launch) (D : va_G) (ca : Nat → ClassId) (qa0 qnow qkept qbooks qkeptBooks qconductances qcapacities qrowDamps qrowWaters qtold qlows qhighs qrates qriskRows qlevels qpointsOf qsums qruleKinds qruleLevels qholds qalarms qalarmHours qvalues qchecked qrights : Nat) (thrown_ : Int32) (volume_ : Int32) (share_ : Int32) (layers_ : Int32) (kilograms_ : Int32) (rows_ : Int32) (hours_ : Int32) (rules_ : Int32) (values_ : Nat → Int32) (checked_ : Nat → Int32) (rights_ : Nat → Int32) (x1 : Int32) (R0 : Int32) (R1 : Int32) (hR : fn_Model_corrected hours_ values_ checked_ rights_ x1 = some (R0, R1)) (sz : Nat) : Met l nY_Model_corrected (Cond.code nY_Model_corrected nC_Model_corrected 12 (some .int) :: TT) rm_Model_corrected (wr_P [.ref qa0, .int x1] D ca [oc_Model qa0 thrown_ volume_ share_ qnow qkept qbooks qkeptBooks layers_ qconductances qcapacities kilograms_ rows_ qrowDamps qrowWaters qtold qlows qhighs qrates hours_ qriskRows qlevels qpointsOf qsums rules_ qruleKinds qruleLevels qholds qalarms qalarmHours qvalues qchecked qrights, aI qvalues ca 300 values_, aZ qchecked ca 300 checked_, aI qrights ca 300 rights_] sz) (va_Qi (fun x (_ : Unit) => x = R0) (wr_B D [oc_Model qa0 thrown_ volume_ share_ qnow qkept qbooks qkeptBooks layers_ qconductances qcapacities kilograms_ rows_ qrowDamps qrowWaters qtold qlows qhighs qrates hours_ qriskRows qlevels qpointsOf qsums rules_ qruleKinds qruleLevels qholds qalarms qalarmHours qvalues qchecked qrights, aI qvalues ca 300 values_, aZ qchecked ca 300 checked_, aI qrights ca 300 rights_] sz [oc_Model qa0 R1 volume_ share_ qnow qkept qbooks qkeptBooks layers_ qconductances qcapacities kilograms_ rows_ qrowDamps qrowWaters qtold qlows qhighs qrates hours_ qriskRows qlevels qpointsOf qsums rules_ qruleKinds qruleLevels qholds qalarms qalarmHours qvalues qchecked qrights, aI qvalues ca 300 values_, aZ qchecked ca 300 checked_, aI qrights ca 300 rights_]) (va_A [oc_Model qa0 thrown_ volume_ share_ qnow qkept qbooks qkeptBooks layers_ qconductances qcapacities kilograms_ rows_ qrowDamps qrowWaters qtold qlows qhighs qrates hours_ qriskRows qlevels qpointsOf qsums rules_ qruleKinds qruleLevels qholds qalarms qalarmHours qvalues qchecked qrights, aI qvalues ca 300 values_, aZ qchecked ca 300 checked_, aI qrights ca 300 rights_] sz)) 0 0 (va_A [oc_Model qa0 thrown_ volume_ share_ qnow qkept qbooks qkeptBooks layers_ qconductances qcapacities kilograms_ rows_ qrowDamps qrowWaters qtold qlows qhighs qrates hours_ qriskRows qlevels qpointsOf qsums rules_ qruleKinds qruleLevels qholds qalarms qalarmHours qvalues qchecked qrights, aI qvalues ca 300 values_, aZ qchecked ca 300 checked_, aI qrights ca 300 rights_] sz) := by
  refine wr_ofI (R := (R0, R1)) (val := fun r => r.1) (w1 := fun r : Int32 × Int32 => [oc_Model qa0 r.2 volume_ share_ qnow qkept qbooks qkeptBooks layers_ qconductances qcapacities kilograms_ rows_ qrowDamps qrowWaters qtold qlows qhighs qrates hours_ qriskRows qlevels qpointsOf qsums rules_ qruleKinds qruleLevels qholds qalarms qalarmHours qvalues qchecked qrights, aI qvalues ca 300 values_, aZ qchecked ca 300 checked_, aI qrights ca 300 rights_]) (by decide +kernel) (Nat.le_of_ble_eq_true rfl) ?_
  intro p e s m below meth c Q ar ls hx hb hml hts hown hP hK A hD hA hl hret
  have hS : va_S A s.heap s.heap [] := va_S.rf
  have hown : s.vm.findClass nR_Model = some m.cls := hown
  have hl : lv_has ls 12 [(0, .ref qa0), (1, .int x1)] := hl
  unfold fn_Model_corrected at hR
  refine lv_aload_n hx hb nd_Model_corrected_0 rfl (lv_at hl 0 rfl) ?_
  refine lv_aload_n hx hb nd_Model_corrected_1 rfl (lv_at hl 0 rfl) ?_
  refine lv_iload_n hx hb nd_Model_corrected_2 rfl (lv_at hl 1 rfl) ?_
  obtain ⟨r1, e1, hR⟩ := q_b1 hR
  refine k_rVI (As := [.int x1]) (rest := [.ref qa0]) (r := r1) hx hb hml hown hts (cn_Model_wasHour l D ca qa0 qnow qkept qbooks qkeptBooks qconductances qcapacities qrowDamps qrowWaters qtold qlows qhighs qrates qriskRows qlevels qpointsOf qsums qruleKinds qruleLevels qholds qalarms qalarmHours qvalues qchecked qrights thrown_ volume_ share_ layers_ kilograms_ rows_ hours_ rules_ x1 r1 e1) kc_Model_wasHour kv_Model_wasHour tt_972 ⟨by decide, by decide⟩ rfl rfl hP hK [0] rfl 0 rfl rfl rfl rfl hl.1 (Nat.le_of_ble_eq_true rfl) rfl nd_Model_corrected_3 ⟨Nat.zero_le _, Nat.zero_le _⟩ ?_
  refine lv_iconst (v := 1) hx hb nd_Model_corrected_6 (by decide) ?_
  refine lv_iconst (v := 1) hx hb nd_Model_corrected_7 (by decide) ?_
  obtain ⟨r2, u2_0, e2, hR⟩ := q_b2 hR
  refine k_wVI (wr := [aI qvalues ca 300 values_, aZ qchecked ca 300 checked_, aI qrights ca 300 rights_]) (w2 := [oc_Model qa0 u2_0 volume_ share_ qnow qkept qbooks qkeptBooks layers_ qconductances qcapacities kilograms_ rows_ qrowDamps qrowWaters qtold qlows qhighs qrates hours_ qriskRows qlevels qpointsOf qsums rules_ qruleKinds qruleLevels qholds qalarms qalarmHours qvalues qchecked qrights, aI qvalues ca 300 values_, aZ qchecked ca 300 checked_, aI qrights ca 300 rights_]) (As := [.int r1, .int (1 : Int32), .int (1 : Int32)]) (rest := []) (r := r2) hx hb hml hown hts (cn_Model_goes l D ca qa0 qnow qkept qbooks qkeptBooks qconductances qcapacities qrowDamps qrowWaters qtold qlows qhighs qrates qriskRows qlevels qpointsOf qsums qruleKinds qruleLevels qholds qalarms qalarmHours qvalues qchecked qrights thrown_ volume_ share_ layers_ kilograms_ rows_ hours_ rules_ r1 (1 : Int32) (1 : Int32) r2 u2_0 e2 _) kc_Model_goes kv_Model_goes tt_831 ⟨by decide, by decide⟩ rfl rfl hP hK hD hS hA [0] [1, 2, 3] [3, 0, 1, 2] rfl (by decide) rfl (by decide) (by decide) rfl (by decide) 0 rfl rfl rfl rfl hl.1 (Nat.le_of_ble_eq_true rfl) rfl nd_Model_corrected_8 ⟨Nat.zero_le _, Nat.zero_le _⟩ (fun H locs hP hD hS => ?_)
  refine lv_if_ne (tgt := 16) hx hb nd_Model_corrected_11 (by decide) (fun c3 => ?_) (fun c3 => ?_)
  · replace hR := q_n c3 hR
    refine lv_aload_n hx hb nd_Model_corrected_16 rfl (lv_at hl 0 rfl) ?_
    refine va_get (D := D) (ci := 9) (v := .ref qvalues) (C := nR_Model) (T := nT_Model) (N := 32) hx hb hts ni_Model hown hK hP 0 rfl rfl 29 (by decide) (hts (.fieldLink nR_Model 82 "RoomClimateModel" "values" "[I") tt_752) (fun _ h9 => h9) rfl nd_Model_corrected_17 ?_
    refine lv_iload_n hx hb nd_Model_corrected_20 rfl (lv_at hl 1 rfl) ?_
    obtain ⟨h4, hR⟩ := q_ix hR
    refine va_iald hx hb hK hP 1 0 rfl rfl h4 nd_Model_corrected_21 ?_
    refine lv_ldc hx hb hown (hts _ tt_722) nd_Model_corrected_22 ?_
    refine lv_icmp_ne (tgt := 30) hx hb nd_Model_corrected_24 (by decide) (fun c5 => ?_) (fun c5 => ?_)
    · replace hR := q_n c5 hR
      refine lv_iconst (v := -1) hx hb nd_Model_corrected_30 (by decide) ?_
      refine lv_istore_n (lv' := [(2, .int (-1 : Int32)), (0, .ref qa0), (1, .int x1)]) hx hb nd_Model_corrected_31 rfl hl (by decide) rfl (fun ls hl => ?_)
      refine lv_iconst (v := -1) hx hb nd_Model_corrected_32 (by decide) ?_
      refine lv_istore_n (lv' := [(3, .int (-1 : Int32)), (2, .int (-1 : Int32)), (0, .ref qa0), (1, .int x1)]) hx hb nd_Model_corrected_33 rfl hl (by decide) rfl (fun ls hl => ?_)
      refine lv_iconst (v := 0) hx hb nd_Model_corrected_34 (by decide) ?_
      refine lv_istore (lv' := [(4, .int (0 : Int32)), (3, .int (-1 : Int32)), (2, .int (-1 : Int32)), (0, .ref qa0), (1, .int x1)]) hx hb nd_Model_corrected_35 hl (by decide) rfl (fun ls hl => ?_)
      have hL37 : ∀ (n37 : Nat) (i2_37 : Int32) (i3_37 : Int32) (i4_37 : Int32) (H : Heap) (locs : List Loc) (ls : Array Slot), fn_Model_corrected_L37 x1 hours_ u2_0 values_ rights_ checked_ n37 i2_37 i3_37 i4_37 = some (R0, R1) → va_P D vwCl [oc_Model qa0 u2_0 volume_ share_ qnow qkept qbooks qkeptBooks layers_ qconductances qcapacities kilograms_ rows_ qrowDamps qrowWaters qtold qlows qhighs qrates hours_ qriskRows qlevels qpointsOf qsums rules_ qruleKinds qruleLevels qholds qalarms qalarmHours qvalues qchecked qrights, aI qvalues ca 300 values_, aZ qchecked ca 300 checked_, aI qrights ca 300 rights_] H → va_D A [oc_Model qa0 u2_0 volume_ share_ qnow qkept qbooks qkeptBooks layers_ qconductances qcapacities kilograms_ rows_ qrowDamps qrowWaters qtold qlows qhighs qrates hours_ qriskRows qlevels qpointsOf qsums rules_ qruleKinds qruleLevels qholds qalarms qalarmHours qvalues qchecked qrights, aI qvalues ca 300 values_, aZ qchecked ca 300 checked_, aI qrights ca 300 rights_] → va_S A s.heap H locs → lv_has ls 12 [(0, .ref qa0), (1, .int x1), (2, .int i2_37), (3, .int i3_37), (4, .int i4_37)] → W p l e rm_Model_corrected s m ar below meth c H locs 0 0 Q (F0 m 37 ls []) := by
        intro n37
        induction n37 with
        | zero => intro i2_37 i3_37 i4_37 H locs ls hR; exact nomatch hR
        | succ n37 ih37 =>
          intro i2_37 i3_37 i4_37 H locs ls hR hP hD hS hl
          rw [fn_Model_corrected_L37] at hR
          refine lv_iload hx hb nd_Model_corrected_37 (lv_at hl 4 rfl) ?_
          refine lv_aload_n hx hb nd_Model_corrected_39 rfl (lv_at hl 0 rfl) ?_
          refine va_get (D := D) (ci := 9) (v := .int hours_) (C := nR_Model) (T := nT_Model) (N := 32) hx hb hts ni_Model hown hK hP 0 rfl rfl 18 (by decide) (hts (.fieldLink nR_Model 172 "RoomClimateModel" "hours" "I") tt_741) (fun _ h9 => h9) rfl nd_Model_corrected_40 ?_
          refine lv_icmp_ge (tgt := 103) hx hb nd_Model_corrected_43 (by decide) (fun c6 => ?_) (fun c6 => ?_)
          · replace hR := q_p c6 hR
            refine lv_iload_n hx hb nd_Model_corrected_103 rfl (lv_at hl 2 rfl) ?_
            refine lv_iconst (v := -1) hx hb nd_Model_corrected_104 (by decide) ?_
            refine lv_icmp_ne (tgt := 120) hx hb nd_Model_corrected_105 (by decide) (fun c7 => ?_) (fun c7 => ?_)
            · replace hR := q_n c7 hR
              refine lv_iload_n hx hb nd_Model_corrected_120 rfl (lv_at hl 2 rfl) ?_
              refine lv_iconst (v := -1) hx hb nd_Model_corrected_121 (by decide) ?_
              refine lv_icmp_ne (tgt := 129) hx hb nd_Model_corrected_122 (by decide) (fun c8 => ?_) (fun c8 => ?_)
              rotate_left
              · first | exact absurd c8 c7 | exact absurd c7 c8
              refine lv_iload_n hx hb nd_Model_corrected_129 rfl (lv_at hl 2 rfl) ?_
              refine lv_istore (lv' := [(4, .int i2_37), (0, .ref qa0), (1, .int x1), (2, .int i2_37), (3, .int i3_37)]) hx hb nd_Model_corrected_130 hl (by decide) rfl (fun ls hl => ?_)
              refine lv_iload_n hx hb nd_Model_corrected_132 rfl (lv_at hl 4 rfl) ?_
              refine lv_iconst (v := -1) hx hb nd_Model_corrected_133 (by decide) ?_
              obtain ⟨j10_0, hJ10, hR⟩ := q_b1 hR
              have hN10 : ∀ (H : Heap) (locs : List Loc) (ls : Array Slot), va_P D vwCl [oc_Model qa0 u2_0 volume_ share_ qnow qkept qbooks qkeptBooks layers_ qconductances qcapacities kilograms_ rows_ qrowDamps qrowWaters qtold qlows qhighs qrates hours_ qriskRows qlevels qpointsOf qsums rules_ qruleKinds qruleLevels qholds qalarms qalarmHours qvalues qchecked qrights, aI qvalues ca 300 values_, aZ qchecked ca 300 checked_, aI qrights ca 300 rights_] H → va_D A [oc_Model qa0 u2_0 volume_ share_ qnow qkept qbooks qkeptBooks layers_ qconductances qcapacities kilograms_ rows_ qrowDamps qrowWaters qtold qlows qhighs qrates hours_ qriskRows qlevels qpointsOf qsums rules_ qruleKinds qruleLevels qholds qalarms qalarmHours qvalues qchecked qrights, aI qvalues ca 300 values_, aZ qchecked ca 300 checked_, aI qrights ca 300 rights_] → va_S A s.heap H locs → lv_has ls 12 [(0, .ref qa0), (1, .int x1), (2, .int i2_37), (3, .int i3_37), (4, .int i2_37)] → W p l e rm_Model_corrected s m ar below meth c H locs 0 0 Q (F0 m 142 ls [.int j10_0]) := by
                intro H locs ls hP hD hS hl
                refine lv_istore (lv' := [(5, .int j10_0), (0, .ref qa0), (1, .int x1), (2, .int i2_37), (3, .int i3_37), (4, .int i2_37)]) hx hb nd_Model_corrected_142 hl (by decide) rfl (fun ls hl => ?_)
                refine lv_aload_n hx hb nd_Model_corrected_144 rfl (lv_at hl 1 rfl) ?_
                refine va_get (D := D) (ci := 9) (v := .ref qrights) (C := nR_Model) (T := nT_Model) (N := 32) hx hb hts ni_Model hown hK hP 0 rfl rfl 31 (by decide) (hts (.fieldLink nR_Model 88 "RoomClimateModel" "rights" "[I") tt_754) (fun _ h9 => h9) rfl nd_Model_corrected_145 ?_
                refine lv_iload hx hb nd_Model_corrected_148 (lv_at hl 5 rfl) ?_
                obtain ⟨h11, hR⟩ := q_ix hR
                refine va_iald hx hb hK hP 3 0 rfl rfl h11 nd_Model_corrected_150 ?_
                refine lv_aload_n hx hb nd_Model_corrected_151 rfl (lv_at hl 1 rfl) ?_
                refine va_get (D := D) (ci := 9) (v := .ref qvalues) (C := nR_Model) (T := nT_Model) (N := 32) hx hb hts ni_Model hown hK hP 0 rfl rfl 29 (by decide) (hts (.fieldLink nR_Model 82 "RoomClimateModel" "values" "[I") tt_752) (fun _ h9 => h9) rfl nd_Model_corrected_152 ?_
                refine lv_iload hx hb nd_Model_corrected_155 (lv_at hl 5 rfl) ?_
                refine va_iald hx hb hK hP 1 0 rfl rfl h11 nd_Model_corrected_157 ?_
                refine lv_isub hx hb nd_Model_corrected_158 ?_
                refine lv_i2l hx hb nd_Model_corrected_159 rfl ?_
                refine lv_lstore (lv' := [(6, .long (((rights_ i2_37.toNatClampNeg) - (values_ i2_37.toNatClampNeg)).toInt64)), (5, .int j10_0), (0, .ref qa0), (1, .int x1), (2, .int i2_37), (3, .int i3_37), (4, .int i2_37)]) hx hb nd_Model_corrected_160 hl (by decide) rfl (fun ls hl => ?_)
                refine lv_aload_n hx hb nd_Model_corrected_162 rfl (lv_at hl 2 rfl) ?_
                refine va_get (D := D) (ci := 9) (v := .ref qrights) (C := nR_Model) (T := nT_Model) (N := 32) hx hb hts ni_Model hown hK hP 0 rfl rfl 31 (by decide) (hts (.fieldLink nR_Model 88 "RoomClimateModel" "rights" "[I") tt_754) (fun _ h9 => h9) rfl nd_Model_corrected_163 ?_
                refine lv_iload hx hb nd_Model_corrected_166 (lv_at hl 1 rfl) ?_
                obtain ⟨h12, hR⟩ := q_ix hR
                refine va_iald hx hb hK hP 3 0 rfl rfl h12 nd_Model_corrected_168 ?_
                refine lv_aload_n hx hb nd_Model_corrected_169 rfl (lv_at hl 2 rfl) ?_
                refine va_get (D := D) (ci := 9) (v := .ref qvalues) (C := nR_Model) (T := nT_Model) (N := 32) hx hb hts ni_Model hown hK hP 0 rfl rfl 29 (by decide) (hts (.fieldLink nR_Model 82 "RoomClimateModel" "values" "[I") tt_752) (fun _ h9 => h9) rfl nd_Model_corrected_170 ?_
                refine lv_iload hx hb nd_Model_corrected_173 (lv_at hl 1 rfl) ?_
                refine va_iald hx hb hK hP 1 0 rfl rfl h12 nd_Model_corrected_175 ?_
                refine lv_isub hx hb nd_Model_corrected_176 ?_
                refine lv_i2l hx hb nd_Model_corrected_177 rfl ?_
                refine lv_lstore (lv' := [(8, .long (((rights_ j10_0.toNatClampNeg) - (values_ j10_0.toNatClampNeg)).toInt64)), (6, .long (((rights_ i2_37.toNatClampNeg) - (values_ i2_37.toNatClampNeg)).toInt64)), (5, .int j10_0), (0, .ref qa0), (1, .int x1), (2, .int i2_37), (3, .int i3_37), (4, .int i2_37)]) hx hb nd_Model_corrected_178 hl (by decide) rfl (fun ls hl => ?_)
                refine lv_iload hx hb nd_Model_corrected_180 (lv_at hl 7 rfl) ?_
                refine lv_iload hx hb nd_Model_corrected_182 (lv_at hl 2 rfl) ?_
                obtain ⟨j14_0, hJ14, hR⟩ := q_b1 hR
                have hN14 : ∀ (H : Heap) (locs : List Loc) (ls : Array Slot), va_P D vwCl [oc_Model qa0 u2_0 volume_ share_ qnow qkept qbooks qkeptBooks layers_ qconductances qcapacities kilograms_ rows_ qrowDamps qrowWaters qtold qlows qhighs qrates hours_ qriskRows qlevels qpointsOf qsums rules_ qruleKinds qruleLevels qholds qalarms qalarmHours qvalues qchecked qrights, aI qvalues ca 300 values_, aZ qchecked ca 300 checked_, aI qrights ca 300 rights_] H → va_D A [oc_Model qa0 u2_0 volume_ share_ qnow qkept qbooks qkeptBooks layers_ qconductances qcapacities kilograms_ rows_ qrowDamps qrowWaters qtold qlows qhighs qrates hours_ qriskRows qlevels qpointsOf qsums rules_ qruleKinds qruleLevels qholds qalarms qalarmHours qvalues qchecked qrights, aI qvalues ca 300 values_, aZ qchecked ca 300 checked_, aI qrights ca 300 rights_] → va_S A s.heap H locs → lv_has ls 12 [(0, .ref qa0), (1, .int x1), (2, .int i2_37), (3, .int i3_37), (4, .int i2_37), (5, .int j10_0), (6, .long (((rights_ i2_37.toNatClampNeg) - (values_ i2_37.toNatClampNeg)).toInt64)), (8, .long (((rights_ j10_0.toNatClampNeg) - (values_ j10_0.toNatClampNeg)).toInt64))] → W p l e rm_Model_corrected s m ar below meth c H locs 0 0 Q (F0 m 211 ls [.long j14_0]) := by
                  intro H locs ls hP hD hS hl
                  refine lv_lstore (lv' := [(10, .long j14_0), (0, .ref qa0), (1, .int x1), (2, .int i2_37), (3, .int i3_37), (4, .int i2_37), (5, .int j10_0), (6, .long (((rights_ i2_37.toNatClampNeg) - (values_ i2_37.toNatClampNeg)).toInt64)), (8, .long (((rights_ j10_0.toNatClampNeg) - (values_ j10_0.toNatClampNeg)).toInt64))]) hx hb nd_Model_corrected_211 hl (by decide) rfl (fun ls hl => ?_)
                  refine lv_aload_n hx hb nd_Model_corrected_213 rfl (lv_at hl 1 rfl) ?_
                  refine va_get (D := D) (ci := 9) (v := .ref qvalues) (C := nR_Model) (T := nT_Model) (N := 32) hx hb hts ni_Model hown hK hP 0 rfl rfl 29 (by decide) (hts (.fieldLink nR_Model 82 "RoomClimateModel" "values" "[I") tt_752) (fun _ h9 => h9) rfl nd_Model_corrected_214 ?_
                  refine lv_iload_n hx hb nd_Model_corrected_217 rfl (lv_at hl 2 rfl) ?_
                  obtain ⟨h16, hR⟩ := q_ix hR
                  refine va_iald hx hb hK hP 1 0 rfl rfl h16 nd_Model_corrected_218 ?_
                  refine lv_lload hx hb nd_Model_corrected_219 (lv_at hl 7 rfl) ?_
                  refine lv_lload hx hb nd_Model_corrected_221 (lv_at hl 0 rfl) ?_
                  refine lv_ladd hx hb nd_Model_corrected_223 ?_
                  refine lv_l2i hx hb nd_Model_corrected_224 rfl ?_
                  refine lv_iadd hx hb nd_Model_corrected_225 ?_
                  exact hret ((values_ x1.toNatClampNeg) + (((((rights_ i2_37.toNatClampNeg) - (values_ i2_37.toNatClampNeg)).toInt64) + j14_0).toInt32), u2_0) _ _ _ _ nd_Model_corrected_226 hR hP hD hS
                refine lv_icmp_ne (tgt := 191) hx hb nd_Model_corrected_184 (by decide) (fun c13 => ?_) (fun c13 => ?_)
                · have hR := q_n c13 hJ14
                  refine lv_lload hx hb nd_Model_corrected_191 (lv_at hl 0 rfl) ?_
                  refine lv_lload hx hb nd_Model_corrected_193 (lv_at hl 1 rfl) ?_
                  refine lv_lsub hx hb nd_Model_corrected_195 ?_
                  refine lv_iload_n hx hb nd_Model_corrected_196 rfl (lv_at hl 4 rfl) ?_
                  refine lv_iload hx hb nd_Model_corrected_197 (lv_at hl 7 rfl) ?_
                  refine lv_isub hx hb nd_Model_corrected_199 ?_
                  refine lv_i2l hx hb nd_Model_corrected_200 rfl ?_
                  refine lv_lmul hx hb nd_Model_corrected_201 ?_
                  refine lv_iload hx hb nd_Model_corrected_202 (lv_at hl 2 rfl) ?_
                  refine lv_iload hx hb nd_Model_corrected_204 (lv_at hl 7 rfl) ?_
                  refine lv_isub hx hb nd_Model_corrected_206 ?_
                  refine lv_i2l hx hb nd_Model_corrected_207 rfl ?_
                  obtain ⟨r15, e15, hR⟩ := q_b1 hR
                  refine k_rSJ (As := [.long (((((rights_ j10_0.toNatClampNeg) - (values_ j10_0.toNatClampNeg)).toInt64) - (((rights_ i2_37.toNatClampNeg) - (values_ i2_37.toNatClampNeg)).toInt64)) * ((x1 - i2_37).toInt64)), .long ((j10_0 - i2_37).toInt64)]) (rest := []) (r := r15) hx hb hml hown hts (cn_Model_by l D ca (((((rights_ j10_0.toNatClampNeg) - (values_ j10_0.toNatClampNeg)).toInt64) - (((rights_ i2_37.toNatClampNeg) - (values_ i2_37.toNatClampNeg)).toInt64)) * ((x1 - i2_37).toInt64)) ((j10_0 - i2_37).toInt64) r15 e15) kc_Model_by ks_Model_by tt_877 ⟨by decide, by decide⟩ rfl rfl hP hK [] rfl rfl hl.1 (Nat.le_of_ble_eq_true rfl) rfl nd_Model_corrected_208 ⟨Nat.zero_le _, Nat.zero_le _⟩ ?_
                  cases hR
                  exact hN14 _ _ _ hP hD hS (lv_sub hl [3, 4, 5, 6, 7, 2, 1, 0] rfl)
                · have hR := q_p c13 hJ14
                  refine lv_lconst (v := 0) hx hb nd_Model_corrected_187 (by decide) ?_
                  refine lv_goto (tgt := 211) hx hb nd_Model_corrected_188 (by decide) ?_
                  cases hR
                  exact hN14 _ _ _ hP hD hS (lv_sub hl [3, 4, 5, 6, 7, 2, 1, 0] rfl)
              refine lv_icmp_ne (tgt := 141) hx hb nd_Model_corrected_134 (by decide) (fun c9 => ?_) (fun c9 => ?_)
              · have hR := q_n c9 hJ10
                refine lv_iload_n hx hb nd_Model_corrected_141 rfl (lv_at hl 4 rfl) ?_
                cases hR
                exact hN10 _ _ _ hP hD hS (lv_sub hl [1, 2, 3, 4, 0] rfl)
              · have hR := q_p c9 hJ10
                refine lv_iload_n hx hb nd_Model_corrected_137 rfl (lv_at hl 3 rfl) ?_
                refine lv_goto (tgt := 142) hx hb nd_Model_corrected_138 (by decide) ?_
                cases hR
                exact hN10 _ _ _ hP hD hS (lv_sub hl [1, 2, 3, 4, 0] rfl)
            · replace hR := q_p c7 hR
              refine lv_iload_n hx hb nd_Model_corrected_108 rfl (lv_at hl 3 rfl) ?_
              refine lv_iconst (v := -1) hx hb nd_Model_corrected_109 (by decide) ?_
              refine lv_icmp_ne (tgt := 120) hx hb nd_Model_corrected_110 (by decide) (fun c17 => ?_) (fun c17 => ?_)
              · replace hR := q_n c17 hR
                refine lv_iload_n hx hb nd_Model_corrected_120 rfl (lv_at hl 2 rfl) ?_
                refine lv_iconst (v := -1) hx hb nd_Model_corrected_121 (by decide) ?_
                refine lv_icmp_ne (tgt := 129) hx hb nd_Model_corrected_122 (by decide) (fun c18 => ?_) (fun c18 => ?_)
                · first | exact absurd c18 c7 | exact absurd c7 c18
                refine lv_iload_n hx hb nd_Model_corrected_125 rfl (lv_at hl 3 rfl) ?_
                refine lv_goto (tgt := 130) hx hb nd_Model_corrected_126 (by decide) ?_
                refine lv_istore (lv' := [(4, .int i3_37), (0, .ref qa0), (1, .int x1), (2, .int i2_37), (3, .int i3_37)]) hx hb nd_Model_corrected_130 hl (by decide) rfl (fun ls hl => ?_)
                refine lv_iload_n hx hb nd_Model_corrected_132 rfl (lv_at hl 4 rfl) ?_
                refine lv_iconst (v := -1) hx hb nd_Model_corrected_133 (by decide) ?_
                refine lv_icmp_ne (tgt := 141) hx hb nd_Model_corrected_134 (by decide) (fun c19 => ?_) (fun c19 => ?_)
                rotate_left
                · first | exact absurd c19 c17 | exact absurd c17 c19
                refine lv_iload_n hx hb nd_Model_corrected_141 rfl (lv_at hl 4 rfl) ?_
                refine lv_istore (lv' := [(5, .int i3_37), (4, .int i3_37), (0, .ref qa0), (1, .int x1), (2, .int i2_37), (3, .int i3_37)]) hx hb nd_Model_corrected_142 hl (by decide) rfl (fun ls hl => ?_)
                refine lv_aload_n hx hb nd_Model_corrected_144 rfl (lv_at hl 2 rfl) ?_
                refine va_get (D := D) (ci := 9) (v := .ref qrights) (C := nR_Model) (T := nT_Model) (N := 32) hx hb hts ni_Model hown hK hP 0 rfl rfl 31 (by decide) (hts (.fieldLink nR_Model 88 "RoomClimateModel" "rights" "[I") tt_754) (fun _ h9 => h9) rfl nd_Model_corrected_145 ?_
                refine lv_iload hx hb nd_Model_corrected_148 (lv_at hl 1 rfl) ?_
                obtain ⟨h20, hR⟩ := q_ix hR
                refine va_iald hx hb hK hP 3 0 rfl rfl h20 nd_Model_corrected_150 ?_
                refine lv_aload_n hx hb nd_Model_corrected_151 rfl (lv_at hl 2 rfl) ?_
                refine va_get (D := D) (ci := 9) (v := .ref qvalues) (C := nR_Model) (T := nT_Model) (N := 32) hx hb hts ni_Model hown hK hP 0 rfl rfl 29 (by decide) (hts (.fieldLink nR_Model 82 "RoomClimateModel" "values" "[I") tt_752) (fun _ h9 => h9) rfl nd_Model_corrected_152 ?_
                refine lv_iload hx hb nd_Model_corrected_155 (lv_at hl 1 rfl) ?_
                refine va_iald hx hb hK hP 1 0 rfl rfl h20 nd_Model_corrected_157 ?_
                refine lv_isub hx hb nd_Model_corrected_158 ?_
                refine lv_i2l hx hb nd_Model_corrected_159 rfl ?_
                refine lv_lstore (lv' := [(6, .long (((rights_ i3_37.toNatClampNeg) - (values_ i3_37.toNatClampNeg)).toInt64)), (5, .int i3_37), (4, .int i3_37), (0, .ref qa0), (1, .int x1), (2, .int i2_37), (3, .int i3_37)]) hx hb nd_Model_corrected_160 hl (by decide) rfl (fun ls hl => ?_)
                refine lv_aload_n hx hb nd_Model_corrected_162 rfl (lv_at hl 3 rfl) ?_
                refine va_get (D := D) (ci := 9) (v := .ref qrights) (C := nR_Model) (T := nT_Model) (N := 32) hx hb hts ni_Model hown hK hP 0 rfl rfl 31 (by decide) (hts (.fieldLink nR_Model 88 "RoomClimateModel" "rights" "[I") tt_754) (fun _ h9 => h9) rfl nd_Model_corrected_163 ?_
                refine lv_iload hx hb nd_Model_corrected_166 (lv_at hl 1 rfl) ?_
                refine va_iald hx hb hK hP 3 0 rfl rfl h20 nd_Model_corrected_168 ?_
                refine lv_aload_n hx hb nd_Model_corrected_169 rfl (lv_at hl 3 rfl) ?_
                refine va_get (D := D) (ci := 9) (v := .ref qvalues) (C := nR_Model) (T := nT_Model) (N := 32) hx hb hts ni_Model hown hK hP 0 rfl rfl 29 (by decide) (hts (.fieldLink nR_Model 82 "RoomClimateModel" "values" "[I") tt_752) (fun _ h9 => h9) rfl nd_Model_corrected_170 ?_
                refine lv_iload hx hb nd_Model_corrected_173 (lv_at hl 1 rfl) ?_
                refine va_iald hx hb hK hP 1 0 rfl rfl h20 nd_Model_corrected_175 ?_
                refine lv_isub hx hb nd_Model_corrected_176 ?_
                refine lv_i2l hx hb nd_Model_corrected_177 rfl ?_
                refine lv_lstore (lv' := [(8, .long (((rights_ i3_37.toNatClampNeg) - (values_ i3_37.toNatClampNeg)).toInt64)), (6, .long (((rights_ i3_37.toNatClampNeg) - (values_ i3_37.toNatClampNeg)).toInt64)), (5, .int i3_37), (4, .int i3_37), (0, .ref qa0), (1, .int x1), (2, .int i2_37), (3, .int i3_37)]) hx hb nd_Model_corrected_178 hl (by decide) rfl (fun ls hl => ?_)
                refine lv_iload hx hb nd_Model_corrected_180 (lv_at hl 3 rfl) ?_
                refine lv_iload hx hb nd_Model_corrected_182 (lv_at hl 2 rfl) ?_
                obtain ⟨j22_0, hJ22, hR⟩ := q_b1 hR
                have hN22 : ∀ (H : Heap) (locs : List Loc) (ls : Array Slot), va_P D vwCl [oc_Model qa0 u2_0 volume_ share_ qnow qkept qbooks qkeptBooks layers_ qconductances qcapacities kilograms_ rows_ qrowDamps qrowWaters qtold qlows qhighs qrates hours_ qriskRows qlevels qpointsOf qsums rules_ qruleKinds qruleLevels qholds qalarms qalarmHours qvalues qchecked qrights, aI qvalues ca 300 values_, aZ qchecked ca 300 checked_, aI qrights ca 300 rights_] H → va_D A [oc_Model qa0 u2_0 volume_ share_ qnow qkept qbooks qkeptBooks layers_ qconductances qcapacities kilograms_ rows_ qrowDamps qrowWaters qtold qlows qhighs qrates hours_ qriskRows qlevels qpointsOf qsums rules_ qruleKinds qruleLevels qholds qalarms qalarmHours qvalues qchecked qrights, aI qvalues ca 300 values_, aZ qchecked ca 300 checked_, aI qrights ca 300 rights_] → va_S A s.heap H locs → lv_has ls 12 [(0, .ref qa0), (1, .int x1), (2, .int i2_37), (3, .int i3_37), (4, .int i3_37), (5, .int i3_37), (6, .long (((rights_ i3_37.toNatClampNeg) - (values_ i3_37.toNatClampNeg)).toInt64)), (8, .long (((rights_ i3_37.toNatClampNeg) - (values_ i3_37.toNatClampNeg)).toInt64))] → W p l e rm_Model_corrected s m ar below meth c H locs 0 0 Q (F0 m 211 ls [.long j22_0]) := by
                  intro H locs ls hP hD hS hl
                  refine lv_lstore (lv' := [(10, .long j22_0), (0, .ref qa0), (1, .int x1), (2, .int i2_37), (3, .int i3_37), (4, .int i3_37), (5, .int i3_37), (6, .long (((rights_ i3_37.toNatClampNeg) - (values_ i3_37.toNatClampNeg)).toInt64)), (8, .long (((rights_ i3_37.toNatClampNeg) - (values_ i3_37.toNatClampNeg)).toInt64))]) hx hb nd_Model_corrected_211 hl (by decide) rfl (fun ls hl => ?_)
                  refine lv_aload_n hx hb nd_Model_corrected_213 rfl (lv_at hl 1 rfl) ?_
                  refine va_get (D := D) (ci := 9) (v := .ref qvalues) (C := nR_Model) (T := nT_Model) (N := 32) hx hb hts ni_Model hown hK hP 0 rfl rfl 29 (by decide) (hts (.fieldLink nR_Model 82 "RoomClimateModel" "values" "[I") tt_752) (fun _ h9 => h9) rfl nd_Model_corrected_214 ?_
                  refine lv_iload_n hx hb nd_Model_corrected_217 rfl (lv_at hl 2 rfl) ?_
                  obtain ⟨h24, hR⟩ := q_ix hR
                  refine va_iald hx hb hK hP 1 0 rfl rfl h24 nd_Model_corrected_218 ?_
                  refine lv_lload hx hb nd_Model_corrected_219 (lv_at hl 7 rfl) ?_
                  refine lv_lload hx hb nd_Model_corrected_221 (lv_at hl 0 rfl) ?_
                  refine lv_ladd hx hb nd_Model_corrected_223 ?_
                  refine lv_l2i hx hb nd_Model_corrected_224 rfl ?_
                  refine lv_iadd hx hb nd_Model_corrected_225 ?_
                  exact hret ((values_ x1.toNatClampNeg) + (((((rights_ i3_37.toNatClampNeg) - (values_ i3_37.toNatClampNeg)).toInt64) + j22_0).toInt32), u2_0) _ _ _ _ nd_Model_corrected_226 hR hP hD hS
                refine lv_icmp_ne (tgt := 191) hx hb nd_Model_corrected_184 (by decide) (fun c21 => ?_) (fun c21 => ?_)
                · have hR := q_n c21 hJ22
                  refine lv_lload hx hb nd_Model_corrected_191 (lv_at hl 0 rfl) ?_
                  refine lv_lload hx hb nd_Model_corrected_193 (lv_at hl 1 rfl) ?_
                  refine lv_lsub hx hb nd_Model_corrected_195 ?_
                  refine lv_iload_n hx hb nd_Model_corrected_196 rfl (lv_at hl 5 rfl) ?_
                  refine lv_iload hx hb nd_Model_corrected_197 (lv_at hl 3 rfl) ?_
                  refine lv_isub hx hb nd_Model_corrected_199 ?_
                  refine lv_i2l hx hb nd_Model_corrected_200 rfl ?_
                  refine lv_lmul hx hb nd_Model_corrected_201 ?_
                  refine lv_iload hx hb nd_Model_corrected_202 (lv_at hl 2 rfl) ?_
                  refine lv_iload hx hb nd_Model_corrected_204 (lv_at hl 3 rfl) ?_
                  refine lv_isub hx hb nd_Model_corrected_206 ?_
                  refine lv_i2l hx hb nd_Model_corrected_207 rfl ?_
                  obtain ⟨r23, e23, hR⟩ := q_b1 hR
                  refine k_rSJ (As := [.long (((((rights_ i3_37.toNatClampNeg) - (values_ i3_37.toNatClampNeg)).toInt64) - (((rights_ i3_37.toNatClampNeg) - (values_ i3_37.toNatClampNeg)).toInt64)) * ((x1 - i3_37).toInt64)), .long ((i3_37 - i3_37).toInt64)]) (rest := []) (r := r23) hx hb hml hown hts (cn_Model_by l D ca (((((rights_ i3_37.toNatClampNeg) - (values_ i3_37.toNatClampNeg)).toInt64) - (((rights_ i3_37.toNatClampNeg) - (values_ i3_37.toNatClampNeg)).toInt64)) * ((x1 - i3_37).toInt64)) ((i3_37 - i3_37).toInt64) r23 e23) kc_Model_by ks_Model_by tt_877 ⟨by decide, by decide⟩ rfl rfl hP hK [] rfl rfl hl.1 (Nat.le_of_ble_eq_true rfl) rfl nd_Model_corrected_208 ⟨Nat.zero_le _, Nat.zero_le _⟩ ?_
                  cases hR
                  exact hN22 _ _ _ hP hD hS (lv_sub hl [4, 5, 6, 7, 3, 2, 1, 0] rfl)
                · have hR := q_p c21 hJ22
                  refine lv_lconst (v := 0) hx hb nd_Model_corrected_187 (by decide) ?_
                  refine lv_goto (tgt := 211) hx hb nd_Model_corrected_188 (by decide) ?_
                  cases hR
                  exact hN22 _ _ _ hP hD hS (lv_sub hl [4, 5, 6, 7, 3, 2, 1, 0] rfl)
              · replace hR := q_p c17 hR
                refine lv_aload_n hx hb nd_Model_corrected_113 rfl (lv_at hl 0 rfl) ?_
                refine va_get (D := D) (ci := 9) (v := .ref qvalues) (C := nR_Model) (T := nT_Model) (N := 32) hx hb hts ni_Model hown hK hP 0 rfl rfl 29 (by decide) (hts (.fieldLink nR_Model 82 "RoomClimateModel" "values" "[I") tt_752) (fun _ h9 => h9) rfl nd_Model_corrected_114 ?_
                refine lv_iload_n hx hb nd_Model_corrected_117 rfl (lv_at hl 1 rfl) ?_
                obtain ⟨h25, hR⟩ := q_ix hR
                refine va_iald hx hb hK hP 1 0 rfl rfl h25 nd_Model_corrected_118 ?_
                exact hret (values_ x1.toNatClampNeg, u2_0) _ _ _ _ nd_Model_corrected_119 hR hP hD hS
          · replace hR := q_n c6 hR
            refine lv_aload_n hx hb nd_Model_corrected_46 rfl (lv_at hl 0 rfl) ?_
            refine va_get (D := D) (ci := 9) (v := .ref qchecked) (C := nR_Model) (T := nT_Model) (N := 32) hx hb hts ni_Model hown hK hP 0 rfl rfl 30 (by decide) (hts (.fieldLink nR_Model 85 "RoomClimateModel" "checked" "[Z") tt_753) (fun _ h9 => h9) rfl nd_Model_corrected_47 ?_
            refine lv_iload hx hb nd_Model_corrected_50 (lv_at hl 4 rfl) ?_
            obtain ⟨h26, hR⟩ := q_ix hR
            refine va_zald hx hb hK hP 2 2 rfl rfl h26 nd_Model_corrected_52 ?_
            obtain ⟨j28_0, hJ28, hR⟩ := q_b1 hR
            have hN28 : ∀ (H : Heap) (locs : List Loc) (ls : Array Slot), va_P D vwCl [oc_Model qa0 u2_0 volume_ share_ qnow qkept qbooks qkeptBooks layers_ qconductances qcapacities kilograms_ rows_ qrowDamps qrowWaters qtold qlows qhighs qrates hours_ qriskRows qlevels qpointsOf qsums rules_ qruleKinds qruleLevels qholds qalarms qalarmHours qvalues qchecked qrights, aI qvalues ca 300 values_, aZ qchecked ca 300 checked_, aI qrights ca 300 rights_] H → va_D A [oc_Model qa0 u2_0 volume_ share_ qnow qkept qbooks qkeptBooks layers_ qconductances qcapacities kilograms_ rows_ qrowDamps qrowWaters qtold qlows qhighs qrates hours_ qriskRows qlevels qpointsOf qsums rules_ qruleKinds qruleLevels qholds qalarms qalarmHours qvalues qchecked qrights, aI qvalues ca 300 values_, aZ qchecked ca 300 checked_, aI qrights ca 300 rights_] → va_S A s.heap H locs → lv_has ls 12 [(0, .ref qa0), (1, .int x1), (2, .int i2_37), (3, .int i3_37), (4, .int i4_37)] → W p l e rm_Model_corrected s m ar below meth c H locs 0 0 Q (F0 m 68 ls [.int j28_0]) := by
              intro H locs ls hP hD hS hl
              refine lv_istore_n (lv' := [(2, .int j28_0), (0, .ref qa0), (1, .int x1), (3, .int i3_37), (4, .int i4_37)]) hx hb nd_Model_corrected_68 rfl hl (by decide) rfl (fun ls hl => ?_)
              refine lv_aload_n hx hb nd_Model_corrected_69 rfl (lv_at hl 1 rfl) ?_
              refine va_get (D := D) (ci := 9) (v := .ref qchecked) (C := nR_Model) (T := nT_Model) (N := 32) hx hb hts ni_Model hown hK hP 0 rfl rfl 30 (by decide) (hts (.fieldLink nR_Model 85 "RoomClimateModel" "checked" "[Z") tt_753) (fun _ h9 => h9) rfl nd_Model_corrected_70 ?_
              refine lv_iload hx hb nd_Model_corrected_73 (lv_at hl 4 rfl) ?_
              refine va_zald hx hb hK hP 2 2 rfl rfl h26 nd_Model_corrected_75 ?_
              obtain ⟨j32_0, hJ32, hR⟩ := q_b1 hR
              have hN32 : ∀ (H : Heap) (locs : List Loc) (ls : Array Slot), va_P D vwCl [oc_Model qa0 u2_0 volume_ share_ qnow qkept qbooks qkeptBooks layers_ qconductances qcapacities kilograms_ rows_ qrowDamps qrowWaters qtold qlows qhighs qrates hours_ qriskRows qlevels qpointsOf qsums rules_ qruleKinds qruleLevels qholds qalarms qalarmHours qvalues qchecked qrights, aI qvalues ca 300 values_, aZ qchecked ca 300 checked_, aI qrights ca 300 rights_] H → va_D A [oc_Model qa0 u2_0 volume_ share_ qnow qkept qbooks qkeptBooks layers_ qconductances qcapacities kilograms_ rows_ qrowDamps qrowWaters qtold qlows qhighs qrates hours_ qriskRows qlevels qpointsOf qsums rules_ qruleKinds qruleLevels qholds qalarms qalarmHours qvalues qchecked qrights, aI qvalues ca 300 values_, aZ qchecked ca 300 checked_, aI qrights ca 300 rights_] → va_S A s.heap H locs → lv_has ls 12 [(0, .ref qa0), (1, .int x1), (2, .int j28_0), (3, .int i3_37), (4, .int i4_37)] → W p l e rm_Model_corrected s m ar below meth c H locs 0 0 Q (F0 m 96 ls [.int j32_0]) := by
                intro H locs ls hP hD hS hl
                refine lv_istore_n (lv' := [(3, .int j32_0), (0, .ref qa0), (1, .int x1), (2, .int j28_0), (4, .int i4_37)]) hx hb nd_Model_corrected_96 rfl hl (by decide) rfl (fun ls hl => ?_)
                refine lv_iinc (v := i4_37 + 1) (lv' := [(4, .int (i4_37 + 1)), (3, .int j32_0), (0, .ref qa0), (1, .int x1), (2, .int j28_0)]) hx hb nd_Model_corrected_97 hl (k := 4) rfl (by first | rfl | decide) (by decide) rfl (fun ls hl => ?_)
                refine lv_goto (tgt := 37) hx hb nd_Model_corrected_100 (by decide) ?_
                exact ih37 j28_0 j32_0 (i4_37 + 1) _ _ _ hR hP hD hS (lv_sub hl [2, 3, 4, 1, 0] rfl)
              refine lv_if_eq (tgt := 95) hx hb nd_Model_corrected_76 (by decide) (fun c31 => ?_) (fun c31 => ?_)
              · have hR := q_p c31 hJ32
                refine lv_iload_n hx hb nd_Model_corrected_95 rfl (lv_at hl 3 rfl) ?_
                cases hR
                exact hN32 _ _ _ hP hD hS (lv_sub hl [1, 2, 0, 3, 4] rfl)
              · have hR := q_n c31 hJ32
                refine lv_iload hx hb nd_Model_corrected_79 (lv_at hl 4 rfl) ?_
                refine lv_iload_n hx hb nd_Model_corrected_81 rfl (lv_at hl 2 rfl) ?_
                obtain ⟨j34_0, hJ34, hR⟩ := q_b1 hR
                have hN34 : ∀ (H : Heap) (locs : List Loc) (ls : Array Slot), va_P D vwCl [oc_Model qa0 u2_0 volume_ share_ qnow qkept qbooks qkeptBooks layers_ qconductances qcapacities kilograms_ rows_ qrowDamps qrowWaters qtold qlows qhighs qrates hours_ qriskRows qlevels qpointsOf qsums rules_ qruleKinds qruleLevels qholds qalarms qalarmHours qvalues qchecked qrights, aI qvalues ca 300 values_, aZ qchecked ca 300 checked_, aI qrights ca 300 rights_] H → va_D A [oc_Model qa0 u2_0 volume_ share_ qnow qkept qbooks qkeptBooks layers_ qconductances qcapacities kilograms_ rows_ qrowDamps qrowWaters qtold qlows qhighs qrates hours_ qriskRows qlevels qpointsOf qsums rules_ qruleKinds qruleLevels qholds qalarms qalarmHours qvalues qchecked qrights, aI qvalues ca 300 values_, aZ qchecked ca 300 checked_, aI qrights ca 300 rights_] → va_S A s.heap H locs → lv_has ls 12 [(0, .ref qa0), (1, .int x1), (2, .int j28_0), (3, .int i3_37), (4, .int i4_37)] → W p l e rm_Model_corrected s m ar below meth c H locs 0 0 Q (F0 m 96 ls [.int j34_0]) := by
                  intro H locs ls hP hD hS hl
                  cases hR
                  exact hN32 _ _ _ hP hD hS (lv_sub hl [0, 1, 2, 3, 4] rfl)
                refine lv_icmp_lt (tgt := 95) hx hb nd_Model_corrected_82 (by decide) (fun c33 => ?_) (fun c33 => ?_)
                · have hR := q_p c33 hJ34
                  refine lv_iload_n hx hb nd_Model_corrected_95 rfl (lv_at hl 3 rfl) ?_
                  cases hR
                  exact hN34 _ _ _ hP hD hS (lv_sub hl [1, 2, 0, 3, 4] rfl)
                · have hR := q_n c33 hJ34
                  refine lv_iload_n hx hb nd_Model_corrected_85 rfl (lv_at hl 3 rfl) ?_
                  refine lv_iconst (v := -1) hx hb nd_Model_corrected_86 (by decide) ?_
                  obtain ⟨j36_0, hJ36, hR⟩ := q_b1 hR
                  have hN36 : ∀ (H : Heap) (locs : List Loc) (ls : Array Slot), va_P D vwCl [oc_Model qa0 u2_0 volume_ share_ qnow qkept qbooks qkeptBooks layers_ qconductances qcapacities kilograms_ rows_ qrowDamps qrowWaters qtold qlows qhighs qrates hours_ qriskRows qlevels qpointsOf qsums rules_ qruleKinds qruleLevels qholds qalarms qalarmHours qvalues qchecked qrights, aI qvalues ca 300 values_, aZ qchecked ca 300 checked_, aI qrights ca 300 rights_] H → va_D A [oc_Model qa0 u2_0 volume_ share_ qnow qkept qbooks qkeptBooks layers_ qconductances qcapacities kilograms_ rows_ qrowDamps qrowWaters qtold qlows qhighs qrates hours_ qriskRows qlevels qpointsOf qsums rules_ qruleKinds qruleLevels qholds qalarms qalarmHours qvalues qchecked qrights, aI qvalues ca 300 values_, aZ qchecked ca 300 checked_, aI qrights ca 300 rights_] → va_S A s.heap H locs → lv_has ls 12 [(0, .ref qa0), (1, .int x1), (2, .int j28_0), (3, .int i3_37), (4, .int i4_37)] → W p l e rm_Model_corrected s m ar below meth c H locs 0 0 Q (F0 m 96 ls [.int j36_0]) := by
                    intro H locs ls hP hD hS hl
                    cases hR
                    exact hN34 _ _ _ hP hD hS (lv_sub hl [0, 1, 2, 3, 4] rfl)
                  refine lv_icmp_ne (tgt := 95) hx hb nd_Model_corrected_87 (by decide) (fun c35 => ?_) (fun c35 => ?_)
                  · have hR := q_n c35 hJ36
                    refine lv_iload_n hx hb nd_Model_corrected_95 rfl (lv_at hl 3 rfl) ?_
                    cases hR
                    exact hN36 _ _ _ hP hD hS (lv_sub hl [1, 2, 0, 3, 4] rfl)
                  · have hR := q_p c35 hJ36
                    refine lv_iload hx hb nd_Model_corrected_90 (lv_at hl 4 rfl) ?_
                    refine lv_goto (tgt := 96) hx hb nd_Model_corrected_92 (by decide) ?_
                    cases hR
                    exact hN36 _ _ _ hP hD hS (lv_sub hl [1, 2, 0, 3, 4] rfl)
            refine lv_if_eq (tgt := 67) hx hb nd_Model_corrected_53 (by decide) (fun c27 => ?_) (fun c27 => ?_)
            · have hR := q_p c27 hJ28
              refine lv_iload_n hx hb nd_Model_corrected_67 rfl (lv_at hl 2 rfl) ?_
              cases hR
              exact hN28 _ _ _ hP hD hS (lv_sub hl [0, 1, 2, 3, 4] rfl)
            · have hR := q_n c27 hJ28
              refine lv_iload hx hb nd_Model_corrected_56 (lv_at hl 4 rfl) ?_
              refine lv_iload_n hx hb nd_Model_corrected_58 rfl (lv_at hl 1 rfl) ?_
              obtain ⟨j30_0, hJ30, hR⟩ := q_b1 hR
              have hN30 : ∀ (H : Heap) (locs : List Loc) (ls : Array Slot), va_P D vwCl [oc_Model qa0 u2_0 volume_ share_ qnow qkept qbooks qkeptBooks layers_ qconductances qcapacities kilograms_ rows_ qrowDamps qrowWaters qtold qlows qhighs qrates hours_ qriskRows qlevels qpointsOf qsums rules_ qruleKinds qruleLevels qholds qalarms qalarmHours qvalues qchecked qrights, aI qvalues ca 300 values_, aZ qchecked ca 300 checked_, aI qrights ca 300 rights_] H → va_D A [oc_Model qa0 u2_0 volume_ share_ qnow qkept qbooks qkeptBooks layers_ qconductances qcapacities kilograms_ rows_ qrowDamps qrowWaters qtold qlows qhighs qrates hours_ qriskRows qlevels qpointsOf qsums rules_ qruleKinds qruleLevels qholds qalarms qalarmHours qvalues qchecked qrights, aI qvalues ca 300 values_, aZ qchecked ca 300 checked_, aI qrights ca 300 rights_] → va_S A s.heap H locs → lv_has ls 12 [(0, .ref qa0), (1, .int x1), (2, .int i2_37), (3, .int i3_37), (4, .int i4_37)] → W p l e rm_Model_corrected s m ar below meth c H locs 0 0 Q (F0 m 68 ls [.int j30_0]) := by
                intro H locs ls hP hD hS hl
                cases hR
                exact hN28 _ _ _ hP hD hS (lv_sub hl [0, 1, 2, 3, 4] rfl)
              refine lv_icmp_gt (tgt := 67) hx hb nd_Model_corrected_59 (by decide) (fun c29 => ?_) (fun c29 => ?_)
              · have hR := q_p c29 hJ30
                refine lv_iload_n hx hb nd_Model_corrected_67 rfl (lv_at hl 2 rfl) ?_
                cases hR
                exact hN30 _ _ _ hP hD hS (lv_sub hl [0, 1, 2, 3, 4] rfl)
              · have hR := q_n c29 hJ30
                refine lv_iload hx hb nd_Model_corrected_62 (lv_at hl 4 rfl) ?_
                refine lv_goto (tgt := 68) hx hb nd_Model_corrected_64 (by decide) ?_
                cases hR
                exact hN30 _ _ _ hP hD hS (lv_sub hl [0, 1, 2, 3, 4] rfl)
      exact hL37 400 (-1 : Int32) (-1 : Int32) (0 : Int32) _ _ _ hR hP hD hS (lv_sub hl [3, 4, 2, 1, 0] rfl)
    · replace hR := q_p c5 hR
      refine lv_ldc hx hb hown (hts _ tt_722) nd_Model_corrected_27 ?_
      exact hret ((-200000 : Int32), u2_0) _ _ _ _ nd_Model_corrected_29 hR hP hD hS
  · replace hR := q_p c3 hR
    refine lv_iconst (v := 0) hx hb nd_Model_corrected_14 (by decide) ?_
    exact hret ((0 : Int32), u2_0) _ _ _ _ nd_Model_corrected_15 hR hP hD hS
def rm_Model_silent : Room := { frames := 2, cells := 0, slots := 0, locals := 43 }
theorem kc_Model_silent : k_cal nY_Model_silent nC_Model_silent 6 (some .int) 1 := ⟨tt_988, tt_10, by decide +kernel⟩
theorem kv_Model_silent : k_vir nY_Model_silent := ⟨tt_986, tt_987⟩
set_option maxHeartbeats 4000000 in
set_option maxRecDepth 100000 in
theorem cn_Model_silent (l : Launch) (D : va_G) (ca : Nat → ClassId) (qa0 qnow qkept qbooks qkeptBooks qconductances qcapacities qrowDamps qrowWaters qtold qlows qhighs qrates qriskRows qlevels qpointsOf qsums qruleKinds qruleLevels qholds qalarms qalarmHours qvalues qchecked qrights : Nat) (thrown_ : Int32) (volume_ : Int32) (share_ : Int32) (layers_ : Int32) (kilograms_ : Int32) (rows_ : Int32) (hours_ : Int32) (rules_ : Int32) (values_ : Nat → Int32) (x1 : Int32) (R0 : Int32) (R1 : Int32) (hR : fn_Model_silent hours_ values_ x1 = some (R0, R1)) (sz : Nat) : Met l nY_Model_silent (Cond.code nY_Model_silent nC_Model_silent 6 (some .int) :: TT) rm_Model_silent (wr_P [.ref qa0, .int x1] D ca [oc_Model qa0 thrown_ volume_ share_ qnow qkept qbooks qkeptBooks layers_ qconductances qcapacities kilograms_ rows_ qrowDamps qrowWaters qtold qlows qhighs qrates hours_ qriskRows qlevels qpointsOf qsums rules_ qruleKinds qruleLevels qholds qalarms qalarmHours qvalues qchecked qrights, aI qvalues ca 300 values_] sz) (va_Qi (fun x (_ : Unit) => x = R0) (wr_B D [oc_Model qa0 thrown_ volume_ share_ qnow qkept qbooks qkeptBooks layers_ qconductances qcapacities kilograms_ rows_ qrowDamps qrowWaters qtold qlows qhighs qrates hours_ qriskRows qlevels qpointsOf qsums rules_ qruleKinds qruleLevels qholds qalarms qalarmHours qvalues qchecked qrights, aI qvalues ca 300 values_] sz [oc_Model qa0 R1 volume_ share_ qnow qkept qbooks qkeptBooks layers_ qconductances qcapacities kilograms_ rows_ qrowDamps qrowWaters qtold qlows qhighs qrates hours_ qriskRows qlevels qpointsOf qsums rules_ qruleKinds qruleLevels qholds qalarms qalarmHours qvalues qchecked qrights, aI qvalues ca 300 values_]) (va_A [oc_Model qa0 thrown_ volume_ share_ qnow qkept qbooks qkeptBooks layers_ qconductances qcapacities kilograms_ rows_ qrowDamps qrowWaters qtold qlows qhighs qrates hours_ qriskRows qlevels qpointsOf qsums rules_ qruleKinds qruleLevels qholds qalarms qalarmHours qvalues qchecked qrights, aI qvalues ca 300 values_] sz)) 0 0 (va_A [oc_Model qa0 thrown_ volume_ share_ qnow qkept qbooks qkeptBooks layers_ qconductances qcapacities kilograms_ rows_ qrowDamps qrowWaters qtold qlows qhighs qrates hours_ qriskRows qlevels qpointsOf qsums rules_ qruleKinds qruleLevels qholds qalarms qalarmHours qvalues qchecked qrights, aI qvalues ca 300 values_] sz) := by
  refine wr_ofI (R := (R0, R1)) (val := fun r => r.1) (w1 := fun r : Int32 × Int32 => [oc_Model qa0 r.2 volume_ share_ qnow qkept qbooks qkeptBooks layers_ qconductances qcapacities kilograms_ rows_ qrowDamps qrowWaters qtold qlows qhighs qrates hours_ qriskRows qlevels qpointsOf qsums rules_ qruleKinds qruleLevels qholds qalarms qalarmHours qvalues qchecked qrights, aI qvalues ca 300 values_]) (by decide +kernel) (Nat.le_of_ble_eq_true rfl) ?_
  intro p e s m below meth c Q ar ls hx hb hml hts hown hP hK A hD hA hl hret
  have hS : va_S A s.heap s.heap [] := va_S.rf
  have hown : s.vm.findClass nR_Model = some m.cls := hown
  have hl : lv_has ls 6 [(0, .ref qa0), (1, .int x1)] := hl
  unfold fn_Model_silent at hR
  refine lv_aload_n hx hb nd_Model_silent_0 rfl (lv_at hl 0 rfl) ?_
  refine lv_aload_n hx hb nd_Model_silent_1 rfl (lv_at hl 0 rfl) ?_
  refine lv_iload_n hx hb nd_Model_silent_2 rfl (lv_at hl 1 rfl) ?_
  obtain ⟨r1, e1, hR⟩ := q_b1 hR
  refine k_rVI (As := [.int x1]) (rest := [.ref qa0]) (r := r1) hx hb hml hown hts (cn_Model_wasHour l D ca qa0 qnow qkept qbooks qkeptBooks qconductances qcapacities qrowDamps qrowWaters qtold qlows qhighs qrates qriskRows qlevels qpointsOf qsums qruleKinds qruleLevels qholds qalarms qalarmHours qvalues qchecked qrights thrown_ volume_ share_ layers_ kilograms_ rows_ hours_ rules_ x1 r1 e1) kc_Model_wasHour kv_Model_wasHour tt_972 ⟨by decide, by decide⟩ rfl rfl hP hK [0] rfl 0 rfl rfl rfl rfl hl.1 (Nat.le_of_ble_eq_true rfl) rfl nd_Model_silent_3 ⟨Nat.zero_le _, Nat.zero_le _⟩ ?_
  refine lv_iconst (v := 1) hx hb nd_Model_silent_6 (by decide) ?_
  refine lv_iconst (v := 1) hx hb nd_Model_silent_7 (by decide) ?_
  obtain ⟨r2, u2_0, e2, hR⟩ := q_b2 hR
  refine k_wVI (wr := [aI qvalues ca 300 values_]) (w2 := [oc_Model qa0 u2_0 volume_ share_ qnow qkept qbooks qkeptBooks layers_ qconductances qcapacities kilograms_ rows_ qrowDamps qrowWaters qtold qlows qhighs qrates hours_ qriskRows qlevels qpointsOf qsums rules_ qruleKinds qruleLevels qholds qalarms qalarmHours qvalues qchecked qrights, aI qvalues ca 300 values_]) (As := [.int r1, .int (1 : Int32), .int (1 : Int32)]) (rest := []) (r := r2) hx hb hml hown hts (cn_Model_goes l D ca qa0 qnow qkept qbooks qkeptBooks qconductances qcapacities qrowDamps qrowWaters qtold qlows qhighs qrates qriskRows qlevels qpointsOf qsums qruleKinds qruleLevels qholds qalarms qalarmHours qvalues qchecked qrights thrown_ volume_ share_ layers_ kilograms_ rows_ hours_ rules_ r1 (1 : Int32) (1 : Int32) r2 u2_0 e2 _) kc_Model_goes kv_Model_goes tt_831 ⟨by decide, by decide⟩ rfl rfl hP hK hD hS hA [0] [1] [1, 0] rfl (by decide) rfl (by decide) (by decide) rfl (by decide) 0 rfl rfl rfl rfl hl.1 (Nat.le_of_ble_eq_true rfl) rfl nd_Model_silent_8 ⟨Nat.zero_le _, Nat.zero_le _⟩ (fun H locs hP hD hS => ?_)
  refine lv_if_ne (tgt := 16) hx hb nd_Model_silent_11 (by decide) (fun c3 => ?_) (fun c3 => ?_)
  · replace hR := q_n c3 hR
    refine lv_iconst (v := -1) hx hb nd_Model_silent_16 (by decide) ?_
    refine lv_istore_n (lv' := [(2, .int (-1 : Int32)), (0, .ref qa0), (1, .int x1)]) hx hb nd_Model_silent_17 rfl hl (by decide) rfl (fun ls hl => ?_)
    refine lv_iconst (v := 0) hx hb nd_Model_silent_18 (by decide) ?_
    refine lv_istore_n (lv' := [(3, .int (0 : Int32)), (2, .int (-1 : Int32)), (0, .ref qa0), (1, .int x1)]) hx hb nd_Model_silent_19 rfl hl (by decide) rfl (fun ls hl => ?_)
    refine lv_iconst (v := 0) hx hb nd_Model_silent_20 (by decide) ?_
    refine lv_istore (lv' := [(4, .int (0 : Int32)), (3, .int (0 : Int32)), (2, .int (-1 : Int32)), (0, .ref qa0), (1, .int x1)]) hx hb nd_Model_silent_21 hl (by decide) rfl (fun ls hl => ?_)
    refine lv_iload_n hx hb nd_Model_silent_23 rfl (lv_at hl 4 rfl) ?_
    refine lv_istore (lv' := [(5, .int x1), (4, .int (0 : Int32)), (3, .int (0 : Int32)), (2, .int (-1 : Int32)), (0, .ref qa0), (1, .int x1)]) hx hb nd_Model_silent_24 hl (by decide) rfl (fun ls hl => ?_)
    have hL26 : ∀ (n26 : Nat) (i2_26 : Int32) (i3_26 : Int32) (i4_26 : Int32) (i5_26 : Int32) (H : Heap) (locs : List Loc) (ls : Array Slot), fn_Model_silent_L26 hours_ u2_0 values_ n26 i2_26 i3_26 i4_26 i5_26 = some (R0, R1) → va_P D vwCl [oc_Model qa0 u2_0 volume_ share_ qnow qkept qbooks qkeptBooks layers_ qconductances qcapacities kilograms_ rows_ qrowDamps qrowWaters qtold qlows qhighs qrates hours_ qriskRows qlevels qpointsOf qsums rules_ qruleKinds qruleLevels qholds qalarms qalarmHours qvalues qchecked qrights, aI qvalues ca 300 values_] H → va_D A [oc_Model qa0 u2_0 volume_ share_ qnow qkept qbooks qkeptBooks layers_ qconductances qcapacities kilograms_ rows_ qrowDamps qrowWaters qtold qlows qhighs qrates hours_ qriskRows qlevels qpointsOf qsums rules_ qruleKinds qruleLevels qholds qalarms qalarmHours qvalues qchecked qrights, aI qvalues ca 300 values_] → va_S A s.heap H locs → lv_has ls 6 [(0, .ref qa0), (1, .int x1), (2, .int i2_26), (3, .int i3_26), (4, .int i4_26), (5, .int i5_26)] → W p l e rm_Model_silent s m ar below meth c H locs 0 0 Q (F0 m 26 ls []) := by
      intro n26
      induction n26 with
      | zero => intro i2_26 i3_26 i4_26 i5_26 H locs ls hR; exact nomatch hR
      | succ n26 ih26 =>
        intro i2_26 i3_26 i4_26 i5_26 H locs ls hR hP hD hS hl
        rw [fn_Model_silent_L26] at hR
        refine lv_iload hx hb nd_Model_silent_26 (lv_at hl 5 rfl) ?_
        refine lv_aload_n hx hb nd_Model_silent_28 rfl (lv_at hl 0 rfl) ?_
        refine va_get (D := D) (ci := 9) (v := .int hours_) (C := nR_Model) (T := nT_Model) (N := 32) hx hb hts ni_Model hown hK hP 0 rfl rfl 18 (by decide) (hts (.fieldLink nR_Model 172 "RoomClimateModel" "hours" "I") tt_741) (fun _ h9 => h9) rfl nd_Model_silent_29 ?_
        refine lv_icmp_ge (tgt := 94) hx hb nd_Model_silent_32 (by decide) (fun c4 => ?_) (fun c4 => ?_)
        · replace hR := q_p c4 hR
          refine lv_iload_n hx hb nd_Model_silent_94 rfl (lv_at hl 2 rfl) ?_
          exact hret (i2_26, u2_0) _ _ _ _ nd_Model_silent_95 hR hP hD hS
        · replace hR := q_n c4 hR
          refine lv_aload_n hx hb nd_Model_silent_35 rfl (lv_at hl 0 rfl) ?_
          refine va_get (D := D) (ci := 9) (v := .ref qvalues) (C := nR_Model) (T := nT_Model) (N := 32) hx hb hts ni_Model hown hK hP 0 rfl rfl 29 (by decide) (hts (.fieldLink nR_Model 82 "RoomClimateModel" "values" "[I") tt_752) (fun _ h9 => h9) rfl nd_Model_silent_36 ?_
          refine lv_iload hx hb nd_Model_silent_39 (lv_at hl 5 rfl) ?_
          obtain ⟨h5, hR⟩ := q_ix hR
          refine va_iald hx hb hK hP 1 0 rfl rfl h5 nd_Model_silent_41 ?_
          refine lv_ldc hx hb hown (hts _ tt_722) nd_Model_silent_42 ?_
          obtain ⟨j7_0, hJ7, hR⟩ := q_b1 hR
          have hN7 : ∀ (H : Heap) (locs : List Loc) (ls : Array Slot), va_P D vwCl [oc_Model qa0 u2_0 volume_ share_ qnow qkept qbooks qkeptBooks layers_ qconductances qcapacities kilograms_ rows_ qrowDamps qrowWaters qtold qlows qhighs qrates hours_ qriskRows qlevels qpointsOf qsums rules_ qruleKinds qruleLevels qholds qalarms qalarmHours qvalues qchecked qrights, aI qvalues ca 300 values_] H → va_D A [oc_Model qa0 u2_0 volume_ share_ qnow qkept qbooks qkeptBooks layers_ qconductances qcapacities kilograms_ rows_ qrowDamps qrowWaters qtold qlows qhighs qrates hours_ qriskRows qlevels qpointsOf qsums rules_ qruleKinds qruleLevels qholds qalarms qalarmHours qvalues qchecked qrights, aI qvalues ca 300 values_] → va_S A s.heap H locs → lv_has ls 6 [(0, .ref qa0), (1, .int x1), (2, .int i2_26), (3, .int i3_26), (4, .int i4_26), (5, .int i5_26)] → W p l e rm_Model_silent s m ar below meth c H locs 0 0 Q (F0 m 55 ls [.int j7_0]) := by
            intro H locs ls hP hD hS hl
            refine lv_istore (lv' := [(4, .int j7_0), (0, .ref qa0), (1, .int x1), (2, .int i2_26), (3, .int i3_26), (5, .int i5_26)]) hx hb nd_Model_silent_55 hl (by decide) rfl (fun ls hl => ?_)
            refine lv_iload hx hb nd_Model_silent_57 (lv_at hl 0 rfl) ?_
            refine lv_iload_n hx hb nd_Model_silent_59 rfl (lv_at hl 4 rfl) ?_
            obtain ⟨j9_0, hJ9, hR⟩ := q_b1 hR
            have hN9 : ∀ (H : Heap) (locs : List Loc) (ls : Array Slot), va_P D vwCl [oc_Model qa0 u2_0 volume_ share_ qnow qkept qbooks qkeptBooks layers_ qconductances qcapacities kilograms_ rows_ qrowDamps qrowWaters qtold qlows qhighs qrates hours_ qriskRows qlevels qpointsOf qsums rules_ qruleKinds qruleLevels qholds qalarms qalarmHours qvalues qchecked qrights, aI qvalues ca 300 values_] H → va_D A [oc_Model qa0 u2_0 volume_ share_ qnow qkept qbooks qkeptBooks layers_ qconductances qcapacities kilograms_ rows_ qrowDamps qrowWaters qtold qlows qhighs qrates hours_ qriskRows qlevels qpointsOf qsums rules_ qruleKinds qruleLevels qholds qalarms qalarmHours qvalues qchecked qrights, aI qvalues ca 300 values_] → va_S A s.heap H locs → lv_has ls 6 [(0, .ref qa0), (1, .int x1), (2, .int i2_26), (3, .int i3_26), (4, .int j7_0), (5, .int i5_26)] → W p l e rm_Model_silent s m ar below meth c H locs 0 0 Q (F0 m 74 ls [.int j9_0]) := by
              intro H locs ls hP hD hS hl
              refine lv_istore_n (lv' := [(2, .int j9_0), (0, .ref qa0), (1, .int x1), (3, .int i3_26), (4, .int j7_0), (5, .int i5_26)]) hx hb nd_Model_silent_74 rfl hl (by decide) rfl (fun ls hl => ?_)
              refine lv_iload hx hb nd_Model_silent_75 (lv_at hl 4 rfl) ?_
              refine lv_iload_n hx hb nd_Model_silent_77 rfl (lv_at hl 3 rfl) ?_
              obtain ⟨j11_0, hJ11, hR⟩ := q_b1 hR
              have hN11 : ∀ (H : Heap) (locs : List Loc) (ls : Array Slot), va_P D vwCl [oc_Model qa0 u2_0 volume_ share_ qnow qkept qbooks qkeptBooks layers_ qconductances qcapacities kilograms_ rows_ qrowDamps qrowWaters qtold qlows qhighs qrates hours_ qriskRows qlevels qpointsOf qsums rules_ qruleKinds qruleLevels qholds qalarms qalarmHours qvalues qchecked qrights, aI qvalues ca 300 values_] H → va_D A [oc_Model qa0 u2_0 volume_ share_ qnow qkept qbooks qkeptBooks layers_ qconductances qcapacities kilograms_ rows_ qrowDamps qrowWaters qtold qlows qhighs qrates hours_ qriskRows qlevels qpointsOf qsums rules_ qruleKinds qruleLevels qholds qalarms qalarmHours qvalues qchecked qrights, aI qvalues ca 300 values_] → va_S A s.heap H locs → lv_has ls 6 [(0, .ref qa0), (1, .int x1), (2, .int j9_0), (3, .int i3_26), (4, .int j7_0), (5, .int i5_26)] → W p l e rm_Model_silent s m ar below meth c H locs 0 0 Q (F0 m 87 ls [.int j11_0]) := by
                intro H locs ls hP hD hS hl
                refine lv_istore_n (lv' := [(3, .int j11_0), (0, .ref qa0), (1, .int x1), (2, .int j9_0), (4, .int j7_0), (5, .int i5_26)]) hx hb nd_Model_silent_87 rfl hl (by decide) rfl (fun ls hl => ?_)
                refine lv_iinc (v := i5_26 + 1) (lv' := [(5, .int (i5_26 + 1)), (3, .int j11_0), (0, .ref qa0), (1, .int x1), (2, .int j9_0), (4, .int j7_0)]) hx hb nd_Model_silent_88 hl (k := 5) rfl (by first | rfl | decide) (by decide) rfl (fun ls hl => ?_)
                refine lv_goto (tgt := 26) hx hb nd_Model_silent_91 (by decide) ?_
                exact ih26 j9_0 j11_0 j7_0 (i5_26 + 1) _ _ _ hR hP hD hS (lv_sub hl [2, 3, 4, 1, 5, 0] rfl)
              refine lv_icmp_le (tgt := 86) hx hb nd_Model_silent_78 (by decide) (fun c10 => ?_) (fun c10 => ?_)
              · have hR := q_p c10 hJ11
                refine lv_iload_n hx hb nd_Model_silent_86 rfl (lv_at hl 3 rfl) ?_
                cases hR
                exact hN11 _ _ _ hP hD hS (lv_sub hl [1, 2, 0, 3, 4, 5] rfl)
              · have hR := q_n c10 hJ11
                refine lv_iload hx hb nd_Model_silent_81 (lv_at hl 4 rfl) ?_
                refine lv_goto (tgt := 87) hx hb nd_Model_silent_83 (by decide) ?_
                cases hR
                exact hN11 _ _ _ hP hD hS (lv_sub hl [1, 2, 0, 3, 4, 5] rfl)
            refine lv_icmp_le (tgt := 73) hx hb nd_Model_silent_60 (by decide) (fun c8 => ?_) (fun c8 => ?_)
            · have hR := q_p c8 hJ9
              refine lv_iload_n hx hb nd_Model_silent_73 rfl (lv_at hl 3 rfl) ?_
              cases hR
              exact hN9 _ _ _ hP hD hS (lv_sub hl [1, 2, 3, 4, 0, 5] rfl)
            · have hR := q_n c8 hJ9
              refine lv_iload hx hb nd_Model_silent_63 (lv_at hl 5 rfl) ?_
              refine lv_iload hx hb nd_Model_silent_65 (lv_at hl 0 rfl) ?_
              refine lv_isub hx hb nd_Model_silent_67 ?_
              refine lv_iconst (v := 1) hx hb nd_Model_silent_68 (by decide) ?_
              refine lv_iadd hx hb nd_Model_silent_69 ?_
              refine lv_goto (tgt := 74) hx hb nd_Model_silent_70 (by decide) ?_
              cases hR
              exact hN9 _ _ _ hP hD hS (lv_sub hl [1, 2, 3, 4, 0, 5] rfl)
          refine lv_icmp_ne (tgt := 54) hx hb nd_Model_silent_44 (by decide) (fun c6 => ?_) (fun c6 => ?_)
          · have hR := q_n c6 hJ7
            refine lv_iconst (v := 0) hx hb nd_Model_silent_54 (by decide) ?_
            cases hR
            exact hN7 _ _ _ hP hD hS (lv_sub hl [0, 1, 2, 3, 4, 5] rfl)
          · have hR := q_p c6 hJ7
            refine lv_iload hx hb nd_Model_silent_47 (lv_at hl 4 rfl) ?_
            refine lv_iconst (v := 1) hx hb nd_Model_silent_49 (by decide) ?_
            refine lv_iadd hx hb nd_Model_silent_50 ?_
            refine lv_goto (tgt := 55) hx hb nd_Model_silent_51 (by decide) ?_
            cases hR
            exact hN7 _ _ _ hP hD hS (lv_sub hl [0, 1, 2, 3, 4, 5] rfl)
    exact hL26 400 (-1 : Int32) (0 : Int32) (0 : Int32) x1 _ _ _ hR hP hD hS (lv_sub hl [4, 5, 3, 2, 1, 0] rfl)
  · replace hR := q_p c3 hR
    refine lv_iconst (v := 0) hx hb nd_Model_silent_14 (by decide) ?_
    exact hret ((0 : Int32), u2_0) _ _ _ _ nd_Model_silent_15 hR hP hD hS
def rm_Model_tried : Room := { frames := 5, cells := 0, slots := 0, locals := 115 }
theorem kc_Model_tried : k_cal nY_Model_tried nC_Model_tried 10 (some .long) 4 := ⟨tt_996, tt_10, by decide +kernel⟩
theorem kv_Model_tried : k_vir nY_Model_tried := ⟨tt_995, tp_24⟩
set_option maxHeartbeats 4000000 in
set_option maxRecDepth 100000 in
theorem cn_Model_tried (l : Launch) (D : va_G) (ca : Nat → ClassId) (qa0 qnow qkept qbooks qkeptBooks qconductances qcapacities qrowDamps qrowWaters qtold qlows qhighs qrates qriskRows qlevels qpointsOf qsums qruleKinds qruleLevels qholds qalarms qalarmHours qvalues qchecked qrights : Nat) (thrown_ : Int32) (volume_ : Int32) (share_ : Int32) (layers_ : Int32) (kilograms_ : Int32) (rows_ : Int32) (hours_ : Int32) (rules_ : Int32) (kept_ : Nat → Int64) (now_ : Nat → Int64) (lows_ : Nat → Int32) (highs_ : Nat → Int32) (books_ : Nat → Int64) (conductances_ : Nat → Int32) (capacities_ : Nat → Int32) (rowWaters_ : Nat → Int32) (rowDamps_ : Nat → Int32) (told_ : Nat → Int32) (rates_ : Nat → Int32) (x1 : Int32) (x2 : Int32) (x3 : Int32) (x4 : Int32) (R0 : Int64) (R1 : Nat → Int64) (R2 : Nat → Int32) (R3 : Nat → Int32) (R4 : Nat → Int64) (hR : fn_Model_tried volume_ share_ layers_ kilograms_ rows_ kept_ now_ lows_ highs_ books_ conductances_ capacities_ rowWaters_ rowDamps_ told_ rates_ x1 x2 x3 x4 = some (R0, R1, R2, R3, R4)) (sz : Nat) : Met l nY_Model_tried (Cond.code nY_Model_tried nC_Model_tried 10 (some .long) :: TT) rm_Model_tried (wr_P [.ref qa0, .int x1, .int x2, .int x3, .int x4] D ca [oc_Model qa0 thrown_ volume_ share_ qnow qkept qbooks qkeptBooks layers_ qconductances qcapacities kilograms_ rows_ qrowDamps qrowWaters qtold qlows qhighs qrates hours_ qriskRows qlevels qpointsOf qsums rules_ qruleKinds qruleLevels qholds qalarms qalarmHours qvalues qchecked qrights, aJ qkept ca 12 kept_, aJ qnow ca 12 now_, aI qlows ca 4 lows_, aI qhighs ca 4 highs_, aJ qbooks ca 10 books_, aI qconductances ca 5 conductances_, aI qcapacities ca 5 capacities_, aI qrowWaters ca 6 rowWaters_, aI qrowDamps ca 6 rowDamps_, aZ qtold ca 4 told_, aI qrates ca 4 rates_] sz) (va_Ql (fun x (_ : Unit) => x = R0) (wr_B D [oc_Model qa0 thrown_ volume_ share_ qnow qkept qbooks qkeptBooks layers_ qconductances qcapacities kilograms_ rows_ qrowDamps qrowWaters qtold qlows qhighs qrates hours_ qriskRows qlevels qpointsOf qsums rules_ qruleKinds qruleLevels qholds qalarms qalarmHours qvalues qchecked qrights, aJ qkept ca 12 kept_, aJ qnow ca 12 now_, aI qlows ca 4 lows_, aI qhighs ca 4 highs_, aJ qbooks ca 10 books_, aI qconductances ca 5 conductances_, aI qcapacities ca 5 capacities_, aI qrowWaters ca 6 rowWaters_, aI qrowDamps ca 6 rowDamps_, aZ qtold ca 4 told_, aI qrates ca 4 rates_] sz [oc_Model qa0 thrown_ volume_ share_ qnow qkept qbooks qkeptBooks layers_ qconductances qcapacities kilograms_ rows_ qrowDamps qrowWaters qtold qlows qhighs qrates hours_ qriskRows qlevels qpointsOf qsums rules_ qruleKinds qruleLevels qholds qalarms qalarmHours qvalues qchecked qrights, aJ qkept ca 12 kept_, aJ qnow ca 12 R1, aI qlows ca 4 R2, aI qhighs ca 4 R3, aJ qbooks ca 10 R4, aI qconductances ca 5 conductances_, aI qcapacities ca 5 capacities_, aI qrowWaters ca 6 rowWaters_, aI qrowDamps ca 6 rowDamps_, aZ qtold ca 4 told_, aI qrates ca 4 rates_]) (va_A [oc_Model qa0 thrown_ volume_ share_ qnow qkept qbooks qkeptBooks layers_ qconductances qcapacities kilograms_ rows_ qrowDamps qrowWaters qtold qlows qhighs qrates hours_ qriskRows qlevels qpointsOf qsums rules_ qruleKinds qruleLevels qholds qalarms qalarmHours qvalues qchecked qrights, aJ qkept ca 12 kept_, aJ qnow ca 12 now_, aI qlows ca 4 lows_, aI qhighs ca 4 highs_, aJ qbooks ca 10 books_, aI qconductances ca 5 conductances_, aI qcapacities ca 5 capacities_, aI qrowWaters ca 6 rowWaters_, aI qrowDamps ca 6 rowDamps_, aZ qtold ca 4 told_, aI qrates ca 4 rates_] sz)) 0 0 (va_A [oc_Model qa0 thrown_ volume_ share_ qnow qkept qbooks qkeptBooks layers_ qconductances qcapacities kilograms_ rows_ qrowDamps qrowWaters qtold qlows qhighs qrates hours_ qriskRows qlevels qpointsOf qsums rules_ qruleKinds qruleLevels qholds qalarms qalarmHours qvalues qchecked qrights, aJ qkept ca 12 kept_, aJ qnow ca 12 now_, aI qlows ca 4 lows_, aI qhighs ca 4 highs_, aJ qbooks ca 10 books_, aI qconductances ca 5 conductances_, aI qcapacities ca 5 capacities_, aI qrowWaters ca 6 rowWaters_, aI qrowDamps ca 6 rowDamps_, aZ qtold ca 4 told_, aI qrates ca 4 rates_] sz) := by
  refine wr_ofJ (R := (R0, R1, R2, R3, R4)) (val := fun r => r.1) (w1 := fun r : Int64 × (Nat → Int64) × (Nat → Int32) × (Nat → Int32) × (Nat → Int64) => [oc_Model qa0 thrown_ volume_ share_ qnow qkept qbooks qkeptBooks layers_ qconductances qcapacities kilograms_ rows_ qrowDamps qrowWaters qtold qlows qhighs qrates hours_ qriskRows qlevels qpointsOf qsums rules_ qruleKinds qruleLevels qholds qalarms qalarmHours qvalues qchecked qrights, aJ qkept ca 12 kept_, aJ qnow ca 12 r.2.1, aI qlows ca 4 r.2.2.1, aI qhighs ca 4 r.2.2.2.1, aJ qbooks ca 10 r.2.2.2.2, aI qconductances ca 5 conductances_, aI qcapacities ca 5 capacities_, aI qrowWaters ca 6 rowWaters_, aI qrowDamps ca 6 rowDamps_, aZ qtold ca 4 told_, aI qrates ca 4 rates_]) (by decide +kernel) (Nat.le_of_ble_eq_true rfl) ?_
  intro p e s m below meth c Q ar ls hx hb hml hts hown hP hK A hD hA hl hret
  have hS : va_S A s.heap s.heap [] := va_S.rf
  have hown : s.vm.findClass nR_Model = some m.cls := hown
  have hl : lv_has ls 10 [(0, .ref qa0), (1, .int x1), (2, .int x2), (3, .int x3), (4, .int x4)] := hl
  unfold fn_Model_tried at hR
  refine lv_iconst (v := 0) hx hb nd_Model_tried_0 (by decide) ?_
  refine lv_istore (lv' := [(5, .int (0 : Int32)), (0, .ref qa0), (1, .int x1), (2, .int x2), (3, .int x3), (4, .int x4)]) hx hb nd_Model_tried_1 hl (by decide) rfl (fun ls hl => ?_)
  have hL3 : ∀ (n3 : Nat) (i5_3 : Int32) (now_L3 : Nat → Int64) (H : Heap) (locs : List Loc) (ls : Array Slot), fn_Model_tried_L3 x1 x2 x3 x4 lows_ highs_ books_ volume_ share_ layers_ kilograms_ rows_ conductances_ capacities_ rowWaters_ rowDamps_ told_ rates_ kept_ n3 i5_3 now_L3 = some (R0, R1, R2, R3, R4) → va_P D vwCl [oc_Model qa0 thrown_ volume_ share_ qnow qkept qbooks qkeptBooks layers_ qconductances qcapacities kilograms_ rows_ qrowDamps qrowWaters qtold qlows qhighs qrates hours_ qriskRows qlevels qpointsOf qsums rules_ qruleKinds qruleLevels qholds qalarms qalarmHours qvalues qchecked qrights, aJ qkept ca 12 kept_, aJ qnow ca 12 now_L3, aI qlows ca 4 lows_, aI qhighs ca 4 highs_, aJ qbooks ca 10 books_, aI qconductances ca 5 conductances_, aI qcapacities ca 5 capacities_, aI qrowWaters ca 6 rowWaters_, aI qrowDamps ca 6 rowDamps_, aZ qtold ca 4 told_, aI qrates ca 4 rates_] H → va_D A [oc_Model qa0 thrown_ volume_ share_ qnow qkept qbooks qkeptBooks layers_ qconductances qcapacities kilograms_ rows_ qrowDamps qrowWaters qtold qlows qhighs qrates hours_ qriskRows qlevels qpointsOf qsums rules_ qruleKinds qruleLevels qholds qalarms qalarmHours qvalues qchecked qrights, aJ qkept ca 12 kept_, aJ qnow ca 12 now_L3, aI qlows ca 4 lows_, aI qhighs ca 4 highs_, aJ qbooks ca 10 books_, aI qconductances ca 5 conductances_, aI qcapacities ca 5 capacities_, aI qrowWaters ca 6 rowWaters_, aI qrowDamps ca 6 rowDamps_, aZ qtold ca 4 told_, aI qrates ca 4 rates_] → va_S A s.heap H locs → lv_has ls 10 [(0, .ref qa0), (1, .int x1), (2, .int x2), (3, .int x3), (4, .int x4), (5, .int i5_3)] → W p l e rm_Model_tried s m ar below meth c H locs 0 0 Q (F0 m 3 ls []) := by
    intro n3
    induction n3 with
    | zero => intro i5_3 now_L3 H locs ls hR; exact nomatch hR
    | succ n3 ih3 =>
      intro i5_3 now_L3 H locs ls hR hP hD hS hl
      rw [fn_Model_tried_L3] at hR
      refine lv_iload hx hb nd_Model_tried_3 (lv_at hl 5 rfl) ?_
      refine lv_bipush (v := 12) hx hb nd_Model_tried_5 (by decide) ?_
      refine lv_icmp_ge (tgt := 30) hx hb nd_Model_tried_7 (by decide) (fun c1 => ?_) (fun c1 => ?_)
      · replace hR := q_p c1 hR
        refine lv_aload_n hx hb nd_Model_tried_30 rfl (lv_at hl 0 rfl) ?_
        refine va_get (D := D) (ci := 9) (v := .ref qlows) (C := nR_Model) (T := nT_Model) (N := 32) hx hb hts ni_Model hown hK hP 0 rfl rfl 15 (by decide) (hts (.fieldLink nR_Model 46 "RoomClimateModel" "lows" "[I") tt_738) (fun _ h9 => h9) rfl nd_Model_tried_31 ?_
        refine lv_iconst (v := 0) hx hb nd_Model_tried_34 (by decide) ?_
        refine lv_iload_n hx hb nd_Model_tried_35 rfl (lv_at hl 1 rfl) ?_
        obtain ⟨h2, hR⟩ := q_ix hR
        refine va_iast hx hb hK hP hD hS 3 0 rfl rfl h2 nd_Model_tried_36 (fun H locs hP hD hS => ?_)
        have hP : va_P D vwCl [oc_Model qa0 thrown_ volume_ share_ qnow qkept qbooks qkeptBooks layers_ qconductances qcapacities kilograms_ rows_ qrowDamps qrowWaters qtold qlows qhighs qrates hours_ qriskRows qlevels qpointsOf qsums rules_ qruleKinds qruleLevels qholds qalarms qalarmHours qvalues qchecked qrights, aJ qkept ca 12 kept_, aJ qnow ca 12 now_L3, aI qlows ca 4 (upd lows_ (0 : Int32).toNatClampNeg x1), aI qhighs ca 4 highs_, aJ qbooks ca 10 books_, aI qconductances ca 5 conductances_, aI qcapacities ca 5 capacities_, aI qrowWaters ca 6 rowWaters_, aI qrowDamps ca 6 rowDamps_, aZ qtold ca 4 told_, aI qrates ca 4 rates_] H := hP
        have hD : va_D A [oc_Model qa0 thrown_ volume_ share_ qnow qkept qbooks qkeptBooks layers_ qconductances qcapacities kilograms_ rows_ qrowDamps qrowWaters qtold qlows qhighs qrates hours_ qriskRows qlevels qpointsOf qsums rules_ qruleKinds qruleLevels qholds qalarms qalarmHours qvalues qchecked qrights, aJ qkept ca 12 kept_, aJ qnow ca 12 now_L3, aI qlows ca 4 (upd lows_ (0 : Int32).toNatClampNeg x1), aI qhighs ca 4 highs_, aJ qbooks ca 10 books_, aI qconductances ca 5 conductances_, aI qcapacities ca 5 capacities_, aI qrowWaters ca 6 rowWaters_, aI qrowDamps ca 6 rowDamps_, aZ qtold ca 4 told_, aI qrates ca 4 rates_] := hD
        refine lv_aload_n hx hb nd_Model_tried_37 rfl (lv_at hl 0 rfl) ?_
        refine va_get (D := D) (ci := 9) (v := .ref qhighs) (C := nR_Model) (T := nT_Model) (N := 32) hx hb hts ni_Model hown hK hP 0 rfl rfl 16 (by decide) (hts (.fieldLink nR_Model 49 "RoomClimateModel" "highs" "[I") tt_739) (fun _ h9 => h9) rfl nd_Model_tried_38 ?_
        refine lv_iconst (v := 0) hx hb nd_Model_tried_41 (by decide) ?_
        refine lv_iload_n hx hb nd_Model_tried_42 rfl (lv_at hl 1 rfl) ?_
        refine lv_sipush (v := 500) hx hb nd_Model_tried_43 (by decide) ?_
        refine lv_iadd hx hb nd_Model_tried_46 ?_
        refine va_iast hx hb hK hP hD hS 4 0 rfl rfl h2 nd_Model_tried_47 (fun H locs hP hD hS => ?_)
        have hP : va_P D vwCl [oc_Model qa0 thrown_ volume_ share_ qnow qkept qbooks qkeptBooks layers_ qconductances qcapacities kilograms_ rows_ qrowDamps qrowWaters qtold qlows qhighs qrates hours_ qriskRows qlevels qpointsOf qsums rules_ qruleKinds qruleLevels qholds qalarms qalarmHours qvalues qchecked qrights, aJ qkept ca 12 kept_, aJ qnow ca 12 now_L3, aI qlows ca 4 (upd lows_ (0 : Int32).toNatClampNeg x1), aI qhighs ca 4 (upd highs_ (0 : Int32).toNatClampNeg (x1 + (500 : Int32))), aJ qbooks ca 10 books_, aI qconductances ca 5 conductances_, aI qcapacities ca 5 capacities_, aI qrowWaters ca 6 rowWaters_, aI qrowDamps ca 6 rowDamps_, aZ qtold ca 4 told_, aI qrates ca 4 rates_] H := hP
        have hD : va_D A [oc_Model qa0 thrown_ volume_ share_ qnow qkept qbooks qkeptBooks layers_ qconductances qcapacities kilograms_ rows_ qrowDamps qrowWaters qtold qlows qhighs qrates hours_ qriskRows qlevels qpointsOf qsums rules_ qruleKinds qruleLevels qholds qalarms qalarmHours qvalues qchecked qrights, aJ qkept ca 12 kept_, aJ qnow ca 12 now_L3, aI qlows ca 4 (upd lows_ (0 : Int32).toNatClampNeg x1), aI qhighs ca 4 (upd highs_ (0 : Int32).toNatClampNeg (x1 + (500 : Int32))), aJ qbooks ca 10 books_, aI qconductances ca 5 conductances_, aI qcapacities ca 5 capacities_, aI qrowWaters ca 6 rowWaters_, aI qrowDamps ca 6 rowDamps_, aZ qtold ca 4 told_, aI qrates ca 4 rates_] := hD
        refine lv_aload_n hx hb nd_Model_tried_48 rfl (lv_at hl 0 rfl) ?_
        refine va_get (D := D) (ci := 9) (v := .ref qnow) (C := nR_Model) (T := nT_Model) (N := 32) hx hb hts ni_Model hown hK hP 0 rfl rfl 3 (by decide) (hts (.fieldLink nR_Model 16 "RoomClimateModel" "now" "[J") tt_726) (fun _ h9 => h9) rfl nd_Model_tried_49 ?_
        refine lv_bipush (v := 8) hx hb nd_Model_tried_52 (by decide) ?_
        refine lv_lconst (v := 0) hx hb nd_Model_tried_54 (by decide) ?_
        obtain ⟨h3, hR⟩ := q_ix hR
        refine va_last hx hb hK hP hD hS 2 1 rfl rfl h3 nd_Model_tried_55 (fun H locs hP hD hS => ?_)
        have hP : va_P D vwCl [oc_Model qa0 thrown_ volume_ share_ qnow qkept qbooks qkeptBooks layers_ qconductances qcapacities kilograms_ rows_ qrowDamps qrowWaters qtold qlows qhighs qrates hours_ qriskRows qlevels qpointsOf qsums rules_ qruleKinds qruleLevels qholds qalarms qalarmHours qvalues qchecked qrights, aJ qkept ca 12 kept_, aJ qnow ca 12 (vp_updL now_L3 (8 : Int32).toNatClampNeg (0 : Int64)), aI qlows ca 4 (upd lows_ (0 : Int32).toNatClampNeg x1), aI qhighs ca 4 (upd highs_ (0 : Int32).toNatClampNeg (x1 + (500 : Int32))), aJ qbooks ca 10 books_, aI qconductances ca 5 conductances_, aI qcapacities ca 5 capacities_, aI qrowWaters ca 6 rowWaters_, aI qrowDamps ca 6 rowDamps_, aZ qtold ca 4 told_, aI qrates ca 4 rates_] H := hP
        have hD : va_D A [oc_Model qa0 thrown_ volume_ share_ qnow qkept qbooks qkeptBooks layers_ qconductances qcapacities kilograms_ rows_ qrowDamps qrowWaters qtold qlows qhighs qrates hours_ qriskRows qlevels qpointsOf qsums rules_ qruleKinds qruleLevels qholds qalarms qalarmHours qvalues qchecked qrights, aJ qkept ca 12 kept_, aJ qnow ca 12 (vp_updL now_L3 (8 : Int32).toNatClampNeg (0 : Int64)), aI qlows ca 4 (upd lows_ (0 : Int32).toNatClampNeg x1), aI qhighs ca 4 (upd highs_ (0 : Int32).toNatClampNeg (x1 + (500 : Int32))), aJ qbooks ca 10 books_, aI qconductances ca 5 conductances_, aI qcapacities ca 5 capacities_, aI qrowWaters ca 6 rowWaters_, aI qrowDamps ca 6 rowDamps_, aZ qtold ca 4 told_, aI qrates ca 4 rates_] := hD
        refine lv_lconst (v := 0) hx hb nd_Model_tried_56 (by decide) ?_
        refine lv_lstore (lv' := [(5, .long (0 : Int64)), (0, .ref qa0), (1, .int x1), (2, .int x2), (3, .int x3), (4, .int x4)]) hx hb nd_Model_tried_57 hl (by decide) rfl (fun ls hl => ?_)
        refine lv_iconst (v := 0) hx hb nd_Model_tried_59 (by decide) ?_
        refine lv_istore (lv' := [(7, .int (0 : Int32)), (5, .long (0 : Int64)), (0, .ref qa0), (1, .int x1), (2, .int x2), (3, .int x3), (4, .int x4)]) hx hb nd_Model_tried_60 hl (by decide) rfl (fun ls hl => ?_)
        have hL62 : ∀ (n62 : Nat) (i5_62 : Int64) (i7_62 : Int32) (now_L62 : Nat → Int64) (books_L62 : Nat → Int64) (H : Heap) (locs : List Loc) (ls : Array Slot), fn_Model_tried_L62 x1 x2 x3 x4 lows_ highs_ volume_ share_ layers_ kilograms_ rows_ conductances_ capacities_ rowWaters_ rowDamps_ told_ rates_ n62 i5_62 i7_62 now_L62 books_L62 = some (R0, R1, R2, R3, R4) → va_P D vwCl [oc_Model qa0 thrown_ volume_ share_ qnow qkept qbooks qkeptBooks layers_ qconductances qcapacities kilograms_ rows_ qrowDamps qrowWaters qtold qlows qhighs qrates hours_ qriskRows qlevels qpointsOf qsums rules_ qruleKinds qruleLevels qholds qalarms qalarmHours qvalues qchecked qrights, aJ qkept ca 12 kept_, aJ qnow ca 12 now_L62, aI qlows ca 4 (upd lows_ (0 : Int32).toNatClampNeg x1), aI qhighs ca 4 (upd highs_ (0 : Int32).toNatClampNeg (x1 + (500 : Int32))), aJ qbooks ca 10 books_L62, aI qconductances ca 5 conductances_, aI qcapacities ca 5 capacities_, aI qrowWaters ca 6 rowWaters_, aI qrowDamps ca 6 rowDamps_, aZ qtold ca 4 told_, aI qrates ca 4 rates_] H → va_D A [oc_Model qa0 thrown_ volume_ share_ qnow qkept qbooks qkeptBooks layers_ qconductances qcapacities kilograms_ rows_ qrowDamps qrowWaters qtold qlows qhighs qrates hours_ qriskRows qlevels qpointsOf qsums rules_ qruleKinds qruleLevels qholds qalarms qalarmHours qvalues qchecked qrights, aJ qkept ca 12 kept_, aJ qnow ca 12 now_L62, aI qlows ca 4 (upd lows_ (0 : Int32).toNatClampNeg x1), aI qhighs ca 4 (upd highs_ (0 : Int32).toNatClampNeg (x1 + (500 : Int32))), aJ qbooks ca 10 books_L62, aI qconductances ca 5 conductances_, aI qcapacities ca 5 capacities_, aI qrowWaters ca 6 rowWaters_, aI qrowDamps ca 6 rowDamps_, aZ qtold ca 4 told_, aI qrates ca 4 rates_] → va_S A s.heap H locs → lv_has ls 10 [(0, .ref qa0), (1, .int x1), (2, .int x2), (3, .int x3), (4, .int x4), (5, .long i5_62), (7, .int i7_62)] → W p l e rm_Model_tried s m ar below meth c H locs 0 0 Q (F0 m 62 ls []) := by
          intro n62
          induction n62 with
          | zero => intro i5_62 i7_62 now_L62 books_L62 H locs ls hR; exact nomatch hR
          | succ n62 ih62 =>
            intro i5_62 i7_62 now_L62 books_L62 H locs ls hR hP hD hS hl
            rw [fn_Model_tried_L62] at hR
            refine lv_iload hx hb nd_Model_tried_62 (lv_at hl 6 rfl) ?_
            refine lv_iload_n hx hb nd_Model_tried_64 rfl (lv_at hl 2 rfl) ?_
            refine lv_icmp_ge (tgt := 143) hx hb nd_Model_tried_65 (by decide) (fun c4 => ?_) (fun c4 => ?_)
            · replace hR := q_p c4 hR
              refine lv_lload hx hb nd_Model_tried_143 (lv_at hl 5 rfl) ?_
              exact hret (i5_62, now_L62, upd lows_ (0 : Int32).toNatClampNeg x1, upd highs_ (0 : Int32).toNatClampNeg (x1 + (500 : Int32)), books_L62) _ _ _ _ nd_Model_tried_145 hR hP hD hS
            · replace hR := q_n c4 hR
              refine lv_lload hx hb nd_Model_tried_68 (lv_at hl 5 rfl) ?_
              refine lv_aload_n hx hb nd_Model_tried_70 rfl (lv_at hl 0 rfl) ?_
              refine lv_iload_n hx hb nd_Model_tried_71 rfl (lv_at hl 3 rfl) ?_
              refine lv_iload hx hb nd_Model_tried_72 (lv_at hl 4 rfl) ?_
              refine lv_iconst (v := 0) hx hb nd_Model_tried_74 (by decide) ?_
              obtain ⟨r5, u5_0, u5_1, e5, hR⟩ := q_b3 hR
              refine k_wVJ (wr := [aJ qkept ca 12 kept_]) (w2 := [oc_Model qa0 thrown_ volume_ share_ qnow qkept qbooks qkeptBooks layers_ qconductances qcapacities kilograms_ rows_ qrowDamps qrowWaters qtold qlows qhighs qrates hours_ qriskRows qlevels qpointsOf qsums rules_ qruleKinds qruleLevels qholds qalarms qalarmHours qvalues qchecked qrights, aJ qkept ca 12 kept_, aJ qnow ca 12 u5_0, aI qlows ca 4 (upd lows_ (0 : Int32).toNatClampNeg x1), aI qhighs ca 4 (upd highs_ (0 : Int32).toNatClampNeg (x1 + (500 : Int32))), aJ qbooks ca 10 u5_1, aI qconductances ca 5 conductances_, aI qcapacities ca 5 capacities_, aI qrowWaters ca 6 rowWaters_, aI qrowDamps ca 6 rowDamps_, aZ qtold ca 4 told_, aI qrates ca 4 rates_]) (As := [.int x3, .int x4, .int (0 : Int32)]) (rest := [.long i5_62]) (r := r5) hx hb hml hown hts (cn_Model_goBy l D ca qa0 qnow qkept qbooks qkeptBooks qconductances qcapacities qrowDamps qrowWaters qtold qlows qhighs qrates qriskRows qlevels qpointsOf qsums qruleKinds qruleLevels qholds qalarms qalarmHours qvalues qchecked qrights thrown_ volume_ share_ layers_ kilograms_ rows_ hours_ rules_ now_L62 books_L62 conductances_ capacities_ rowWaters_ rowDamps_ (upd highs_ (0 : Int32).toNatClampNeg (x1 + (500 : Int32))) (upd lows_ (0 : Int32).toNatClampNeg x1) told_ rates_ x3 x4 (0 : Int32) r5 u5_0 u5_1 e5 _) kc_Model_goBy kv_Model_goBy tt_865 ⟨by decide, by decide⟩ rfl rfl hP hK hD hS hA [0, 2, 5, 6, 7, 8, 9, 4, 3, 10, 11] [1] [1, 0, 2, 9, 8, 3, 4, 5, 6, 7, 10, 11] rfl (by decide) rfl (by decide) (by decide) rfl (by decide) 0 rfl rfl rfl rfl hl.1 (Nat.le_of_ble_eq_true rfl) rfl nd_Model_tried_75 ⟨Nat.zero_le _, Nat.zero_le _⟩ (fun H locs hP hD hS => ?_)
              refine lv_ladd hx hb nd_Model_tried_78 ?_
              refine lv_lstore (lv' := [(5, .long (i5_62 + r5)), (0, .ref qa0), (1, .int x1), (2, .int x2), (3, .int x3), (4, .int x4), (7, .int i7_62)]) hx hb nd_Model_tried_79 hl (by decide) rfl (fun ls hl => ?_)
              refine lv_aload_n hx hb nd_Model_tried_81 rfl (lv_at hl 1 rfl) ?_
              obtain ⟨r6, e6, hR⟩ := q_b1 hR
              refine k_rVJ (As := []) (rest := []) (r := r6) hx hb hml hown hts (cn_Model_degreesNow l D ca qa0 qnow qkept qbooks qkeptBooks qconductances qcapacities qrowDamps qrowWaters qtold qlows qhighs qrates qriskRows qlevels qpointsOf qsums qruleKinds qruleLevels qholds qalarms qalarmHours qvalues qchecked qrights thrown_ volume_ share_ layers_ kilograms_ rows_ hours_ rules_ u5_0 r6 e6) kc_Model_degreesNow kv_Model_degreesNow tt_873 ⟨by decide, by decide⟩ rfl rfl hP hK [0, 2] rfl 0 rfl rfl rfl rfl hl.1 (Nat.le_of_ble_eq_true rfl) rfl nd_Model_tried_82 ⟨Nat.zero_le _, Nat.zero_le _⟩ ?_
              refine lv_lstore (lv' := [(8, .long r6), (5, .long (i5_62 + r5)), (0, .ref qa0), (1, .int x1), (2, .int x2), (3, .int x3), (4, .int x4), (7, .int i7_62)]) hx hb nd_Model_tried_85 hl (by decide) rfl (fun ls hl => ?_)
              refine lv_lload hx hb nd_Model_tried_87 (lv_at hl 1 rfl) ?_
              refine lv_lload hx hb nd_Model_tried_89 (lv_at hl 0 rfl) ?_
              refine lv_ldc2 hx hb hown (hts _ tt_997) nd_Model_tried_91 ?_
              refine W.lcmp hx hb nd_Model_tried_94 ?_
              obtain ⟨j8_0, hJ8, hR⟩ := q_b1 hR
              have hN8 : ∀ (H : Heap) (locs : List Loc) (ls : Array Slot), va_P D vwCl [oc_Model qa0 thrown_ volume_ share_ qnow qkept qbooks qkeptBooks layers_ qconductances qcapacities kilograms_ rows_ qrowDamps qrowWaters qtold qlows qhighs qrates hours_ qriskRows qlevels qpointsOf qsums rules_ qruleKinds qruleLevels qholds qalarms qalarmHours qvalues qchecked qrights, aJ qkept ca 12 kept_, aJ qnow ca 12 u5_0, aI qlows ca 4 (upd lows_ (0 : Int32).toNatClampNeg x1), aI qhighs ca 4 (upd highs_ (0 : Int32).toNatClampNeg (x1 + (500 : Int32))), aJ qbooks ca 10 u5_1, aI qconductances ca 5 conductances_, aI qcapacities ca 5 capacities_, aI qrowWaters ca 6 rowWaters_, aI qrowDamps ca 6 rowDamps_, aZ qtold ca 4 told_, aI qrates ca 4 rates_] H → va_D A [oc_Model qa0 thrown_ volume_ share_ qnow qkept qbooks qkeptBooks layers_ qconductances qcapacities kilograms_ rows_ qrowDamps qrowWaters qtold qlows qhighs qrates hours_ qriskRows qlevels qpointsOf qsums rules_ qruleKinds qruleLevels qholds qalarms qalarmHours qvalues qchecked qrights, aJ qkept ca 12 kept_, aJ qnow ca 12 u5_0, aI qlows ca 4 (upd lows_ (0 : Int32).toNatClampNeg x1), aI qhighs ca 4 (upd highs_ (0 : Int32).toNatClampNeg (x1 + (500 : Int32))), aJ qbooks ca 10 u5_1, aI qconductances ca 5 conductances_, aI qcapacities ca 5 capacities_, aI qrowWaters ca 6 rowWaters_, aI qrowDamps ca 6 rowDamps_, aZ qtold ca 4 told_, aI qrates ca 4 rates_] → va_S A s.heap H locs → lv_has ls 10 [(0, .ref qa0), (1, .int x1), (2, .int x2), (3, .int x3), (4, .int x4), (5, .long (i5_62 + r5)), (7, .int i7_62), (8, .long r6)] → W p l e rm_Model_tried s m ar below meth c H locs 0 0 Q (F0 m 134 ls [.long j8_0, .long (i5_62 + r5)]) := by
                intro H locs ls hP hD hS hl
                refine lv_ladd hx hb nd_Model_tried_134 ?_
                refine lv_lstore (lv' := [(5, .long ((i5_62 + r5) + j8_0)), (0, .ref qa0), (1, .int x1), (2, .int x2), (3, .int x3), (4, .int x4), (7, .int i7_62), (8, .long r6)]) hx hb nd_Model_tried_135 hl (by decide) rfl (fun ls hl => ?_)
                refine lv_iinc (v := i7_62 + 1) (lv' := [(7, .int (i7_62 + 1)), (5, .long ((i5_62 + r5) + j8_0)), (0, .ref qa0), (1, .int x1), (2, .int x2), (3, .int x3), (4, .int x4), (8, .long r6)]) hx hb nd_Model_tried_137 hl (k := 6) rfl (by first | rfl | decide) (by decide) rfl (fun ls hl => ?_)
                refine lv_goto (tgt := 62) hx hb nd_Model_tried_140 (by decide) ?_
                exact ih62 ((i5_62 + r5) + j8_0) (i7_62 + 1) u5_0 u5_1 _ _ _ hR hP hD hS (lv_sub hl [2, 3, 4, 5, 6, 1, 0] rfl)
              refine lv_if_ge (tgt := 111) hx hb nd_Model_tried_95 (by decide) (fun c7 => ?_) (fun c7 => ?_)
              · have hR := q_p c7 hJ8
                refine lv_lload hx hb nd_Model_tried_111 (lv_at hl 0 rfl) ?_
                refine lv_ldc2 hx hb hown (hts _ tt_998) nd_Model_tried_113 ?_
                refine W.lcmp hx hb nd_Model_tried_116 ?_
                obtain ⟨j10_0, hJ10, hR⟩ := q_b1 hR
                have hN10 : ∀ (H : Heap) (locs : List Loc) (ls : Array Slot), va_P D vwCl [oc_Model qa0 thrown_ volume_ share_ qnow qkept qbooks qkeptBooks layers_ qconductances qcapacities kilograms_ rows_ qrowDamps qrowWaters qtold qlows qhighs qrates hours_ qriskRows qlevels qpointsOf qsums rules_ qruleKinds qruleLevels qholds qalarms qalarmHours qvalues qchecked qrights, aJ qkept ca 12 kept_, aJ qnow ca 12 u5_0, aI qlows ca 4 (upd lows_ (0 : Int32).toNatClampNeg x1), aI qhighs ca 4 (upd highs_ (0 : Int32).toNatClampNeg (x1 + (500 : Int32))), aJ qbooks ca 10 u5_1, aI qconductances ca 5 conductances_, aI qcapacities ca 5 capacities_, aI qrowWaters ca 6 rowWaters_, aI qrowDamps ca 6 rowDamps_, aZ qtold ca 4 told_, aI qrates ca 4 rates_] H → va_D A [oc_Model qa0 thrown_ volume_ share_ qnow qkept qbooks qkeptBooks layers_ qconductances qcapacities kilograms_ rows_ qrowDamps qrowWaters qtold qlows qhighs qrates hours_ qriskRows qlevels qpointsOf qsums rules_ qruleKinds qruleLevels qholds qalarms qalarmHours qvalues qchecked qrights, aJ qkept ca 12 kept_, aJ qnow ca 12 u5_0, aI qlows ca 4 (upd lows_ (0 : Int32).toNatClampNeg x1), aI qhighs ca 4 (upd highs_ (0 : Int32).toNatClampNeg (x1 + (500 : Int32))), aJ qbooks ca 10 u5_1, aI qconductances ca 5 conductances_, aI qcapacities ca 5 capacities_, aI qrowWaters ca 6 rowWaters_, aI qrowDamps ca 6 rowDamps_, aZ qtold ca 4 told_, aI qrates ca 4 rates_] → va_S A s.heap H locs → lv_has ls 10 [(0, .ref qa0), (1, .int x1), (2, .int x2), (3, .int x3), (4, .int x4), (5, .long (i5_62 + r5)), (7, .int i7_62), (8, .long r6)] → W p l e rm_Model_tried s m ar below meth c H locs 0 0 Q (F0 m 134 ls [.long j10_0, .long (i5_62 + r5)]) := by
                  intro H locs ls hP hD hS hl
                  cases hR
                  exact hN8 _ _ _ hP hD hS (lv_sub hl [0, 1, 2, 3, 4, 5, 6, 7] rfl)
                refine lv_if_le (tgt := 133) hx hb nd_Model_tried_117 (by decide) (fun c9 => ?_) (fun c9 => ?_)
                · have hR := q_p c9 hJ10
                  refine lv_lconst (v := 0) hx hb nd_Model_tried_133 (by decide) ?_
                  cases hR
                  exact hN10 _ _ _ hP hD hS (lv_sub hl [2, 3, 4, 5, 6, 1, 7, 0] rfl)
                · have hR := q_n c9 hJ10
                  refine lv_ldc2 hx hb hown (hts _ tt_897) nd_Model_tried_120 ?_
                  refine lv_lload hx hb nd_Model_tried_123 (lv_at hl 0 rfl) ?_
                  refine lv_ldc2 hx hb hown (hts _ tt_998) nd_Model_tried_125 ?_
                  refine lv_lsub hx hb nd_Model_tried_128 ?_
                  refine lv_lmul hx hb nd_Model_tried_129 ?_
                  refine lv_goto (tgt := 134) hx hb nd_Model_tried_130 (by decide) ?_
                  cases hR
                  exact hN10 _ _ _ hP hD hS (lv_sub hl [2, 3, 4, 5, 6, 1, 7, 0] rfl)
              · have hR := q_n c7 hJ8
                refine lv_ldc2 hx hb hown (hts _ tt_897) nd_Model_tried_98 ?_
                refine lv_ldc2 hx hb hown (hts _ tt_997) nd_Model_tried_101 ?_
                refine lv_lload hx hb nd_Model_tried_104 (lv_at hl 0 rfl) ?_
                refine lv_lsub hx hb nd_Model_tried_106 ?_
                refine lv_lmul hx hb nd_Model_tried_107 ?_
                refine lv_goto (tgt := 134) hx hb nd_Model_tried_108 (by decide) ?_
                cases hR
                exact hN8 _ _ _ hP hD hS (lv_sub hl [2, 3, 4, 5, 6, 1, 7, 0] rfl)
        exact hL62 400 (0 : Int64) (0 : Int32) (vp_updL now_L3 (8 : Int32).toNatClampNeg (0 : Int64)) books_ _ _ _ hR hP hD hS (lv_sub hl [2, 3, 4, 5, 6, 1, 0] rfl)
      · replace hR := q_n c1 hR
        refine lv_aload_n hx hb nd_Model_tried_10 rfl (lv_at hl 0 rfl) ?_
        refine va_get (D := D) (ci := 9) (v := .ref qnow) (C := nR_Model) (T := nT_Model) (N := 32) hx hb hts ni_Model hown hK hP 0 rfl rfl 3 (by decide) (hts (.fieldLink nR_Model 16 "RoomClimateModel" "now" "[J") tt_726) (fun _ h9 => h9) rfl nd_Model_tried_11 ?_
        refine lv_iload hx hb nd_Model_tried_14 (lv_at hl 5 rfl) ?_
        refine lv_aload_n hx hb nd_Model_tried_16 rfl (lv_at hl 0 rfl) ?_
        refine va_get (D := D) (ci := 9) (v := .ref qkept) (C := nR_Model) (T := nT_Model) (N := 32) hx hb hts ni_Model hown hK hP 0 rfl rfl 4 (by decide) (hts (.fieldLink nR_Model 20 "RoomClimateModel" "kept" "[J") tt_727) (fun _ h9 => h9) rfl nd_Model_tried_17 ?_
        refine lv_iload hx hb nd_Model_tried_20 (lv_at hl 5 rfl) ?_
        obtain ⟨h11, hR⟩ := q_ix hR
        refine va_lald hx hb hK hP 1 1 rfl rfl h11 nd_Model_tried_22 ?_
        refine va_last hx hb hK hP hD hS 2 1 rfl rfl h11 nd_Model_tried_23 (fun H locs hP hD hS => ?_)
        have hP : va_P D vwCl [oc_Model qa0 thrown_ volume_ share_ qnow qkept qbooks qkeptBooks layers_ qconductances qcapacities kilograms_ rows_ qrowDamps qrowWaters qtold qlows qhighs qrates hours_ qriskRows qlevels qpointsOf qsums rules_ qruleKinds qruleLevels qholds qalarms qalarmHours qvalues qchecked qrights, aJ qkept ca 12 kept_, aJ qnow ca 12 (vp_updL now_L3 i5_3.toNatClampNeg (kept_ i5_3.toNatClampNeg)), aI qlows ca 4 lows_, aI qhighs ca 4 highs_, aJ qbooks ca 10 books_, aI qconductances ca 5 conductances_, aI qcapacities ca 5 capacities_, aI qrowWaters ca 6 rowWaters_, aI qrowDamps ca 6 rowDamps_, aZ qtold ca 4 told_, aI qrates ca 4 rates_] H := hP
        have hD : va_D A [oc_Model qa0 thrown_ volume_ share_ qnow qkept qbooks qkeptBooks layers_ qconductances qcapacities kilograms_ rows_ qrowDamps qrowWaters qtold qlows qhighs qrates hours_ qriskRows qlevels qpointsOf qsums rules_ qruleKinds qruleLevels qholds qalarms qalarmHours qvalues qchecked qrights, aJ qkept ca 12 kept_, aJ qnow ca 12 (vp_updL now_L3 i5_3.toNatClampNeg (kept_ i5_3.toNatClampNeg)), aI qlows ca 4 lows_, aI qhighs ca 4 highs_, aJ qbooks ca 10 books_, aI qconductances ca 5 conductances_, aI qcapacities ca 5 capacities_, aI qrowWaters ca 6 rowWaters_, aI qrowDamps ca 6 rowDamps_, aZ qtold ca 4 told_, aI qrates ca 4 rates_] := hD
        refine lv_iinc (v := i5_3 + 1) (lv' := [(5, .int (i5_3 + 1)), (0, .ref qa0), (1, .int x1), (2, .int x2), (3, .int x3), (4, .int x4)]) hx hb nd_Model_tried_24 hl (k := 5) rfl (by first | rfl | decide) (by decide) rfl (fun ls hl => ?_)
        refine lv_goto (tgt := 3) hx hb nd_Model_tried_27 (by decide) ?_
        exact ih3 (i5_3 + 1) (vp_updL now_L3 i5_3.toNatClampNeg (kept_ i5_3.toNatClampNeg)) _ _ _ hR hP hD hS (lv_sub hl [1, 2, 3, 4, 5, 0] rfl)
  exact hL3 400 (0 : Int32) now_ _ _ _ hR hP hD hS (lv_sub hl [1, 2, 3, 4, 5, 0] rfl)
def rm_Model_plan : Room := { frames := 6, cells := 0, slots := 0, locals := 144 }
theorem kc_Model_plan : k_cal nY_Model_plan nC_Model_plan 15 (some .int) 3 := ⟨tt_992, tt_10, by decide +kernel⟩
theorem kv_Model_plan : k_vir nY_Model_plan := ⟨tt_990, tt_991⟩
set_option maxHeartbeats 4000000 in
set_option maxRecDepth 100000 in
theorem cn_Model_plan (l : Launch) (D : va_G) (ca : Nat → ClassId) (qa0 qnow qkept qbooks qkeptBooks qconductances qcapacities qrowDamps qrowWaters qtold qlows qhighs qrates qriskRows qlevels qpointsOf qsums qruleKinds qruleLevels qholds qalarms qalarmHours qvalues qchecked qrights : Nat) (thrown_ : Int32) (volume_ : Int32) (share_ : Int32) (layers_ : Int32) (kilograms_ : Int32) (rows_ : Int32) (hours_ : Int32) (rules_ : Int32) (now_ : Nat → Int64) (kept_ : Nat → Int64) (books_ : Nat → Int64) (keptBooks_ : Nat → Int64) (told_ : Nat → Int32) (lows_ : Nat → Int32) (highs_ : Nat → Int32) (rates_ : Nat → Int32) (conductances_ : Nat → Int32) (capacities_ : Nat → Int32) (rowWaters_ : Nat → Int32) (rowDamps_ : Nat → Int32) (x1 : Int32) (x2 : Int32) (x3 : Int32) (R0 : Int32) (R1 : Int32) (R2 : Nat → Int64) (R3 : Nat → Int64) (R4 : Nat → Int32) (R5 : Nat → Int32) (R6 : Nat → Int64) (R7 : Nat → Int32) (R8 : Nat → Int32) (R9 : Nat → Int64) (hR : fn_Model_plan volume_ share_ layers_ kilograms_ rows_ now_ kept_ books_ keptBooks_ told_ lows_ highs_ rates_ conductances_ capacities_ rowWaters_ rowDamps_ x1 x2 x3 = some (R0, R1, R2, R3, R4, R5, R6, R7, R8, R9)) (sz : Nat) : Met l nY_Model_plan (Cond.code nY_Model_plan nC_Model_plan 15 (some .int) :: TT) rm_Model_plan (wr_P [.ref qa0, .int x1, .int x2, .int x3] D ca [oc_Model qa0 thrown_ volume_ share_ qnow qkept qbooks qkeptBooks layers_ qconductances qcapacities kilograms_ rows_ qrowDamps qrowWaters qtold qlows qhighs qrates hours_ qriskRows qlevels qpointsOf qsums rules_ qruleKinds qruleLevels qholds qalarms qalarmHours qvalues qchecked qrights, aJ qnow ca 12 now_, aJ qkept ca 12 kept_, aJ qbooks ca 10 books_, aJ qkeptBooks ca 10 keptBooks_, aZ qtold ca 4 told_, aI qlows ca 4 lows_, aI qhighs ca 4 highs_, aI qrates ca 4 rates_, aI qconductances ca 5 conductances_, aI qcapacities ca 5 capacities_, aI qrowWaters ca 6 rowWaters_, aI qrowDamps ca 6 rowDamps_] sz) (va_Qi (fun x (_ : Unit) => x = R0) (wr_B D [oc_Model qa0 thrown_ volume_ share_ qnow qkept qbooks qkeptBooks layers_ qconductances qcapacities kilograms_ rows_ qrowDamps qrowWaters qtold qlows qhighs qrates hours_ qriskRows qlevels qpointsOf qsums rules_ qruleKinds qruleLevels qholds qalarms qalarmHours qvalues qchecked qrights, aJ qnow ca 12 now_, aJ qkept ca 12 kept_, aJ qbooks ca 10 books_, aJ qkeptBooks ca 10 keptBooks_, aZ qtold ca 4 told_, aI qlows ca 4 lows_, aI qhighs ca 4 highs_, aI qrates ca 4 rates_, aI qconductances ca 5 conductances_, aI qcapacities ca 5 capacities_, aI qrowWaters ca 6 rowWaters_, aI qrowDamps ca 6 rowDamps_] sz [oc_Model qa0 R1 volume_ share_ qnow qkept qbooks qkeptBooks layers_ qconductances qcapacities kilograms_ rows_ qrowDamps qrowWaters qtold qlows qhighs qrates hours_ qriskRows qlevels qpointsOf qsums rules_ qruleKinds qruleLevels qholds qalarms qalarmHours qvalues qchecked qrights, aJ qnow ca 12 R6, aJ qkept ca 12 R2, aJ qbooks ca 10 R9, aJ qkeptBooks ca 10 R3, aZ qtold ca 4 R4, aI qlows ca 4 R7, aI qhighs ca 4 R8, aI qrates ca 4 R5, aI qconductances ca 5 conductances_, aI qcapacities ca 5 capacities_, aI qrowWaters ca 6 rowWaters_, aI qrowDamps ca 6 rowDamps_]) (va_A [oc_Model qa0 thrown_ volume_ share_ qnow qkept qbooks qkeptBooks layers_ qconductances qcapacities kilograms_ rows_ qrowDamps qrowWaters qtold qlows qhighs qrates hours_ qriskRows qlevels qpointsOf qsums rules_ qruleKinds qruleLevels qholds qalarms qalarmHours qvalues qchecked qrights, aJ qnow ca 12 now_, aJ qkept ca 12 kept_, aJ qbooks ca 10 books_, aJ qkeptBooks ca 10 keptBooks_, aZ qtold ca 4 told_, aI qlows ca 4 lows_, aI qhighs ca 4 highs_, aI qrates ca 4 rates_, aI qconductances ca 5 conductances_, aI qcapacities ca 5 capacities_, aI qrowWaters ca 6 rowWaters_, aI qrowDamps ca 6 rowDamps_] sz)) 0 0 (va_A [oc_Model qa0 thrown_ volume_ share_ qnow qkept qbooks qkeptBooks layers_ qconductances qcapacities kilograms_ rows_ qrowDamps qrowWaters qtold qlows qhighs qrates hours_ qriskRows qlevels qpointsOf qsums rules_ qruleKinds qruleLevels qholds qalarms qalarmHours qvalues qchecked qrights, aJ qnow ca 12 now_, aJ qkept ca 12 kept_, aJ qbooks ca 10 books_, aJ qkeptBooks ca 10 keptBooks_, aZ qtold ca 4 told_, aI qlows ca 4 lows_, aI qhighs ca 4 highs_, aI qrates ca 4 rates_, aI qconductances ca 5 conductances_, aI qcapacities ca 5 capacities_, aI qrowWaters ca 6 rowWaters_, aI qrowDamps ca 6 rowDamps_] sz) := by
  refine wr_ofI (R := (R0, R1, R2, R3, R4, R5, R6, R7, R8, R9)) (val := fun r => r.1) (w1 := fun r : Int32 × Int32 × (Nat → Int64) × (Nat → Int64) × (Nat → Int32) × (Nat → Int32) × (Nat → Int64) × (Nat → Int32) × (Nat → Int32) × (Nat → Int64) => [oc_Model qa0 r.2.1 volume_ share_ qnow qkept qbooks qkeptBooks layers_ qconductances qcapacities kilograms_ rows_ qrowDamps qrowWaters qtold qlows qhighs qrates hours_ qriskRows qlevels qpointsOf qsums rules_ qruleKinds qruleLevels qholds qalarms qalarmHours qvalues qchecked qrights, aJ qnow ca 12 r.2.2.2.2.2.2.1, aJ qkept ca 12 r.2.2.1, aJ qbooks ca 10 r.2.2.2.2.2.2.2.2.2, aJ qkeptBooks ca 10 r.2.2.2.1, aZ qtold ca 4 r.2.2.2.2.1, aI qlows ca 4 r.2.2.2.2.2.2.2.1, aI qhighs ca 4 r.2.2.2.2.2.2.2.2.1, aI qrates ca 4 r.2.2.2.2.2.1, aI qconductances ca 5 conductances_, aI qcapacities ca 5 capacities_, aI qrowWaters ca 6 rowWaters_, aI qrowDamps ca 6 rowDamps_]) (by decide +kernel) (Nat.le_of_ble_eq_true rfl) ?_
  intro p e s m below meth c Q ar ls hx hb hml hts hown hP hK A hD hA hl hret
  have hS : va_S A s.heap s.heap [] := va_S.rf
  have hown : s.vm.findClass nR_Model = some m.cls := hown
  have hl : lv_has ls 15 [(0, .ref qa0), (1, .int x1), (2, .int x2), (3, .int x3)] := hl
  unfold fn_Model_plan at hR
  refine lv_aload_n hx hb nd_Model_plan_0 rfl (lv_at hl 0 rfl) ?_
  refine lv_iload_n hx hb nd_Model_plan_1 rfl (lv_at hl 1 rfl) ?_
  refine lv_iconst (v := 1) hx hb nd_Model_plan_2 (by decide) ?_
  refine lv_bipush (v := 24) hx hb nd_Model_plan_3 (by decide) ?_
  obtain ⟨r1, e1, hR⟩ := q_b1 hR
  refine k_rSI (As := [.int x1, .int (1 : Int32), .int (24 : Int32)]) (rest := [.ref qa0]) (r := r1) hx hb hml hown hts (cn_Model_within l D ca x1 (1 : Int32) (24 : Int32) r1 e1) kc_Model_within ks_Model_within tt_828 ⟨by decide, by decide⟩ rfl rfl hP hK [] rfl rfl hl.1 (Nat.le_of_ble_eq_true rfl) rfl nd_Model_plan_5 ⟨Nat.zero_le _, Nat.zero_le _⟩ ?_
  obtain ⟨j3_0, hJ3, hR⟩ := q_b1 hR
  have hN3 : ∀ (H : Heap) (locs : List Loc) (ls : Array Slot), va_P D vwCl [oc_Model qa0 thrown_ volume_ share_ qnow qkept qbooks qkeptBooks layers_ qconductances qcapacities kilograms_ rows_ qrowDamps qrowWaters qtold qlows qhighs qrates hours_ qriskRows qlevels qpointsOf qsums rules_ qruleKinds qruleLevels qholds qalarms qalarmHours qvalues qchecked qrights, aJ qnow ca 12 now_, aJ qkept ca 12 kept_, aJ qbooks ca 10 books_, aJ qkeptBooks ca 10 keptBooks_, aZ qtold ca 4 told_, aI qlows ca 4 lows_, aI qhighs ca 4 highs_, aI qrates ca 4 rates_, aI qconductances ca 5 conductances_, aI qcapacities ca 5 capacities_, aI qrowWaters ca 6 rowWaters_, aI qrowDamps ca 6 rowDamps_] H → va_D A [oc_Model qa0 thrown_ volume_ share_ qnow qkept qbooks qkeptBooks layers_ qconductances qcapacities kilograms_ rows_ qrowDamps qrowWaters qtold qlows qhighs qrates hours_ qriskRows qlevels qpointsOf qsums rules_ qruleKinds qruleLevels qholds qalarms qalarmHours qvalues qchecked qrights, aJ qnow ca 12 now_, aJ qkept ca 12 kept_, aJ qbooks ca 10 books_, aJ qkeptBooks ca 10 keptBooks_, aZ qtold ca 4 told_, aI qlows ca 4 lows_, aI qhighs ca 4 highs_, aI qrates ca 4 rates_, aI qconductances ca 5 conductances_, aI qcapacities ca 5 capacities_, aI qrowWaters ca 6 rowWaters_, aI qrowDamps ca 6 rowDamps_] → va_S A s.heap H locs → lv_has ls 15 [(0, .ref qa0), (1, .int x1), (2, .int x2), (3, .int x3)] → W p l e rm_Model_plan s m ar below meth c H locs 0 0 Q (F0 m 24 ls [.int j3_0, .ref qa0]) := by
    intro H locs ls hP hD hS hl
    refine lv_iconst (v := 1) hx hb nd_Model_plan_24 (by decide) ?_
    refine lv_iconst (v := 1) hx hb nd_Model_plan_25 (by decide) ?_
    obtain ⟨r7, u7_0, e7, hR⟩ := q_b2 hR
    refine k_wVI (wr := [aJ qnow ca 12 now_, aJ qkept ca 12 kept_, aJ qbooks ca 10 books_, aJ qkeptBooks ca 10 keptBooks_, aZ qtold ca 4 told_, aI qlows ca 4 lows_, aI qhighs ca 4 highs_, aI qrates ca 4 rates_, aI qconductances ca 5 conductances_, aI qcapacities ca 5 capacities_, aI qrowWaters ca 6 rowWaters_, aI qrowDamps ca 6 rowDamps_]) (w2 := [oc_Model qa0 u7_0 volume_ share_ qnow qkept qbooks qkeptBooks layers_ qconductances qcapacities kilograms_ rows_ qrowDamps qrowWaters qtold qlows qhighs qrates hours_ qriskRows qlevels qpointsOf qsums rules_ qruleKinds qruleLevels qholds qalarms qalarmHours qvalues qchecked qrights, aJ qnow ca 12 now_, aJ qkept ca 12 kept_, aJ qbooks ca 10 books_, aJ qkeptBooks ca 10 keptBooks_, aZ qtold ca 4 told_, aI qlows ca 4 lows_, aI qhighs ca 4 highs_, aI qrates ca 4 rates_, aI qconductances ca 5 conductances_, aI qcapacities ca 5 capacities_, aI qrowWaters ca 6 rowWaters_, aI qrowDamps ca 6 rowDamps_]) (As := [.int j3_0, .int (1 : Int32), .int (1 : Int32)]) (rest := []) (r := r7) hx hb hml hown hts (cn_Model_goes l D ca qa0 qnow qkept qbooks qkeptBooks qconductances qcapacities qrowDamps qrowWaters qtold qlows qhighs qrates qriskRows qlevels qpointsOf qsums qruleKinds qruleLevels qholds qalarms qalarmHours qvalues qchecked qrights thrown_ volume_ share_ layers_ kilograms_ rows_ hours_ rules_ j3_0 (1 : Int32) (1 : Int32) r7 u7_0 e7 _) kc_Model_goes kv_Model_goes tt_831 ⟨by decide, by decide⟩ rfl rfl hP hK hD hS hA [0] [1, 2, 3, 4, 5, 6, 7, 8, 9, 10, 11, 12] [12, 0, 1, 2, 3, 4, 5, 6, 7, 8, 9, 10, 11] rfl (by decide) rfl (by decide) (by decide) rfl (by decide) 0 rfl rfl rfl rfl hl.1 (Nat.le_of_ble_eq_true rfl) rfl nd_Model_plan_26 ⟨Nat.zero_le _, Nat.zero_le _⟩ (fun H locs hP hD hS => ?_)
    refine lv_if_ne (tgt := 34) hx hb nd_Model_plan_29 (by decide) (fun c8 => ?_) (fun c8 => ?_)
    · replace hR := q_n c8 hR
      refine lv_iconst (v := 0) hx hb nd_Model_plan_34 (by decide) ?_
      refine lv_istore (lv' := [(4, .int (0 : Int32)), (0, .ref qa0), (1, .int x1), (2, .int x2), (3, .int x3)]) hx hb nd_Model_plan_35 hl (by decide) rfl (fun ls hl => ?_)
      have hL37 : ∀ (n37 : Nat) (i4_37 : Int32) (kept_L37 : Nat → Int64) (H : Heap) (locs : List Loc) (ls : Array Slot), fn_Model_plan_L37 x1 x2 x3 keptBooks_ told_ rates_ now_ lows_ highs_ books_ u7_0 volume_ share_ layers_ kilograms_ rows_ conductances_ capacities_ rowWaters_ rowDamps_ n37 i4_37 kept_L37 = some (R0, R1, R2, R3, R4, R5, R6, R7, R8, R9) → va_P D vwCl [oc_Model qa0 u7_0 volume_ share_ qnow qkept qbooks qkeptBooks layers_ qconductances qcapacities kilograms_ rows_ qrowDamps qrowWaters qtold qlows qhighs qrates hours_ qriskRows qlevels qpointsOf qsums rules_ qruleKinds qruleLevels qholds qalarms qalarmHours qvalues qchecked qrights, aJ qnow ca 12 now_, aJ qkept ca 12 kept_L37, aJ qbooks ca 10 books_, aJ qkeptBooks ca 10 keptBooks_, aZ qtold ca 4 told_, aI qlows ca 4 lows_, aI qhighs ca 4 highs_, aI qrates ca 4 rates_, aI qconductances ca 5 conductances_, aI qcapacities ca 5 capacities_, aI qrowWaters ca 6 rowWaters_, aI qrowDamps ca 6 rowDamps_] H → va_D A [oc_Model qa0 u7_0 volume_ share_ qnow qkept qbooks qkeptBooks layers_ qconductances qcapacities kilograms_ rows_ qrowDamps qrowWaters qtold qlows qhighs qrates hours_ qriskRows qlevels qpointsOf qsums rules_ qruleKinds qruleLevels qholds qalarms qalarmHours qvalues qchecked qrights, aJ qnow ca 12 now_, aJ qkept ca 12 kept_L37, aJ qbooks ca 10 books_, aJ qkeptBooks ca 10 keptBooks_, aZ qtold ca 4 told_, aI qlows ca 4 lows_, aI qhighs ca 4 highs_, aI qrates ca 4 rates_, aI qconductances ca 5 conductances_, aI qcapacities ca 5 capacities_, aI qrowWaters ca 6 rowWaters_, aI qrowDamps ca 6 rowDamps_] → va_S A s.heap H locs → lv_has ls 15 [(0, .ref qa0), (1, .int x1), (2, .int x2), (3, .int x3), (4, .int i4_37)] → W p l e rm_Model_plan s m ar below meth c H locs 0 0 Q (F0 m 37 ls []) := by
        intro n37
        induction n37 with
        | zero => intro i4_37 kept_L37 H locs ls hR; exact nomatch hR
        | succ n37 ih37 =>
          intro i4_37 kept_L37 H locs ls hR hP hD hS hl
          rw [fn_Model_plan_L37] at hR
          refine lv_iload hx hb nd_Model_plan_37 (lv_at hl 4 rfl) ?_
          refine lv_bipush (v := 12) hx hb nd_Model_plan_39 (by decide) ?_
          refine lv_icmp_ge (tgt := 64) hx hb nd_Model_plan_41 (by decide) (fun c9 => ?_) (fun c9 => ?_)
          · replace hR := q_p c9 hR
            refine lv_iconst (v := 0) hx hb nd_Model_plan_64 (by decide) ?_
            refine lv_istore (lv' := [(4, .int (0 : Int32)), (0, .ref qa0), (1, .int x1), (2, .int x2), (3, .int x3)]) hx hb nd_Model_plan_65 hl (by decide) rfl (fun ls hl => ?_)
            have hL67 : ∀ (n67 : Nat) (i4_67 : Int32) (keptBooks_L67 : Nat → Int64) (H : Heap) (locs : List Loc) (ls : Array Slot), fn_Model_plan_L67 x1 x2 x3 told_ rates_ now_ lows_ highs_ books_ u7_0 kept_L37 volume_ share_ layers_ kilograms_ rows_ conductances_ capacities_ rowWaters_ rowDamps_ n67 i4_67 keptBooks_L67 = some (R0, R1, R2, R3, R4, R5, R6, R7, R8, R9) → va_P D vwCl [oc_Model qa0 u7_0 volume_ share_ qnow qkept qbooks qkeptBooks layers_ qconductances qcapacities kilograms_ rows_ qrowDamps qrowWaters qtold qlows qhighs qrates hours_ qriskRows qlevels qpointsOf qsums rules_ qruleKinds qruleLevels qholds qalarms qalarmHours qvalues qchecked qrights, aJ qnow ca 12 now_, aJ qkept ca 12 kept_L37, aJ qbooks ca 10 books_, aJ qkeptBooks ca 10 keptBooks_L67, aZ qtold ca 4 told_, aI qlows ca 4 lows_, aI qhighs ca 4 highs_, aI qrates ca 4 rates_, aI qconductances ca 5 conductances_, aI qcapacities ca 5 capacities_, aI qrowWaters ca 6 rowWaters_, aI qrowDamps ca 6 rowDamps_] H → va_D A [oc_Model qa0 u7_0 volume_ share_ qnow qkept qbooks qkeptBooks layers_ qconductances qcapacities kilograms_ rows_ qrowDamps qrowWaters qtold qlows qhighs qrates hours_ qriskRows qlevels qpointsOf qsums rules_ qruleKinds qruleLevels qholds qalarms qalarmHours qvalues qchecked qrights, aJ qnow ca 12 now_, aJ qkept ca 12 kept_L37, aJ qbooks ca 10 books_, aJ qkeptBooks ca 10 keptBooks_L67, aZ qtold ca 4 told_, aI qlows ca 4 lows_, aI qhighs ca 4 highs_, aI qrates ca 4 rates_, aI qconductances ca 5 conductances_, aI qcapacities ca 5 capacities_, aI qrowWaters ca 6 rowWaters_, aI qrowDamps ca 6 rowDamps_] → va_S A s.heap H locs → lv_has ls 15 [(0, .ref qa0), (1, .int x1), (2, .int x2), (3, .int x3), (4, .int i4_67)] → W p l e rm_Model_plan s m ar below meth c H locs 0 0 Q (F0 m 67 ls []) := by
              intro n67
              induction n67 with
              | zero => intro i4_67 keptBooks_L67 H locs ls hR; exact nomatch hR
              | succ n67 ih67 =>
                intro i4_67 keptBooks_L67 H locs ls hR hP hD hS hl
                rw [fn_Model_plan_L67] at hR
                refine lv_iload hx hb nd_Model_plan_67 (lv_at hl 4 rfl) ?_
                refine lv_bipush (v := 10) hx hb nd_Model_plan_69 (by decide) ?_
                refine lv_icmp_ge (tgt := 94) hx hb nd_Model_plan_71 (by decide) (fun c10 => ?_) (fun c10 => ?_)
                · replace hR := q_p c10 hR
                  refine lv_aload_n hx hb nd_Model_plan_94 rfl (lv_at hl 0 rfl) ?_
                  refine va_get (D := D) (ci := 9) (v := .ref qtold) (C := nR_Model) (T := nT_Model) (N := 32) hx hb hts ni_Model hown hK hP 0 rfl rfl 14 (by decide) (hts (.fieldLink nR_Model 42 "RoomClimateModel" "told" "[Z") tt_737) (fun _ h9 => h9) rfl nd_Model_plan_95 ?_
                  refine lv_iconst (v := 0) hx hb nd_Model_plan_98 (by decide) ?_
                  obtain ⟨h11, hR⟩ := q_ix hR
                  refine va_zald hx hb hK hP 5 2 rfl rfl h11 nd_Model_plan_99 ?_
                  refine lv_istore (lv' := [(4, .int (told_ (0 : Int32).toNatClampNeg)), (0, .ref qa0), (1, .int x1), (2, .int x2), (3, .int x3)]) hx hb nd_Model_plan_100 hl (by decide) rfl (fun ls hl => ?_)
                  refine lv_aload_n hx hb nd_Model_plan_102 rfl (lv_at hl 1 rfl) ?_
                  refine va_get (D := D) (ci := 9) (v := .ref qlows) (C := nR_Model) (T := nT_Model) (N := 32) hx hb hts ni_Model hown hK hP 0 rfl rfl 15 (by decide) (hts (.fieldLink nR_Model 46 "RoomClimateModel" "lows" "[I") tt_738) (fun _ h9 => h9) rfl nd_Model_plan_103 ?_
                  refine lv_iconst (v := 0) hx hb nd_Model_plan_106 (by decide) ?_
                  refine va_iald hx hb hK hP 6 0 rfl rfl h11 nd_Model_plan_107 ?_
                  refine lv_istore (lv' := [(5, .int (lows_ (0 : Int32).toNatClampNeg)), (4, .int (told_ (0 : Int32).toNatClampNeg)), (0, .ref qa0), (1, .int x1), (2, .int x2), (3, .int x3)]) hx hb nd_Model_plan_108 hl (by decide) rfl (fun ls hl => ?_)
                  refine lv_aload_n hx hb nd_Model_plan_110 rfl (lv_at hl 2 rfl) ?_
                  refine va_get (D := D) (ci := 9) (v := .ref qhighs) (C := nR_Model) (T := nT_Model) (N := 32) hx hb hts ni_Model hown hK hP 0 rfl rfl 16 (by decide) (hts (.fieldLink nR_Model 49 "RoomClimateModel" "highs" "[I") tt_739) (fun _ h9 => h9) rfl nd_Model_plan_111 ?_
                  refine lv_iconst (v := 0) hx hb nd_Model_plan_114 (by decide) ?_
                  refine va_iald hx hb hK hP 7 0 rfl rfl h11 nd_Model_plan_115 ?_
                  refine lv_istore (lv' := [(6, .int (highs_ (0 : Int32).toNatClampNeg)), (5, .int (lows_ (0 : Int32).toNatClampNeg)), (4, .int (told_ (0 : Int32).toNatClampNeg)), (0, .ref qa0), (1, .int x1), (2, .int x2), (3, .int x3)]) hx hb nd_Model_plan_116 hl (by decide) rfl (fun ls hl => ?_)
                  refine lv_aload_n hx hb nd_Model_plan_118 rfl (lv_at hl 3 rfl) ?_
                  refine va_get (D := D) (ci := 9) (v := .ref qrates) (C := nR_Model) (T := nT_Model) (N := 32) hx hb hts ni_Model hown hK hP 0 rfl rfl 17 (by decide) (hts (.fieldLink nR_Model 52 "RoomClimateModel" "rates" "[I") tt_740) (fun _ h9 => h9) rfl nd_Model_plan_119 ?_
                  refine lv_iconst (v := 0) hx hb nd_Model_plan_122 (by decide) ?_
                  refine va_iald hx hb hK hP 8 0 rfl rfl h11 nd_Model_plan_123 ?_
                  refine lv_istore (lv' := [(7, .int (rates_ (0 : Int32).toNatClampNeg)), (6, .int (highs_ (0 : Int32).toNatClampNeg)), (5, .int (lows_ (0 : Int32).toNatClampNeg)), (4, .int (told_ (0 : Int32).toNatClampNeg)), (0, .ref qa0), (1, .int x1), (2, .int x2), (3, .int x3)]) hx hb nd_Model_plan_124 hl (by decide) rfl (fun ls hl => ?_)
                  refine lv_aload_n hx hb nd_Model_plan_126 rfl (lv_at hl 4 rfl) ?_
                  refine va_get (D := D) (ci := 9) (v := .ref qtold) (C := nR_Model) (T := nT_Model) (N := 32) hx hb hts ni_Model hown hK hP 0 rfl rfl 14 (by decide) (hts (.fieldLink nR_Model 42 "RoomClimateModel" "told" "[Z") tt_737) (fun _ h9 => h9) rfl nd_Model_plan_127 ?_
                  refine lv_iconst (v := 0) hx hb nd_Model_plan_130 (by decide) ?_
                  refine lv_iconst (v := 1) hx hb nd_Model_plan_131 (by decide) ?_
                  refine va_zast hx hb hK hP hD hS 5 2 rfl rfl h11 nd_Model_plan_132 (fun H locs hP hD hS => ?_)
                  have hP : va_P D vwCl [oc_Model qa0 u7_0 volume_ share_ qnow qkept qbooks qkeptBooks layers_ qconductances qcapacities kilograms_ rows_ qrowDamps qrowWaters qtold qlows qhighs qrates hours_ qriskRows qlevels qpointsOf qsums rules_ qruleKinds qruleLevels qholds qalarms qalarmHours qvalues qchecked qrights, aJ qnow ca 12 now_, aJ qkept ca 12 kept_L37, aJ qbooks ca 10 books_, aJ qkeptBooks ca 10 keptBooks_L67, aZ qtold ca 4 (upd told_ (0 : Int32).toNatClampNeg (vp_nar .boolean (1 : Int32))), aI qlows ca 4 lows_, aI qhighs ca 4 highs_, aI qrates ca 4 rates_, aI qconductances ca 5 conductances_, aI qcapacities ca 5 capacities_, aI qrowWaters ca 6 rowWaters_, aI qrowDamps ca 6 rowDamps_] H := hP
                  have hD : va_D A [oc_Model qa0 u7_0 volume_ share_ qnow qkept qbooks qkeptBooks layers_ qconductances qcapacities kilograms_ rows_ qrowDamps qrowWaters qtold qlows qhighs qrates hours_ qriskRows qlevels qpointsOf qsums rules_ qruleKinds qruleLevels qholds qalarms qalarmHours qvalues qchecked qrights, aJ qnow ca 12 now_, aJ qkept ca 12 kept_L37, aJ qbooks ca 10 books_, aJ qkeptBooks ca 10 keptBooks_L67, aZ qtold ca 4 (upd told_ (0 : Int32).toNatClampNeg (vp_nar .boolean (1 : Int32))), aI qlows ca 4 lows_, aI qhighs ca 4 highs_, aI qrates ca 4 rates_, aI qconductances ca 5 conductances_, aI qcapacities ca 5 capacities_, aI qrowWaters ca 6 rowWaters_, aI qrowDamps ca 6 rowDamps_] := hD
                  refine lv_aload_n hx hb nd_Model_plan_133 rfl (lv_at hl 4 rfl) ?_
                  refine va_get (D := D) (ci := 9) (v := .ref qrates) (C := nR_Model) (T := nT_Model) (N := 32) hx hb hts ni_Model hown hK hP 0 rfl rfl 17 (by decide) (hts (.fieldLink nR_Model 52 "RoomClimateModel" "rates" "[I") tt_740) (fun _ h9 => h9) rfl nd_Model_plan_134 ?_
                  refine lv_iconst (v := 0) hx hb nd_Model_plan_137 (by decide) ?_
                  refine lv_iload hx hb nd_Model_plan_138 (lv_at hl 3 rfl) ?_
                  obtain ⟨j13_0, hJ13, hR⟩ := q_b1 hR
                  have hN13 : ∀ (H : Heap) (locs : List Loc) (ls : Array Slot), va_P D vwCl [oc_Model qa0 u7_0 volume_ share_ qnow qkept qbooks qkeptBooks layers_ qconductances qcapacities kilograms_ rows_ qrowDamps qrowWaters qtold qlows qhighs qrates hours_ qriskRows qlevels qpointsOf qsums rules_ qruleKinds qruleLevels qholds qalarms qalarmHours qvalues qchecked qrights, aJ qnow ca 12 now_, aJ qkept ca 12 kept_L37, aJ qbooks ca 10 books_, aJ qkeptBooks ca 10 keptBooks_L67, aZ qtold ca 4 (upd told_ (0 : Int32).toNatClampNeg (vp_nar .boolean (1 : Int32))), aI qlows ca 4 lows_, aI qhighs ca 4 highs_, aI qrates ca 4 rates_, aI qconductances ca 5 conductances_, aI qcapacities ca 5 capacities_, aI qrowWaters ca 6 rowWaters_, aI qrowDamps ca 6 rowDamps_] H → va_D A [oc_Model qa0 u7_0 volume_ share_ qnow qkept qbooks qkeptBooks layers_ qconductances qcapacities kilograms_ rows_ qrowDamps qrowWaters qtold qlows qhighs qrates hours_ qriskRows qlevels qpointsOf qsums rules_ qruleKinds qruleLevels qholds qalarms qalarmHours qvalues qchecked qrights, aJ qnow ca 12 now_, aJ qkept ca 12 kept_L37, aJ qbooks ca 10 books_, aJ qkeptBooks ca 10 keptBooks_L67, aZ qtold ca 4 (upd told_ (0 : Int32).toNatClampNeg (vp_nar .boolean (1 : Int32))), aI qlows ca 4 lows_, aI qhighs ca 4 highs_, aI qrates ca 4 rates_, aI qconductances ca 5 conductances_, aI qcapacities ca 5 capacities_, aI qrowWaters ca 6 rowWaters_, aI qrowDamps ca 6 rowDamps_] → va_S A s.heap H locs → lv_has ls 15 [(0, .ref qa0), (1, .int x1), (2, .int x2), (3, .int x3), (4, .int (told_ (0 : Int32).toNatClampNeg)), (5, .int (lows_ (0 : Int32).toNatClampNeg)), (6, .int (highs_ (0 : Int32).toNatClampNeg)), (7, .int (rates_ (0 : Int32).toNatClampNeg))] → W p l e rm_Model_plan s m ar below meth c H locs 0 0 Q (F0 m 151 ls [.int j13_0, .int (0 : Int32), .ref qrates]) := by
                    intro H locs ls hP hD hS hl
                    refine va_iast hx hb hK hP hD hS 8 0 rfl rfl h11 nd_Model_plan_151 (fun H locs hP hD hS => ?_)
                    have hP : va_P D vwCl [oc_Model qa0 u7_0 volume_ share_ qnow qkept qbooks qkeptBooks layers_ qconductances qcapacities kilograms_ rows_ qrowDamps qrowWaters qtold qlows qhighs qrates hours_ qriskRows qlevels qpointsOf qsums rules_ qruleKinds qruleLevels qholds qalarms qalarmHours qvalues qchecked qrights, aJ qnow ca 12 now_, aJ qkept ca 12 kept_L37, aJ qbooks ca 10 books_, aJ qkeptBooks ca 10 keptBooks_L67, aZ qtold ca 4 (upd told_ (0 : Int32).toNatClampNeg (vp_nar .boolean (1 : Int32))), aI qlows ca 4 lows_, aI qhighs ca 4 highs_, aI qrates ca 4 (upd rates_ (0 : Int32).toNatClampNeg j13_0), aI qconductances ca 5 conductances_, aI qcapacities ca 5 capacities_, aI qrowWaters ca 6 rowWaters_, aI qrowDamps ca 6 rowDamps_] H := hP
                    have hD : va_D A [oc_Model qa0 u7_0 volume_ share_ qnow qkept qbooks qkeptBooks layers_ qconductances qcapacities kilograms_ rows_ qrowDamps qrowWaters qtold qlows qhighs qrates hours_ qriskRows qlevels qpointsOf qsums rules_ qruleKinds qruleLevels qholds qalarms qalarmHours qvalues qchecked qrights, aJ qnow ca 12 now_, aJ qkept ca 12 kept_L37, aJ qbooks ca 10 books_, aJ qkeptBooks ca 10 keptBooks_L67, aZ qtold ca 4 (upd told_ (0 : Int32).toNatClampNeg (vp_nar .boolean (1 : Int32))), aI qlows ca 4 lows_, aI qhighs ca 4 highs_, aI qrates ca 4 (upd rates_ (0 : Int32).toNatClampNeg j13_0), aI qconductances ca 5 conductances_, aI qcapacities ca 5 capacities_, aI qrowWaters ca 6 rowWaters_, aI qrowDamps ca 6 rowDamps_] := hD
                    refine lv_iconst (v := -1) hx hb nd_Model_plan_152 (by decide) ?_
                    refine lv_istore (lv' := [(8, .int (-1 : Int32)), (0, .ref qa0), (1, .int x1), (2, .int x2), (3, .int x3), (4, .int (told_ (0 : Int32).toNatClampNeg)), (5, .int (lows_ (0 : Int32).toNatClampNeg)), (6, .int (highs_ (0 : Int32).toNatClampNeg)), (7, .int (rates_ (0 : Int32).toNatClampNeg))]) hx hb nd_Model_plan_153 hl (by decide) rfl (fun ls hl => ?_)
                    refine lv_lconst (v := 0) hx hb nd_Model_plan_155 (by decide) ?_
                    refine lv_lstore (lv' := [(9, .long (0 : Int64)), (8, .int (-1 : Int32)), (0, .ref qa0), (1, .int x1), (2, .int x2), (3, .int x3), (4, .int (told_ (0 : Int32).toNatClampNeg)), (5, .int (lows_ (0 : Int32).toNatClampNeg)), (6, .int (highs_ (0 : Int32).toNatClampNeg)), (7, .int (rates_ (0 : Int32).toNatClampNeg))]) hx hb nd_Model_plan_156 hl (by decide) rfl (fun ls hl => ?_)
                    refine lv_sipush (v := 18000) hx hb nd_Model_plan_158 (by decide) ?_
                    refine lv_istore (lv' := [(11, .int (18000 : Int32)), (9, .long (0 : Int64)), (8, .int (-1 : Int32)), (0, .ref qa0), (1, .int x1), (2, .int x2), (3, .int x3), (4, .int (told_ (0 : Int32).toNatClampNeg)), (5, .int (lows_ (0 : Int32).toNatClampNeg)), (6, .int (highs_ (0 : Int32).toNatClampNeg)), (7, .int (rates_ (0 : Int32).toNatClampNeg))]) hx hb nd_Model_plan_161 hl (by decide) rfl (fun ls hl => ?_)
                    have hL163 : ∀ (n163 : Nat) (i8_163 : Int32) (i9_163 : Int64) (i11_163 : Int32) (now_L163 : Nat → Int64) (lows_L163 : Nat → Int32) (highs_L163 : Nat → Int32) (books_L163 : Nat → Int64) (H : Heap) (locs : List Loc) (ls : Array Slot), fn_Model_plan_L163 x1 x2 x3 told_ rates_ lows_ highs_ u7_0 kept_L37 keptBooks_L67 j13_0 volume_ share_ layers_ kilograms_ rows_ conductances_ capacities_ rowWaters_ rowDamps_ n163 i8_163 i9_163 i11_163 now_L163 lows_L163 highs_L163 books_L163 = some (R0, R1, R2, R3, R4, R5, R6, R7, R8, R9) → va_P D vwCl [oc_Model qa0 u7_0 volume_ share_ qnow qkept qbooks qkeptBooks layers_ qconductances qcapacities kilograms_ rows_ qrowDamps qrowWaters qtold qlows qhighs qrates hours_ qriskRows qlevels qpointsOf qsums rules_ qruleKinds qruleLevels qholds qalarms qalarmHours qvalues qchecked qrights, aJ qnow ca 12 now_L163, aJ qkept ca 12 kept_L37, aJ qbooks ca 10 books_L163, aJ qkeptBooks ca 10 keptBooks_L67, aZ qtold ca 4 (upd told_ (0 : Int32).toNatClampNeg (vp_nar .boolean (1 : Int32))), aI qlows ca 4 lows_L163, aI qhighs ca 4 highs_L163, aI qrates ca 4 (upd rates_ (0 : Int32).toNatClampNeg j13_0), aI qconductances ca 5 conductances_, aI qcapacities ca 5 capacities_, aI qrowWaters ca 6 rowWaters_, aI qrowDamps ca 6 rowDamps_] H → va_D A [oc_Model qa0 u7_0 volume_ share_ qnow qkept qbooks qkeptBooks layers_ qconductances qcapacities kilograms_ rows_ qrowDamps qrowWaters qtold qlows qhighs qrates hours_ qriskRows qlevels qpointsOf qsums rules_ qruleKinds qruleLevels qholds qalarms qalarmHours qvalues qchecked qrights, aJ qnow ca 12 now_L163, aJ qkept ca 12 kept_L37, aJ qbooks ca 10 books_L163, aJ qkeptBooks ca 10 keptBooks_L67, aZ qtold ca 4 (upd told_ (0 : Int32).toNatClampNeg (vp_nar .boolean (1 : Int32))), aI qlows ca 4 lows_L163, aI qhighs ca 4 highs_L163, aI qrates ca 4 (upd rates_ (0 : Int32).toNatClampNeg j13_0), aI qconductances ca 5 conductances_, aI qcapacities ca 5 capacities_, aI qrowWaters ca 6 rowWaters_, aI qrowDamps ca 6 rowDamps_] → va_S A s.heap H locs → lv_has ls 15 [(0, .ref qa0), (1, .int x1), (2, .int x2), (3, .int x3), (4, .int (told_ (0 : Int32).toNatClampNeg)), (5, .int (lows_ (0 : Int32).toNatClampNeg)), (6, .int (highs_ (0 : Int32).toNatClampNeg)), (7, .int (rates_ (0 : Int32).toNatClampNeg)), (8, .int i8_163), (9, .long i9_163), (11, .int i11_163)] → W p l e rm_Model_plan s m ar below meth c H locs 0 0 Q (F0 m 163 ls []) := by
                      intro n163
                      induction n163 with
                      | zero => intro i8_163 i9_163 i11_163 now_L163 lows_L163 highs_L163 books_L163 H locs ls hR; exact nomatch hR
                      | succ n163 ih163 =>
                        intro i8_163 i9_163 i11_163 now_L163 lows_L163 highs_L163 books_L163 H locs ls hR hP hD hS hl
                        rw [fn_Model_plan_L163] at hR
                        refine lv_iload hx hb nd_Model_plan_163 (lv_at hl 10 rfl) ?_
                        refine lv_sipush (v := 22000) hx hb nd_Model_plan_165 (by decide) ?_
                        refine lv_icmp_gt (tgt := 240) hx hb nd_Model_plan_168 (by decide) (fun c14 => ?_) (fun c14 => ?_)
                        · replace hR := q_p c14 hR
                          refine lv_iconst (v := 0) hx hb nd_Model_plan_240 (by decide) ?_
                          refine lv_istore (lv' := [(11, .int (0 : Int32)), (0, .ref qa0), (1, .int x1), (2, .int x2), (3, .int x3), (4, .int (told_ (0 : Int32).toNatClampNeg)), (5, .int (lows_ (0 : Int32).toNatClampNeg)), (6, .int (highs_ (0 : Int32).toNatClampNeg)), (7, .int (rates_ (0 : Int32).toNatClampNeg)), (8, .int i8_163), (9, .long i9_163)]) hx hb nd_Model_plan_241 hl (by decide) rfl (fun ls hl => ?_)
                          have hL243 : ∀ (n243 : Nat) (i11_243 : Int32) (now_L243 : Nat → Int64) (H : Heap) (locs : List Loc) (ls : Array Slot), fn_Model_plan_L243 told_ rates_ lows_ highs_ u7_0 kept_L37 keptBooks_L67 j13_0 i8_163 lows_L163 highs_L163 books_L163 n243 i11_243 now_L243 = some (R0, R1, R2, R3, R4, R5, R6, R7, R8, R9) → va_P D vwCl [oc_Model qa0 u7_0 volume_ share_ qnow qkept qbooks qkeptBooks layers_ qconductances qcapacities kilograms_ rows_ qrowDamps qrowWaters qtold qlows qhighs qrates hours_ qriskRows qlevels qpointsOf qsums rules_ qruleKinds qruleLevels qholds qalarms qalarmHours qvalues qchecked qrights, aJ qnow ca 12 now_L243, aJ qkept ca 12 kept_L37, aJ qbooks ca 10 books_L163, aJ qkeptBooks ca 10 keptBooks_L67, aZ qtold ca 4 (upd told_ (0 : Int32).toNatClampNeg (vp_nar .boolean (1 : Int32))), aI qlows ca 4 lows_L163, aI qhighs ca 4 highs_L163, aI qrates ca 4 (upd rates_ (0 : Int32).toNatClampNeg j13_0), aI qconductances ca 5 conductances_, aI qcapacities ca 5 capacities_, aI qrowWaters ca 6 rowWaters_, aI qrowDamps ca 6 rowDamps_] H → va_D A [oc_Model qa0 u7_0 volume_ share_ qnow qkept qbooks qkeptBooks layers_ qconductances qcapacities kilograms_ rows_ qrowDamps qrowWaters qtold qlows qhighs qrates hours_ qriskRows qlevels qpointsOf qsums rules_ qruleKinds qruleLevels qholds qalarms qalarmHours qvalues qchecked qrights, aJ qnow ca 12 now_L243, aJ qkept ca 12 kept_L37, aJ qbooks ca 10 books_L163, aJ qkeptBooks ca 10 keptBooks_L67, aZ qtold ca 4 (upd told_ (0 : Int32).toNatClampNeg (vp_nar .boolean (1 : Int32))), aI qlows ca 4 lows_L163, aI qhighs ca 4 highs_L163, aI qrates ca 4 (upd rates_ (0 : Int32).toNatClampNeg j13_0), aI qconductances ca 5 conductances_, aI qcapacities ca 5 capacities_, aI qrowWaters ca 6 rowWaters_, aI qrowDamps ca 6 rowDamps_] → va_S A s.heap H locs → lv_has ls 15 [(0, .ref qa0), (1, .int x1), (2, .int x2), (3, .int x3), (4, .int (told_ (0 : Int32).toNatClampNeg)), (5, .int (lows_ (0 : Int32).toNatClampNeg)), (6, .int (highs_ (0 : Int32).toNatClampNeg)), (7, .int (rates_ (0 : Int32).toNatClampNeg)), (8, .int i8_163), (9, .long i9_163), (11, .int i11_243)] → W p l e rm_Model_plan s m ar below meth c H locs 0 0 Q (F0 m 243 ls []) := by
                            intro n243
                            induction n243 with
                            | zero => intro i11_243 now_L243 H locs ls hR; exact nomatch hR
                            | succ n243 ih243 =>
                              intro i11_243 now_L243 H locs ls hR hP hD hS hl
                              rw [fn_Model_plan_L243] at hR
                              refine lv_iload hx hb nd_Model_plan_243 (lv_at hl 10 rfl) ?_
                              refine lv_bipush (v := 12) hx hb nd_Model_plan_245 (by decide) ?_
                              refine lv_icmp_ge (tgt := 270) hx hb nd_Model_plan_247 (by decide) (fun c15 => ?_) (fun c15 => ?_)
                              · replace hR := q_p c15 hR
                                refine lv_iconst (v := 0) hx hb nd_Model_plan_270 (by decide) ?_
                                refine lv_istore (lv' := [(11, .int (0 : Int32)), (0, .ref qa0), (1, .int x1), (2, .int x2), (3, .int x3), (4, .int (told_ (0 : Int32).toNatClampNeg)), (5, .int (lows_ (0 : Int32).toNatClampNeg)), (6, .int (highs_ (0 : Int32).toNatClampNeg)), (7, .int (rates_ (0 : Int32).toNatClampNeg)), (8, .int i8_163), (9, .long i9_163)]) hx hb nd_Model_plan_271 hl (by decide) rfl (fun ls hl => ?_)
                                have hL273 : ∀ (n273 : Nat) (i11_273 : Int32) (books_L273 : Nat → Int64) (H : Heap) (locs : List Loc) (ls : Array Slot), fn_Model_plan_L273 told_ rates_ lows_ highs_ u7_0 kept_L37 keptBooks_L67 j13_0 i8_163 lows_L163 highs_L163 now_L243 n273 i11_273 books_L273 = some (R0, R1, R2, R3, R4, R5, R6, R7, R8, R9) → va_P D vwCl [oc_Model qa0 u7_0 volume_ share_ qnow qkept qbooks qkeptBooks layers_ qconductances qcapacities kilograms_ rows_ qrowDamps qrowWaters qtold qlows qhighs qrates hours_ qriskRows qlevels qpointsOf qsums rules_ qruleKinds qruleLevels qholds qalarms qalarmHours qvalues qchecked qrights, aJ qnow ca 12 now_L243, aJ qkept ca 12 kept_L37, aJ qbooks ca 10 books_L273, aJ qkeptBooks ca 10 keptBooks_L67, aZ qtold ca 4 (upd told_ (0 : Int32).toNatClampNeg (vp_nar .boolean (1 : Int32))), aI qlows ca 4 lows_L163, aI qhighs ca 4 highs_L163, aI qrates ca 4 (upd rates_ (0 : Int32).toNatClampNeg j13_0), aI qconductances ca 5 conductances_, aI qcapacities ca 5 capacities_, aI qrowWaters ca 6 rowWaters_, aI qrowDamps ca 6 rowDamps_] H → va_D A [oc_Model qa0 u7_0 volume_ share_ qnow qkept qbooks qkeptBooks layers_ qconductances qcapacities kilograms_ rows_ qrowDamps qrowWaters qtold qlows qhighs qrates hours_ qriskRows qlevels qpointsOf qsums rules_ qruleKinds qruleLevels qholds qalarms qalarmHours qvalues qchecked qrights, aJ qnow ca 12 now_L243, aJ qkept ca 12 kept_L37, aJ qbooks ca 10 books_L273, aJ qkeptBooks ca 10 keptBooks_L67, aZ qtold ca 4 (upd told_ (0 : Int32).toNatClampNeg (vp_nar .boolean (1 : Int32))), aI qlows ca 4 lows_L163, aI qhighs ca 4 highs_L163, aI qrates ca 4 (upd rates_ (0 : Int32).toNatClampNeg j13_0), aI qconductances ca 5 conductances_, aI qcapacities ca 5 capacities_, aI qrowWaters ca 6 rowWaters_, aI qrowDamps ca 6 rowDamps_] → va_S A s.heap H locs → lv_has ls 15 [(0, .ref qa0), (1, .int x1), (2, .int x2), (3, .int x3), (4, .int (told_ (0 : Int32).toNatClampNeg)), (5, .int (lows_ (0 : Int32).toNatClampNeg)), (6, .int (highs_ (0 : Int32).toNatClampNeg)), (7, .int (rates_ (0 : Int32).toNatClampNeg)), (8, .int i8_163), (9, .long i9_163), (11, .int i11_273)] → W p l e rm_Model_plan s m ar below meth c H locs 0 0 Q (F0 m 273 ls []) := by
                                  intro n273
                                  induction n273 with
                                  | zero => intro i11_273 books_L273 H locs ls hR; exact nomatch hR
                                  | succ n273 ih273 =>
                                    intro i11_273 books_L273 H locs ls hR hP hD hS hl
                                    rw [fn_Model_plan_L273] at hR
                                    refine lv_iload hx hb nd_Model_plan_273 (lv_at hl 10 rfl) ?_
                                    refine lv_bipush (v := 10) hx hb nd_Model_plan_275 (by decide) ?_
                                    refine lv_icmp_ge (tgt := 300) hx hb nd_Model_plan_277 (by decide) (fun c16 => ?_) (fun c16 => ?_)
                                    · replace hR := q_p c16 hR
                                      refine lv_aload_n hx hb nd_Model_plan_300 rfl (lv_at hl 0 rfl) ?_
                                      refine va_get (D := D) (ci := 9) (v := .ref qtold) (C := nR_Model) (T := nT_Model) (N := 32) hx hb hts ni_Model hown hK hP 0 rfl rfl 14 (by decide) (hts (.fieldLink nR_Model 42 "RoomClimateModel" "told" "[Z") tt_737) (fun _ h9 => h9) rfl nd_Model_plan_301 ?_
                                      refine lv_iconst (v := 0) hx hb nd_Model_plan_304 (by decide) ?_
                                      refine lv_iload hx hb nd_Model_plan_305 (lv_at hl 4 rfl) ?_
                                      obtain ⟨h17, hR⟩ := q_ix hR
                                      refine va_zast hx hb hK hP hD hS 5 2 rfl rfl h17 nd_Model_plan_307 (fun H locs hP hD hS => ?_)
                                      have hP : va_P D vwCl [oc_Model qa0 u7_0 volume_ share_ qnow qkept qbooks qkeptBooks layers_ qconductances qcapacities kilograms_ rows_ qrowDamps qrowWaters qtold qlows qhighs qrates hours_ qriskRows qlevels qpointsOf qsums rules_ qruleKinds qruleLevels qholds qalarms qalarmHours qvalues qchecked qrights, aJ qnow ca 12 now_L243, aJ qkept ca 12 kept_L37, aJ qbooks ca 10 books_L273, aJ qkeptBooks ca 10 keptBooks_L67, aZ qtold ca 4 (upd (upd told_ (0 : Int32).toNatClampNeg (vp_nar .boolean (1 : Int32))) (0 : Int32).toNatClampNeg (vp_nar .boolean (told_ (0 : Int32).toNatClampNeg))), aI qlows ca 4 lows_L163, aI qhighs ca 4 highs_L163, aI qrates ca 4 (upd rates_ (0 : Int32).toNatClampNeg j13_0), aI qconductances ca 5 conductances_, aI qcapacities ca 5 capacities_, aI qrowWaters ca 6 rowWaters_, aI qrowDamps ca 6 rowDamps_] H := hP
                                      have hD : va_D A [oc_Model qa0 u7_0 volume_ share_ qnow qkept qbooks qkeptBooks layers_ qconductances qcapacities kilograms_ rows_ qrowDamps qrowWaters qtold qlows qhighs qrates hours_ qriskRows qlevels qpointsOf qsums rules_ qruleKinds qruleLevels qholds qalarms qalarmHours qvalues qchecked qrights, aJ qnow ca 12 now_L243, aJ qkept ca 12 kept_L37, aJ qbooks ca 10 books_L273, aJ qkeptBooks ca 10 keptBooks_L67, aZ qtold ca 4 (upd (upd told_ (0 : Int32).toNatClampNeg (vp_nar .boolean (1 : Int32))) (0 : Int32).toNatClampNeg (vp_nar .boolean (told_ (0 : Int32).toNatClampNeg))), aI qlows ca 4 lows_L163, aI qhighs ca 4 highs_L163, aI qrates ca 4 (upd rates_ (0 : Int32).toNatClampNeg j13_0), aI qconductances ca 5 conductances_, aI qcapacities ca 5 capacities_, aI qrowWaters ca 6 rowWaters_, aI qrowDamps ca 6 rowDamps_] := hD
                                      refine lv_aload_n hx hb nd_Model_plan_308 rfl (lv_at hl 0 rfl) ?_
                                      refine va_get (D := D) (ci := 9) (v := .ref qlows) (C := nR_Model) (T := nT_Model) (N := 32) hx hb hts ni_Model hown hK hP 0 rfl rfl 15 (by decide) (hts (.fieldLink nR_Model 46 "RoomClimateModel" "lows" "[I") tt_738) (fun _ h9 => h9) rfl nd_Model_plan_309 ?_
                                      refine lv_iconst (v := 0) hx hb nd_Model_plan_312 (by decide) ?_
                                      refine lv_iload hx hb nd_Model_plan_313 (lv_at hl 5 rfl) ?_
                                      refine va_iast hx hb hK hP hD hS 6 0 rfl rfl h17 nd_Model_plan_315 (fun H locs hP hD hS => ?_)
                                      have hP : va_P D vwCl [oc_Model qa0 u7_0 volume_ share_ qnow qkept qbooks qkeptBooks layers_ qconductances qcapacities kilograms_ rows_ qrowDamps qrowWaters qtold qlows qhighs qrates hours_ qriskRows qlevels qpointsOf qsums rules_ qruleKinds qruleLevels qholds qalarms qalarmHours qvalues qchecked qrights, aJ qnow ca 12 now_L243, aJ qkept ca 12 kept_L37, aJ qbooks ca 10 books_L273, aJ qkeptBooks ca 10 keptBooks_L67, aZ qtold ca 4 (upd (upd told_ (0 : Int32).toNatClampNeg (vp_nar .boolean (1 : Int32))) (0 : Int32).toNatClampNeg (vp_nar .boolean (told_ (0 : Int32).toNatClampNeg))), aI qlows ca 4 (upd lows_L163 (0 : Int32).toNatClampNeg (lows_ (0 : Int32).toNatClampNeg)), aI qhighs ca 4 highs_L163, aI qrates ca 4 (upd rates_ (0 : Int32).toNatClampNeg j13_0), aI qconductances ca 5 conductances_, aI qcapacities ca 5 capacities_, aI qrowWaters ca 6 rowWaters_, aI qrowDamps ca 6 rowDamps_] H := hP
                                      have hD : va_D A [oc_Model qa0 u7_0 volume_ share_ qnow qkept qbooks qkeptBooks layers_ qconductances qcapacities kilograms_ rows_ qrowDamps qrowWaters qtold qlows qhighs qrates hours_ qriskRows qlevels qpointsOf qsums rules_ qruleKinds qruleLevels qholds qalarms qalarmHours qvalues qchecked qrights, aJ qnow ca 12 now_L243, aJ qkept ca 12 kept_L37, aJ qbooks ca 10 books_L273, aJ qkeptBooks ca 10 keptBooks_L67, aZ qtold ca 4 (upd (upd told_ (0 : Int32).toNatClampNeg (vp_nar .boolean (1 : Int32))) (0 : Int32).toNatClampNeg (vp_nar .boolean (told_ (0 : Int32).toNatClampNeg))), aI qlows ca 4 (upd lows_L163 (0 : Int32).toNatClampNeg (lows_ (0 : Int32).toNatClampNeg)), aI qhighs ca 4 highs_L163, aI qrates ca 4 (upd rates_ (0 : Int32).toNatClampNeg j13_0), aI qconductances ca 5 conductances_, aI qcapacities ca 5 capacities_, aI qrowWaters ca 6 rowWaters_, aI qrowDamps ca 6 rowDamps_] := hD
                                      refine lv_aload_n hx hb nd_Model_plan_316 rfl (lv_at hl 0 rfl) ?_
                                      refine va_get (D := D) (ci := 9) (v := .ref qhighs) (C := nR_Model) (T := nT_Model) (N := 32) hx hb hts ni_Model hown hK hP 0 rfl rfl 16 (by decide) (hts (.fieldLink nR_Model 49 "RoomClimateModel" "highs" "[I") tt_739) (fun _ h9 => h9) rfl nd_Model_plan_317 ?_
                                      refine lv_iconst (v := 0) hx hb nd_Model_plan_320 (by decide) ?_
                                      refine lv_iload hx hb nd_Model_plan_321 (lv_at hl 6 rfl) ?_
                                      refine va_iast hx hb hK hP hD hS 7 0 rfl rfl h17 nd_Model_plan_323 (fun H locs hP hD hS => ?_)
                                      have hP : va_P D vwCl [oc_Model qa0 u7_0 volume_ share_ qnow qkept qbooks qkeptBooks layers_ qconductances qcapacities kilograms_ rows_ qrowDamps qrowWaters qtold qlows qhighs qrates hours_ qriskRows qlevels qpointsOf qsums rules_ qruleKinds qruleLevels qholds qalarms qalarmHours qvalues qchecked qrights, aJ qnow ca 12 now_L243, aJ qkept ca 12 kept_L37, aJ qbooks ca 10 books_L273, aJ qkeptBooks ca 10 keptBooks_L67, aZ qtold ca 4 (upd (upd told_ (0 : Int32).toNatClampNeg (vp_nar .boolean (1 : Int32))) (0 : Int32).toNatClampNeg (vp_nar .boolean (told_ (0 : Int32).toNatClampNeg))), aI qlows ca 4 (upd lows_L163 (0 : Int32).toNatClampNeg (lows_ (0 : Int32).toNatClampNeg)), aI qhighs ca 4 (upd highs_L163 (0 : Int32).toNatClampNeg (highs_ (0 : Int32).toNatClampNeg)), aI qrates ca 4 (upd rates_ (0 : Int32).toNatClampNeg j13_0), aI qconductances ca 5 conductances_, aI qcapacities ca 5 capacities_, aI qrowWaters ca 6 rowWaters_, aI qrowDamps ca 6 rowDamps_] H := hP
                                      have hD : va_D A [oc_Model qa0 u7_0 volume_ share_ qnow qkept qbooks qkeptBooks layers_ qconductances qcapacities kilograms_ rows_ qrowDamps qrowWaters qtold qlows qhighs qrates hours_ qriskRows qlevels qpointsOf qsums rules_ qruleKinds qruleLevels qholds qalarms qalarmHours qvalues qchecked qrights, aJ qnow ca 12 now_L243, aJ qkept ca 12 kept_L37, aJ qbooks ca 10 books_L273, aJ qkeptBooks ca 10 keptBooks_L67, aZ qtold ca 4 (upd (upd told_ (0 : Int32).toNatClampNeg (vp_nar .boolean (1 : Int32))) (0 : Int32).toNatClampNeg (vp_nar .boolean (told_ (0 : Int32).toNatClampNeg))), aI qlows ca 4 (upd lows_L163 (0 : Int32).toNatClampNeg (lows_ (0 : Int32).toNatClampNeg)), aI qhighs ca 4 (upd highs_L163 (0 : Int32).toNatClampNeg (highs_ (0 : Int32).toNatClampNeg)), aI qrates ca 4 (upd rates_ (0 : Int32).toNatClampNeg j13_0), aI qconductances ca 5 conductances_, aI qcapacities ca 5 capacities_, aI qrowWaters ca 6 rowWaters_, aI qrowDamps ca 6 rowDamps_] := hD
                                      refine lv_aload_n hx hb nd_Model_plan_324 rfl (lv_at hl 0 rfl) ?_
                                      refine va_get (D := D) (ci := 9) (v := .ref qrates) (C := nR_Model) (T := nT_Model) (N := 32) hx hb hts ni_Model hown hK hP 0 rfl rfl 17 (by decide) (hts (.fieldLink nR_Model 52 "RoomClimateModel" "rates" "[I") tt_740) (fun _ h9 => h9) rfl nd_Model_plan_325 ?_
                                      refine lv_iconst (v := 0) hx hb nd_Model_plan_328 (by decide) ?_
                                      refine lv_iload hx hb nd_Model_plan_329 (lv_at hl 7 rfl) ?_
                                      refine va_iast hx hb hK hP hD hS 8 0 rfl rfl h17 nd_Model_plan_331 (fun H locs hP hD hS => ?_)
                                      have hP : va_P D vwCl [oc_Model qa0 u7_0 volume_ share_ qnow qkept qbooks qkeptBooks layers_ qconductances qcapacities kilograms_ rows_ qrowDamps qrowWaters qtold qlows qhighs qrates hours_ qriskRows qlevels qpointsOf qsums rules_ qruleKinds qruleLevels qholds qalarms qalarmHours qvalues qchecked qrights, aJ qnow ca 12 now_L243, aJ qkept ca 12 kept_L37, aJ qbooks ca 10 books_L273, aJ qkeptBooks ca 10 keptBooks_L67, aZ qtold ca 4 (upd (upd told_ (0 : Int32).toNatClampNeg (vp_nar .boolean (1 : Int32))) (0 : Int32).toNatClampNeg (vp_nar .boolean (told_ (0 : Int32).toNatClampNeg))), aI qlows ca 4 (upd lows_L163 (0 : Int32).toNatClampNeg (lows_ (0 : Int32).toNatClampNeg)), aI qhighs ca 4 (upd highs_L163 (0 : Int32).toNatClampNeg (highs_ (0 : Int32).toNatClampNeg)), aI qrates ca 4 (upd (upd rates_ (0 : Int32).toNatClampNeg j13_0) (0 : Int32).toNatClampNeg (rates_ (0 : Int32).toNatClampNeg)), aI qconductances ca 5 conductances_, aI qcapacities ca 5 capacities_, aI qrowWaters ca 6 rowWaters_, aI qrowDamps ca 6 rowDamps_] H := hP
                                      have hD : va_D A [oc_Model qa0 u7_0 volume_ share_ qnow qkept qbooks qkeptBooks layers_ qconductances qcapacities kilograms_ rows_ qrowDamps qrowWaters qtold qlows qhighs qrates hours_ qriskRows qlevels qpointsOf qsums rules_ qruleKinds qruleLevels qholds qalarms qalarmHours qvalues qchecked qrights, aJ qnow ca 12 now_L243, aJ qkept ca 12 kept_L37, aJ qbooks ca 10 books_L273, aJ qkeptBooks ca 10 keptBooks_L67, aZ qtold ca 4 (upd (upd told_ (0 : Int32).toNatClampNeg (vp_nar .boolean (1 : Int32))) (0 : Int32).toNatClampNeg (vp_nar .boolean (told_ (0 : Int32).toNatClampNeg))), aI qlows ca 4 (upd lows_L163 (0 : Int32).toNatClampNeg (lows_ (0 : Int32).toNatClampNeg)), aI qhighs ca 4 (upd highs_L163 (0 : Int32).toNatClampNeg (highs_ (0 : Int32).toNatClampNeg)), aI qrates ca 4 (upd (upd rates_ (0 : Int32).toNatClampNeg j13_0) (0 : Int32).toNatClampNeg (rates_ (0 : Int32).toNatClampNeg)), aI qconductances ca 5 conductances_, aI qcapacities ca 5 capacities_, aI qrowWaters ca 6 rowWaters_, aI qrowDamps ca 6 rowDamps_] := hD
                                      refine lv_iload hx hb nd_Model_plan_332 (lv_at hl 8 rfl) ?_
                                      exact hret (i8_163, u7_0, kept_L37, keptBooks_L67, upd (upd told_ (0 : Int32).toNatClampNeg (vp_nar .boolean (1 : Int32))) (0 : Int32).toNatClampNeg (vp_nar .boolean (told_ (0 : Int32).toNatClampNeg)), upd (upd rates_ (0 : Int32).toNatClampNeg j13_0) (0 : Int32).toNatClampNeg (rates_ (0 : Int32).toNatClampNeg), now_L243, upd lows_L163 (0 : Int32).toNatClampNeg (lows_ (0 : Int32).toNatClampNeg), upd highs_L163 (0 : Int32).toNatClampNeg (highs_ (0 : Int32).toNatClampNeg), books_L273) _ _ _ _ nd_Model_plan_334 hR hP hD hS
                                    · replace hR := q_n c16 hR
                                      refine lv_aload_n hx hb nd_Model_plan_280 rfl (lv_at hl 0 rfl) ?_
                                      refine va_get (D := D) (ci := 9) (v := .ref qbooks) (C := nR_Model) (T := nT_Model) (N := 32) hx hb hts ni_Model hown hK hP 0 rfl rfl 5 (by decide) (hts (.fieldLink nR_Model 23 "RoomClimateModel" "books" "[J") tt_728) (fun _ h9 => h9) rfl nd_Model_plan_281 ?_
                                      refine lv_iload hx hb nd_Model_plan_284 (lv_at hl 10 rfl) ?_
                                      refine lv_aload_n hx hb nd_Model_plan_286 rfl (lv_at hl 0 rfl) ?_
                                      refine va_get (D := D) (ci := 9) (v := .ref qkeptBooks) (C := nR_Model) (T := nT_Model) (N := 32) hx hb hts ni_Model hown hK hP 0 rfl rfl 6 (by decide) (hts (.fieldLink nR_Model 26 "RoomClimateModel" "keptBooks" "[J") tt_729) (fun _ h9 => h9) rfl nd_Model_plan_287 ?_
                                      refine lv_iload hx hb nd_Model_plan_290 (lv_at hl 10 rfl) ?_
                                      obtain ⟨h18, hR⟩ := q_ix hR
                                      refine va_lald hx hb hK hP 4 1 rfl rfl h18 nd_Model_plan_292 ?_
                                      refine va_last hx hb hK hP hD hS 3 1 rfl rfl h18 nd_Model_plan_293 (fun H locs hP hD hS => ?_)
                                      have hP : va_P D vwCl [oc_Model qa0 u7_0 volume_ share_ qnow qkept qbooks qkeptBooks layers_ qconductances qcapacities kilograms_ rows_ qrowDamps qrowWaters qtold qlows qhighs qrates hours_ qriskRows qlevels qpointsOf qsums rules_ qruleKinds qruleLevels qholds qalarms qalarmHours qvalues qchecked qrights, aJ qnow ca 12 now_L243, aJ qkept ca 12 kept_L37, aJ qbooks ca 10 (vp_updL books_L273 i11_273.toNatClampNeg (keptBooks_L67 i11_273.toNatClampNeg)), aJ qkeptBooks ca 10 keptBooks_L67, aZ qtold ca 4 (upd told_ (0 : Int32).toNatClampNeg (vp_nar .boolean (1 : Int32))), aI qlows ca 4 lows_L163, aI qhighs ca 4 highs_L163, aI qrates ca 4 (upd rates_ (0 : Int32).toNatClampNeg j13_0), aI qconductances ca 5 conductances_, aI qcapacities ca 5 capacities_, aI qrowWaters ca 6 rowWaters_, aI qrowDamps ca 6 rowDamps_] H := hP
                                      have hD : va_D A [oc_Model qa0 u7_0 volume_ share_ qnow qkept qbooks qkeptBooks layers_ qconductances qcapacities kilograms_ rows_ qrowDamps qrowWaters qtold qlows qhighs qrates hours_ qriskRows qlevels qpointsOf qsums rules_ qruleKinds qruleLevels qholds qalarms qalarmHours qvalues qchecked qrights, aJ qnow ca 12 now_L243, aJ qkept ca 12 kept_L37, aJ qbooks ca 10 (vp_updL books_L273 i11_273.toNatClampNeg (keptBooks_L67 i11_273.toNatClampNeg)), aJ qkeptBooks ca 10 keptBooks_L67, aZ qtold ca 4 (upd told_ (0 : Int32).toNatClampNeg (vp_nar .boolean (1 : Int32))), aI qlows ca 4 lows_L163, aI qhighs ca 4 highs_L163, aI qrates ca 4 (upd rates_ (0 : Int32).toNatClampNeg j13_0), aI qconductances ca 5 conductances_, aI qcapacities ca 5 capacities_, aI qrowWaters ca 6 rowWaters_, aI qrowDamps ca 6 rowDamps_] := hD
                                      refine lv_iinc (v := i11_273 + 1) (lv' := [(11, .int (i11_273 + 1)), (0, .ref qa0), (1, .int x1), (2, .int x2), (3, .int x3), (4, .int (told_ (0 : Int32).toNatClampNeg)), (5, .int (lows_ (0 : Int32).toNatClampNeg)), (6, .int (highs_ (0 : Int32).toNatClampNeg)), (7, .int (rates_ (0 : Int32).toNatClampNeg)), (8, .int i8_163), (9, .long i9_163)]) hx hb nd_Model_plan_294 hl (k := 10) rfl (by first | rfl | decide) (by decide) rfl (fun ls hl => ?_)
                                      refine lv_goto (tgt := 273) hx hb nd_Model_plan_297 (by decide) ?_
                                      exact ih273 (i11_273 + 1) (vp_updL books_L273 i11_273.toNatClampNeg (keptBooks_L67 i11_273.toNatClampNeg)) _ _ _ hR hP hD hS (lv_sub hl [1, 2, 3, 4, 5, 6, 7, 8, 9, 10, 0] rfl)
                                exact hL273 400 (0 : Int32) books_L163 _ _ _ hR hP hD hS (lv_sub hl [1, 2, 3, 4, 5, 6, 7, 8, 9, 10, 0] rfl)
                              · replace hR := q_n c15 hR
                                refine lv_aload_n hx hb nd_Model_plan_250 rfl (lv_at hl 0 rfl) ?_
                                refine va_get (D := D) (ci := 9) (v := .ref qnow) (C := nR_Model) (T := nT_Model) (N := 32) hx hb hts ni_Model hown hK hP 0 rfl rfl 3 (by decide) (hts (.fieldLink nR_Model 16 "RoomClimateModel" "now" "[J") tt_726) (fun _ h9 => h9) rfl nd_Model_plan_251 ?_
                                refine lv_iload hx hb nd_Model_plan_254 (lv_at hl 10 rfl) ?_
                                refine lv_aload_n hx hb nd_Model_plan_256 rfl (lv_at hl 0 rfl) ?_
                                refine va_get (D := D) (ci := 9) (v := .ref qkept) (C := nR_Model) (T := nT_Model) (N := 32) hx hb hts ni_Model hown hK hP 0 rfl rfl 4 (by decide) (hts (.fieldLink nR_Model 20 "RoomClimateModel" "kept" "[J") tt_727) (fun _ h9 => h9) rfl nd_Model_plan_257 ?_
                                refine lv_iload hx hb nd_Model_plan_260 (lv_at hl 10 rfl) ?_
                                obtain ⟨h19, hR⟩ := q_ix hR
                                refine va_lald hx hb hK hP 2 1 rfl rfl h19 nd_Model_plan_262 ?_
                                refine va_last hx hb hK hP hD hS 1 1 rfl rfl h19 nd_Model_plan_263 (fun H locs hP hD hS => ?_)
                                have hP : va_P D vwCl [oc_Model qa0 u7_0 volume_ share_ qnow qkept qbooks qkeptBooks layers_ qconductances qcapacities kilograms_ rows_ qrowDamps qrowWaters qtold qlows qhighs qrates hours_ qriskRows qlevels qpointsOf qsums rules_ qruleKinds qruleLevels qholds qalarms qalarmHours qvalues qchecked qrights, aJ qnow ca 12 (vp_updL now_L243 i11_243.toNatClampNeg (kept_L37 i11_243.toNatClampNeg)), aJ qkept ca 12 kept_L37, aJ qbooks ca 10 books_L163, aJ qkeptBooks ca 10 keptBooks_L67, aZ qtold ca 4 (upd told_ (0 : Int32).toNatClampNeg (vp_nar .boolean (1 : Int32))), aI qlows ca 4 lows_L163, aI qhighs ca 4 highs_L163, aI qrates ca 4 (upd rates_ (0 : Int32).toNatClampNeg j13_0), aI qconductances ca 5 conductances_, aI qcapacities ca 5 capacities_, aI qrowWaters ca 6 rowWaters_, aI qrowDamps ca 6 rowDamps_] H := hP
                                have hD : va_D A [oc_Model qa0 u7_0 volume_ share_ qnow qkept qbooks qkeptBooks layers_ qconductances qcapacities kilograms_ rows_ qrowDamps qrowWaters qtold qlows qhighs qrates hours_ qriskRows qlevels qpointsOf qsums rules_ qruleKinds qruleLevels qholds qalarms qalarmHours qvalues qchecked qrights, aJ qnow ca 12 (vp_updL now_L243 i11_243.toNatClampNeg (kept_L37 i11_243.toNatClampNeg)), aJ qkept ca 12 kept_L37, aJ qbooks ca 10 books_L163, aJ qkeptBooks ca 10 keptBooks_L67, aZ qtold ca 4 (upd told_ (0 : Int32).toNatClampNeg (vp_nar .boolean (1 : Int32))), aI qlows ca 4 lows_L163, aI qhighs ca 4 highs_L163, aI qrates ca 4 (upd rates_ (0 : Int32).toNatClampNeg j13_0), aI qconductances ca 5 conductances_, aI qcapacities ca 5 capacities_, aI qrowWaters ca 6 rowWaters_, aI qrowDamps ca 6 rowDamps_] := hD
                                refine lv_iinc (v := i11_243 + 1) (lv' := [(11, .int (i11_243 + 1)), (0, .ref qa0), (1, .int x1), (2, .int x2), (3, .int x3), (4, .int (told_ (0 : Int32).toNatClampNeg)), (5, .int (lows_ (0 : Int32).toNatClampNeg)), (6, .int (highs_ (0 : Int32).toNatClampNeg)), (7, .int (rates_ (0 : Int32).toNatClampNeg)), (8, .int i8_163), (9, .long i9_163)]) hx hb nd_Model_plan_264 hl (k := 10) rfl (by first | rfl | decide) (by decide) rfl (fun ls hl => ?_)
                                refine lv_goto (tgt := 243) hx hb nd_Model_plan_267 (by decide) ?_
                                exact ih243 (i11_243 + 1) (vp_updL now_L243 i11_243.toNatClampNeg (kept_L37 i11_243.toNatClampNeg)) _ _ _ hR hP hD hS (lv_sub hl [1, 2, 3, 4, 5, 6, 7, 8, 9, 10, 0] rfl)
                          exact hL243 400 (0 : Int32) now_L163 _ _ _ hR hP hD hS (lv_sub hl [1, 2, 3, 4, 5, 6, 7, 8, 9, 10, 0] rfl)
                        · replace hR := q_n c14 hR
                          refine lv_aload_n hx hb nd_Model_plan_171 rfl (lv_at hl 0 rfl) ?_
                          refine lv_iload hx hb nd_Model_plan_172 (lv_at hl 10 rfl) ?_
                          refine lv_iload_n hx hb nd_Model_plan_174 rfl (lv_at hl 1 rfl) ?_
                          refine lv_iload_n hx hb nd_Model_plan_175 rfl (lv_at hl 2 rfl) ?_
                          refine lv_iload_n hx hb nd_Model_plan_176 rfl (lv_at hl 3 rfl) ?_
                          obtain ⟨r20, u20_0, u20_1, u20_2, u20_3, e20, hR⟩ := q_b5 hR
                          refine k_wVJ (wr := [aJ qkeptBooks ca 10 keptBooks_L67]) (w2 := [oc_Model qa0 u7_0 volume_ share_ qnow qkept qbooks qkeptBooks layers_ qconductances qcapacities kilograms_ rows_ qrowDamps qrowWaters qtold qlows qhighs qrates hours_ qriskRows qlevels qpointsOf qsums rules_ qruleKinds qruleLevels qholds qalarms qalarmHours qvalues qchecked qrights, aJ qnow ca 12 u20_0, aJ qkept ca 12 kept_L37, aJ qbooks ca 10 u20_3, aJ qkeptBooks ca 10 keptBooks_L67, aZ qtold ca 4 (upd told_ (0 : Int32).toNatClampNeg (vp_nar .boolean (1 : Int32))), aI qlows ca 4 u20_1, aI qhighs ca 4 u20_2, aI qrates ca 4 (upd rates_ (0 : Int32).toNatClampNeg j13_0), aI qconductances ca 5 conductances_, aI qcapacities ca 5 capacities_, aI qrowWaters ca 6 rowWaters_, aI qrowDamps ca 6 rowDamps_]) (As := [.int i11_163, .int x1, .int x2, .int x3]) (rest := []) (r := r20) hx hb hml hown hts (cn_Model_tried l D ca qa0 qnow qkept qbooks qkeptBooks qconductances qcapacities qrowDamps qrowWaters qtold qlows qhighs qrates qriskRows qlevels qpointsOf qsums qruleKinds qruleLevels qholds qalarms qalarmHours qvalues qchecked qrights u7_0 volume_ share_ layers_ kilograms_ rows_ hours_ rules_ kept_L37 now_L163 lows_L163 highs_L163 books_L163 conductances_ capacities_ rowWaters_ rowDamps_ (upd told_ (0 : Int32).toNatClampNeg (vp_nar .boolean (1 : Int32))) (upd rates_ (0 : Int32).toNatClampNeg j13_0) i11_163 x1 x2 x3 r20 u20_0 u20_1 u20_2 u20_3 e20 _) kc_Model_tried kv_Model_tried tt_993 ⟨by decide, by decide⟩ rfl rfl hP hK hD hS hA [0, 2, 1, 6, 7, 3, 9, 10, 11, 12, 5, 8] [4] [1, 3, 2, 6, 0, 11, 4, 5, 12, 7, 8, 9, 10] rfl (by decide) rfl (by decide) (by decide) rfl (by decide) 0 rfl rfl rfl rfl hl.1 (Nat.le_of_ble_eq_true rfl) rfl nd_Model_plan_177 ⟨Nat.zero_le _, Nat.zero_le _⟩ (fun H locs hP hD hS => ?_)
                          refine lv_lstore (lv' := [(12, .long r20), (0, .ref qa0), (1, .int x1), (2, .int x2), (3, .int x3), (4, .int (told_ (0 : Int32).toNatClampNeg)), (5, .int (lows_ (0 : Int32).toNatClampNeg)), (6, .int (highs_ (0 : Int32).toNatClampNeg)), (7, .int (rates_ (0 : Int32).toNatClampNeg)), (8, .int i8_163), (9, .long i9_163), (11, .int i11_163)]) hx hb nd_Model_plan_180 hl (by decide) rfl (fun ls hl => ?_)
                          refine lv_iload hx hb nd_Model_plan_182 (lv_at hl 9 rfl) ?_
                          refine lv_iconst (v := -1) hx hb nd_Model_plan_184 (by decide) ?_
                          obtain ⟨j22_0, hJ22, hR⟩ := q_b1 hR
                          have hN22 : ∀ (H : Heap) (locs : List Loc) (ls : Array Slot), va_P D vwCl [oc_Model qa0 u7_0 volume_ share_ qnow qkept qbooks qkeptBooks layers_ qconductances qcapacities kilograms_ rows_ qrowDamps qrowWaters qtold qlows qhighs qrates hours_ qriskRows qlevels qpointsOf qsums rules_ qruleKinds qruleLevels qholds qalarms qalarmHours qvalues qchecked qrights, aJ qnow ca 12 u20_0, aJ qkept ca 12 kept_L37, aJ qbooks ca 10 u20_3, aJ qkeptBooks ca 10 keptBooks_L67, aZ qtold ca 4 (upd told_ (0 : Int32).toNatClampNeg (vp_nar .boolean (1 : Int32))), aI qlows ca 4 u20_1, aI qhighs ca 4 u20_2, aI qrates ca 4 (upd rates_ (0 : Int32).toNatClampNeg j13_0), aI qconductances ca 5 conductances_, aI qcapacities ca 5 capacities_, aI qrowWaters ca 6 rowWaters_, aI qrowDamps ca 6 rowDamps_] H → va_D A [oc_Model qa0 u7_0 volume_ share_ qnow qkept qbooks qkeptBooks layers_ qconductances qcapacities kilograms_ rows_ qrowDamps qrowWaters qtold qlows qhighs qrates hours_ qriskRows qlevels qpointsOf qsums rules_ qruleKinds qruleLevels qholds qalarms qalarmHours qvalues qchecked qrights, aJ qnow ca 12 u20_0, aJ qkept ca 12 kept_L37, aJ qbooks ca 10 u20_3, aJ qkeptBooks ca 10 keptBooks_L67, aZ qtold ca 4 (upd told_ (0 : Int32).toNatClampNeg (vp_nar .boolean (1 : Int32))), aI qlows ca 4 u20_1, aI qhighs ca 4 u20_2, aI qrates ca 4 (upd rates_ (0 : Int32).toNatClampNeg j13_0), aI qconductances ca 5 conductances_, aI qcapacities ca 5 capacities_, aI qrowWaters ca 6 rowWaters_, aI qrowDamps ca 6 rowDamps_] → va_S A s.heap H locs → lv_has ls 15 [(0, .ref qa0), (1, .int x1), (2, .int x2), (3, .int x3), (4, .int (told_ (0 : Int32).toNatClampNeg)), (5, .int (lows_ (0 : Int32).toNatClampNeg)), (6, .int (highs_ (0 : Int32).toNatClampNeg)), (7, .int (rates_ (0 : Int32).toNatClampNeg)), (8, .int i8_163), (9, .long i9_163), (11, .int i11_163), (12, .long r20)] → W p l e rm_Model_plan s m ar below meth c H locs 0 0 Q (F0 m 201 ls [.int j22_0]) := by
                            intro H locs ls hP hD hS hl
                            refine lv_istore (lv' := [(14, .int j22_0), (0, .ref qa0), (1, .int x1), (2, .int x2), (3, .int x3), (4, .int (told_ (0 : Int32).toNatClampNeg)), (5, .int (lows_ (0 : Int32).toNatClampNeg)), (6, .int (highs_ (0 : Int32).toNatClampNeg)), (7, .int (rates_ (0 : Int32).toNatClampNeg)), (8, .int i8_163), (9, .long i9_163), (11, .int i11_163), (12, .long r20)]) hx hb nd_Model_plan_201 hl (by decide) rfl (fun ls hl => ?_)
                            refine lv_iload hx hb nd_Model_plan_203 (lv_at hl 0 rfl) ?_
                            obtain ⟨j26_0, hJ26, hR⟩ := q_b1 hR
                            have hN26 : ∀ (H : Heap) (locs : List Loc) (ls : Array Slot), va_P D vwCl [oc_Model qa0 u7_0 volume_ share_ qnow qkept qbooks qkeptBooks layers_ qconductances qcapacities kilograms_ rows_ qrowDamps qrowWaters qtold qlows qhighs qrates hours_ qriskRows qlevels qpointsOf qsums rules_ qruleKinds qruleLevels qholds qalarms qalarmHours qvalues qchecked qrights, aJ qnow ca 12 u20_0, aJ qkept ca 12 kept_L37, aJ qbooks ca 10 u20_3, aJ qkeptBooks ca 10 keptBooks_L67, aZ qtold ca 4 (upd told_ (0 : Int32).toNatClampNeg (vp_nar .boolean (1 : Int32))), aI qlows ca 4 u20_1, aI qhighs ca 4 u20_2, aI qrates ca 4 (upd rates_ (0 : Int32).toNatClampNeg j13_0), aI qconductances ca 5 conductances_, aI qcapacities ca 5 capacities_, aI qrowWaters ca 6 rowWaters_, aI qrowDamps ca 6 rowDamps_] H → va_D A [oc_Model qa0 u7_0 volume_ share_ qnow qkept qbooks qkeptBooks layers_ qconductances qcapacities kilograms_ rows_ qrowDamps qrowWaters qtold qlows qhighs qrates hours_ qriskRows qlevels qpointsOf qsums rules_ qruleKinds qruleLevels qholds qalarms qalarmHours qvalues qchecked qrights, aJ qnow ca 12 u20_0, aJ qkept ca 12 kept_L37, aJ qbooks ca 10 u20_3, aJ qkeptBooks ca 10 keptBooks_L67, aZ qtold ca 4 (upd told_ (0 : Int32).toNatClampNeg (vp_nar .boolean (1 : Int32))), aI qlows ca 4 u20_1, aI qhighs ca 4 u20_2, aI qrates ca 4 (upd rates_ (0 : Int32).toNatClampNeg j13_0), aI qconductances ca 5 conductances_, aI qcapacities ca 5 capacities_, aI qrowWaters ca 6 rowWaters_, aI qrowDamps ca 6 rowDamps_] → va_S A s.heap H locs → lv_has ls 15 [(0, .ref qa0), (1, .int x1), (2, .int x2), (3, .int x3), (4, .int (told_ (0 : Int32).toNatClampNeg)), (5, .int (lows_ (0 : Int32).toNatClampNeg)), (6, .int (highs_ (0 : Int32).toNatClampNeg)), (7, .int (rates_ (0 : Int32).toNatClampNeg)), (8, .int i8_163), (9, .long i9_163), (11, .int i11_163), (12, .long r20), (14, .int j22_0)] → W p l e rm_Model_plan s m ar below meth c H locs 0 0 Q (F0 m 215 ls [.long j26_0]) := by
                              intro H locs ls hP hD hS hl
                              refine lv_lstore (lv' := [(9, .long j26_0), (0, .ref qa0), (1, .int x1), (2, .int x2), (3, .int x3), (4, .int (told_ (0 : Int32).toNatClampNeg)), (5, .int (lows_ (0 : Int32).toNatClampNeg)), (6, .int (highs_ (0 : Int32).toNatClampNeg)), (7, .int (rates_ (0 : Int32).toNatClampNeg)), (8, .int i8_163), (11, .int i11_163), (12, .long r20), (14, .int j22_0)]) hx hb nd_Model_plan_215 hl (by decide) rfl (fun ls hl => ?_)
                              refine lv_iload hx hb nd_Model_plan_217 (lv_at hl 12 rfl) ?_
                              obtain ⟨j28_0, hJ28, hR⟩ := q_b1 hR
                              have hN28 : ∀ (H : Heap) (locs : List Loc) (ls : Array Slot), va_P D vwCl [oc_Model qa0 u7_0 volume_ share_ qnow qkept qbooks qkeptBooks layers_ qconductances qcapacities kilograms_ rows_ qrowDamps qrowWaters qtold qlows qhighs qrates hours_ qriskRows qlevels qpointsOf qsums rules_ qruleKinds qruleLevels qholds qalarms qalarmHours qvalues qchecked qrights, aJ qnow ca 12 u20_0, aJ qkept ca 12 kept_L37, aJ qbooks ca 10 u20_3, aJ qkeptBooks ca 10 keptBooks_L67, aZ qtold ca 4 (upd told_ (0 : Int32).toNatClampNeg (vp_nar .boolean (1 : Int32))), aI qlows ca 4 u20_1, aI qhighs ca 4 u20_2, aI qrates ca 4 (upd rates_ (0 : Int32).toNatClampNeg j13_0), aI qconductances ca 5 conductances_, aI qcapacities ca 5 capacities_, aI qrowWaters ca 6 rowWaters_, aI qrowDamps ca 6 rowDamps_] H → va_D A [oc_Model qa0 u7_0 volume_ share_ qnow qkept qbooks qkeptBooks layers_ qconductances qcapacities kilograms_ rows_ qrowDamps qrowWaters qtold qlows qhighs qrates hours_ qriskRows qlevels qpointsOf qsums rules_ qruleKinds qruleLevels qholds qalarms qalarmHours qvalues qchecked qrights, aJ qnow ca 12 u20_0, aJ qkept ca 12 kept_L37, aJ qbooks ca 10 u20_3, aJ qkeptBooks ca 10 keptBooks_L67, aZ qtold ca 4 (upd told_ (0 : Int32).toNatClampNeg (vp_nar .boolean (1 : Int32))), aI qlows ca 4 u20_1, aI qhighs ca 4 u20_2, aI qrates ca 4 (upd rates_ (0 : Int32).toNatClampNeg j13_0), aI qconductances ca 5 conductances_, aI qcapacities ca 5 capacities_, aI qrowWaters ca 6 rowWaters_, aI qrowDamps ca 6 rowDamps_] → va_S A s.heap H locs → lv_has ls 15 [(0, .ref qa0), (1, .int x1), (2, .int x2), (3, .int x3), (4, .int (told_ (0 : Int32).toNatClampNeg)), (5, .int (lows_ (0 : Int32).toNatClampNeg)), (6, .int (highs_ (0 : Int32).toNatClampNeg)), (7, .int (rates_ (0 : Int32).toNatClampNeg)), (8, .int i8_163), (9, .long j26_0), (11, .int i11_163), (12, .long r20), (14, .int j22_0)] → W p l e rm_Model_plan s m ar below meth c H locs 0 0 Q (F0 m 229 ls [.int j28_0]) := by
                                intro H locs ls hP hD hS hl
                                refine lv_istore (lv' := [(8, .int j28_0), (0, .ref qa0), (1, .int x1), (2, .int x2), (3, .int x3), (4, .int (told_ (0 : Int32).toNatClampNeg)), (5, .int (lows_ (0 : Int32).toNatClampNeg)), (6, .int (highs_ (0 : Int32).toNatClampNeg)), (7, .int (rates_ (0 : Int32).toNatClampNeg)), (9, .long j26_0), (11, .int i11_163), (12, .long r20), (14, .int j22_0)]) hx hb nd_Model_plan_229 hl (by decide) rfl (fun ls hl => ?_)
                                refine lv_iincW (v := i11_163 + 500) (lv' := [(11, .int (i11_163 + 500)), (8, .int j28_0), (0, .ref qa0), (1, .int x1), (2, .int x2), (3, .int x3), (4, .int (told_ (0 : Int32).toNatClampNeg)), (5, .int (lows_ (0 : Int32).toNatClampNeg)), (6, .int (highs_ (0 : Int32).toNatClampNeg)), (7, .int (rates_ (0 : Int32).toNatClampNeg)), (9, .long j26_0), (12, .long r20), (14, .int j22_0)]) hx hb nd_Model_plan_231 hl (k := 10) rfl (by first | rfl | decide) (by decide) rfl (fun ls hl => ?_)
                                refine lv_goto (tgt := 163) hx hb nd_Model_plan_237 (by decide) ?_
                                exact ih163 j28_0 j26_0 (i11_163 + 500) u20_0 u20_1 u20_2 u20_3 _ _ _ hR hP hD hS (lv_sub hl [2, 3, 4, 5, 6, 7, 8, 9, 1, 10, 0] rfl)
                              refine lv_if_eq (tgt := 227) hx hb nd_Model_plan_219 (by decide) (fun c27 => ?_) (fun c27 => ?_)
                              · have hR := q_p c27 hJ28
                                refine lv_iload hx hb nd_Model_plan_227 (lv_at hl 9 rfl) ?_
                                cases hR
                                exact hN28 _ _ _ hP hD hS (lv_sub hl [1, 2, 3, 4, 5, 6, 7, 8, 9, 0, 10, 11, 12] rfl)
                              · have hR := q_n c27 hJ28
                                refine lv_iload hx hb nd_Model_plan_222 (lv_at hl 10 rfl) ?_
                                refine lv_goto (tgt := 229) hx hb nd_Model_plan_224 (by decide) ?_
                                cases hR
                                exact hN28 _ _ _ hP hD hS (lv_sub hl [1, 2, 3, 4, 5, 6, 7, 8, 9, 0, 10, 11, 12] rfl)
                            refine lv_if_eq (tgt := 213) hx hb nd_Model_plan_205 (by decide) (fun c25 => ?_) (fun c25 => ?_)
                            · have hR := q_p c25 hJ26
                              refine lv_lload hx hb nd_Model_plan_213 (lv_at hl 10 rfl) ?_
                              cases hR
                              exact hN26 _ _ _ hP hD hS (lv_sub hl [1, 2, 3, 4, 5, 6, 7, 8, 9, 10, 11, 12, 0] rfl)
                            · have hR := q_n c25 hJ26
                              refine lv_lload hx hb nd_Model_plan_208 (lv_at hl 12 rfl) ?_
                              refine lv_goto (tgt := 215) hx hb nd_Model_plan_210 (by decide) ?_
                              cases hR
                              exact hN26 _ _ _ hP hD hS (lv_sub hl [1, 2, 3, 4, 5, 6, 7, 8, 9, 10, 11, 12, 0] rfl)
                          refine lv_icmp_eq (tgt := 196) hx hb nd_Model_plan_185 (by decide) (fun c21 => ?_) (fun c21 => ?_)
                          · have hR := q_p c21 hJ22
                            refine lv_iconst (v := 1) hx hb nd_Model_plan_196 (by decide) ?_
                            refine lv_goto (tgt := 201) hx hb nd_Model_plan_197 (by decide) ?_
                            cases hR
                            exact hN22 _ _ _ hP hD hS (lv_sub hl [1, 2, 3, 4, 5, 6, 7, 8, 9, 10, 11, 0] rfl)
                          · have hR := q_n c21 hJ22
                            refine lv_lload hx hb nd_Model_plan_188 (lv_at hl 0 rfl) ?_
                            refine lv_lload hx hb nd_Model_plan_190 (lv_at hl 10 rfl) ?_
                            refine W.lcmp hx hb nd_Model_plan_192 ?_
                            obtain ⟨j24_0, hJ24, hR⟩ := q_b1 hR
                            have hN24 : ∀ (H : Heap) (locs : List Loc) (ls : Array Slot), va_P D vwCl [oc_Model qa0 u7_0 volume_ share_ qnow qkept qbooks qkeptBooks layers_ qconductances qcapacities kilograms_ rows_ qrowDamps qrowWaters qtold qlows qhighs qrates hours_ qriskRows qlevels qpointsOf qsums rules_ qruleKinds qruleLevels qholds qalarms qalarmHours qvalues qchecked qrights, aJ qnow ca 12 u20_0, aJ qkept ca 12 kept_L37, aJ qbooks ca 10 u20_3, aJ qkeptBooks ca 10 keptBooks_L67, aZ qtold ca 4 (upd told_ (0 : Int32).toNatClampNeg (vp_nar .boolean (1 : Int32))), aI qlows ca 4 u20_1, aI qhighs ca 4 u20_2, aI qrates ca 4 (upd rates_ (0 : Int32).toNatClampNeg j13_0), aI qconductances ca 5 conductances_, aI qcapacities ca 5 capacities_, aI qrowWaters ca 6 rowWaters_, aI qrowDamps ca 6 rowDamps_] H → va_D A [oc_Model qa0 u7_0 volume_ share_ qnow qkept qbooks qkeptBooks layers_ qconductances qcapacities kilograms_ rows_ qrowDamps qrowWaters qtold qlows qhighs qrates hours_ qriskRows qlevels qpointsOf qsums rules_ qruleKinds qruleLevels qholds qalarms qalarmHours qvalues qchecked qrights, aJ qnow ca 12 u20_0, aJ qkept ca 12 kept_L37, aJ qbooks ca 10 u20_3, aJ qkeptBooks ca 10 keptBooks_L67, aZ qtold ca 4 (upd told_ (0 : Int32).toNatClampNeg (vp_nar .boolean (1 : Int32))), aI qlows ca 4 u20_1, aI qhighs ca 4 u20_2, aI qrates ca 4 (upd rates_ (0 : Int32).toNatClampNeg j13_0), aI qconductances ca 5 conductances_, aI qcapacities ca 5 capacities_, aI qrowWaters ca 6 rowWaters_, aI qrowDamps ca 6 rowDamps_] → va_S A s.heap H locs → lv_has ls 15 [(0, .ref qa0), (1, .int x1), (2, .int x2), (3, .int x3), (4, .int (told_ (0 : Int32).toNatClampNeg)), (5, .int (lows_ (0 : Int32).toNatClampNeg)), (6, .int (highs_ (0 : Int32).toNatClampNeg)), (7, .int (rates_ (0 : Int32).toNatClampNeg)), (8, .int i8_163), (9, .long i9_163), (11, .int i11_163), (12, .long r20)] → W p l e rm_Model_plan s m ar below meth c H locs 0 0 Q (F0 m 201 ls [.int j24_0]) := by
                              intro H locs ls hP hD hS hl
                              cases hR
                              exact hN22 _ _ _ hP hD hS (lv_sub hl [0, 1, 2, 3, 4, 5, 6, 7, 8, 9, 10, 11] rfl)
                            refine lv_if_ge (tgt := 200) hx hb nd_Model_plan_193 (by decide) (fun c23 => ?_) (fun c23 => ?_)
                            · have hR := q_p c23 hJ24
                              refine lv_iconst (v := 0) hx hb nd_Model_plan_200 (by decide) ?_
                              cases hR
                              exact hN24 _ _ _ hP hD hS (lv_sub hl [1, 2, 3, 4, 5, 6, 7, 8, 9, 10, 11, 0] rfl)
                            · have hR := q_n c23 hJ24
                              refine lv_iconst (v := 1) hx hb nd_Model_plan_196 (by decide) ?_
                              refine lv_goto (tgt := 201) hx hb nd_Model_plan_197 (by decide) ?_
                              cases hR
                              exact hN24 _ _ _ hP hD hS (lv_sub hl [1, 2, 3, 4, 5, 6, 7, 8, 9, 10, 11, 0] rfl)
                    exact hL163 400 (-1 : Int32) (0 : Int64) (18000 : Int32) now_ lows_ highs_ books_ _ _ _ hR hP hD hS (lv_sub hl [3, 4, 5, 6, 7, 8, 9, 10, 2, 1, 0] rfl)
                  refine lv_if_eq (tgt := 148) hx hb nd_Model_plan_140 (by decide) (fun c12 => ?_) (fun c12 => ?_)
                  · have hR := q_p c12 hJ13
                    refine lv_sipush (v := 5000) hx hb nd_Model_plan_148 (by decide) ?_
                    cases hR
                    exact hN13 _ _ _ hP hD hS (lv_sub hl [4, 5, 6, 7, 3, 2, 1, 0] rfl)
                  · have hR := q_n c12 hJ13
                    refine lv_iload hx hb nd_Model_plan_143 (lv_at hl 0 rfl) ?_
                    refine lv_goto (tgt := 151) hx hb nd_Model_plan_145 (by decide) ?_
                    cases hR
                    exact hN13 _ _ _ hP hD hS (lv_sub hl [4, 5, 6, 7, 3, 2, 1, 0] rfl)
                · replace hR := q_n c10 hR
                  refine lv_aload_n hx hb nd_Model_plan_74 rfl (lv_at hl 0 rfl) ?_
                  refine va_get (D := D) (ci := 9) (v := .ref qkeptBooks) (C := nR_Model) (T := nT_Model) (N := 32) hx hb hts ni_Model hown hK hP 0 rfl rfl 6 (by decide) (hts (.fieldLink nR_Model 26 "RoomClimateModel" "keptBooks" "[J") tt_729) (fun _ h9 => h9) rfl nd_Model_plan_75 ?_
                  refine lv_iload hx hb nd_Model_plan_78 (lv_at hl 4 rfl) ?_
                  refine lv_aload_n hx hb nd_Model_plan_80 rfl (lv_at hl 0 rfl) ?_
                  refine va_get (D := D) (ci := 9) (v := .ref qbooks) (C := nR_Model) (T := nT_Model) (N := 32) hx hb hts ni_Model hown hK hP 0 rfl rfl 5 (by decide) (hts (.fieldLink nR_Model 23 "RoomClimateModel" "books" "[J") tt_728) (fun _ h9 => h9) rfl nd_Model_plan_81 ?_
                  refine lv_iload hx hb nd_Model_plan_84 (lv_at hl 4 rfl) ?_
                  obtain ⟨h29, hR⟩ := q_ix hR
                  refine va_lald hx hb hK hP 3 1 rfl rfl h29 nd_Model_plan_86 ?_
                  refine va_last hx hb hK hP hD hS 4 1 rfl rfl h29 nd_Model_plan_87 (fun H locs hP hD hS => ?_)
                  have hP : va_P D vwCl [oc_Model qa0 u7_0 volume_ share_ qnow qkept qbooks qkeptBooks layers_ qconductances qcapacities kilograms_ rows_ qrowDamps qrowWaters qtold qlows qhighs qrates hours_ qriskRows qlevels qpointsOf qsums rules_ qruleKinds qruleLevels qholds qalarms qalarmHours qvalues qchecked qrights, aJ qnow ca 12 now_, aJ qkept ca 12 kept_L37, aJ qbooks ca 10 books_, aJ qkeptBooks ca 10 (vp_updL keptBooks_L67 i4_67.toNatClampNeg (books_ i4_67.toNatClampNeg)), aZ qtold ca 4 told_, aI qlows ca 4 lows_, aI qhighs ca 4 highs_, aI qrates ca 4 rates_, aI qconductances ca 5 conductances_, aI qcapacities ca 5 capacities_, aI qrowWaters ca 6 rowWaters_, aI qrowDamps ca 6 rowDamps_] H := hP
                  have hD : va_D A [oc_Model qa0 u7_0 volume_ share_ qnow qkept qbooks qkeptBooks layers_ qconductances qcapacities kilograms_ rows_ qrowDamps qrowWaters qtold qlows qhighs qrates hours_ qriskRows qlevels qpointsOf qsums rules_ qruleKinds qruleLevels qholds qalarms qalarmHours qvalues qchecked qrights, aJ qnow ca 12 now_, aJ qkept ca 12 kept_L37, aJ qbooks ca 10 books_, aJ qkeptBooks ca 10 (vp_updL keptBooks_L67 i4_67.toNatClampNeg (books_ i4_67.toNatClampNeg)), aZ qtold ca 4 told_, aI qlows ca 4 lows_, aI qhighs ca 4 highs_, aI qrates ca 4 rates_, aI qconductances ca 5 conductances_, aI qcapacities ca 5 capacities_, aI qrowWaters ca 6 rowWaters_, aI qrowDamps ca 6 rowDamps_] := hD
                  refine lv_iinc (v := i4_67 + 1) (lv' := [(4, .int (i4_67 + 1)), (0, .ref qa0), (1, .int x1), (2, .int x2), (3, .int x3)]) hx hb nd_Model_plan_88 hl (k := 4) rfl (by first | rfl | decide) (by decide) rfl (fun ls hl => ?_)
                  refine lv_goto (tgt := 67) hx hb nd_Model_plan_91 (by decide) ?_
                  exact ih67 (i4_67 + 1) (vp_updL keptBooks_L67 i4_67.toNatClampNeg (books_ i4_67.toNatClampNeg)) _ _ _ hR hP hD hS (lv_sub hl [1, 2, 3, 4, 0] rfl)
            exact hL67 400 (0 : Int32) keptBooks_ _ _ _ hR hP hD hS (lv_sub hl [1, 2, 3, 4, 0] rfl)
          · replace hR := q_n c9 hR
            refine lv_aload_n hx hb nd_Model_plan_44 rfl (lv_at hl 0 rfl) ?_
            refine va_get (D := D) (ci := 9) (v := .ref qkept) (C := nR_Model) (T := nT_Model) (N := 32) hx hb hts ni_Model hown hK hP 0 rfl rfl 4 (by decide) (hts (.fieldLink nR_Model 20 "RoomClimateModel" "kept" "[J") tt_727) (fun _ h9 => h9) rfl nd_Model_plan_45 ?_
            refine lv_iload hx hb nd_Model_plan_48 (lv_at hl 4 rfl) ?_
            refine lv_aload_n hx hb nd_Model_plan_50 rfl (lv_at hl 0 rfl) ?_
            refine va_get (D := D) (ci := 9) (v := .ref qnow) (C := nR_Model) (T := nT_Model) (N := 32) hx hb hts ni_Model hown hK hP 0 rfl rfl 3 (by decide) (hts (.fieldLink nR_Model 16 "RoomClimateModel" "now" "[J") tt_726) (fun _ h9 => h9) rfl nd_Model_plan_51 ?_
            refine lv_iload hx hb nd_Model_plan_54 (lv_at hl 4 rfl) ?_
            obtain ⟨h30, hR⟩ := q_ix hR
            refine va_lald hx hb hK hP 1 1 rfl rfl h30 nd_Model_plan_56 ?_
            refine va_last hx hb hK hP hD hS 2 1 rfl rfl h30 nd_Model_plan_57 (fun H locs hP hD hS => ?_)
            have hP : va_P D vwCl [oc_Model qa0 u7_0 volume_ share_ qnow qkept qbooks qkeptBooks layers_ qconductances qcapacities kilograms_ rows_ qrowDamps qrowWaters qtold qlows qhighs qrates hours_ qriskRows qlevels qpointsOf qsums rules_ qruleKinds qruleLevels qholds qalarms qalarmHours qvalues qchecked qrights, aJ qnow ca 12 now_, aJ qkept ca 12 (vp_updL kept_L37 i4_37.toNatClampNeg (now_ i4_37.toNatClampNeg)), aJ qbooks ca 10 books_, aJ qkeptBooks ca 10 keptBooks_, aZ qtold ca 4 told_, aI qlows ca 4 lows_, aI qhighs ca 4 highs_, aI qrates ca 4 rates_, aI qconductances ca 5 conductances_, aI qcapacities ca 5 capacities_, aI qrowWaters ca 6 rowWaters_, aI qrowDamps ca 6 rowDamps_] H := hP
            have hD : va_D A [oc_Model qa0 u7_0 volume_ share_ qnow qkept qbooks qkeptBooks layers_ qconductances qcapacities kilograms_ rows_ qrowDamps qrowWaters qtold qlows qhighs qrates hours_ qriskRows qlevels qpointsOf qsums rules_ qruleKinds qruleLevels qholds qalarms qalarmHours qvalues qchecked qrights, aJ qnow ca 12 now_, aJ qkept ca 12 (vp_updL kept_L37 i4_37.toNatClampNeg (now_ i4_37.toNatClampNeg)), aJ qbooks ca 10 books_, aJ qkeptBooks ca 10 keptBooks_, aZ qtold ca 4 told_, aI qlows ca 4 lows_, aI qhighs ca 4 highs_, aI qrates ca 4 rates_, aI qconductances ca 5 conductances_, aI qcapacities ca 5 capacities_, aI qrowWaters ca 6 rowWaters_, aI qrowDamps ca 6 rowDamps_] := hD
            refine lv_iinc (v := i4_37 + 1) (lv' := [(4, .int (i4_37 + 1)), (0, .ref qa0), (1, .int x1), (2, .int x2), (3, .int x3)]) hx hb nd_Model_plan_58 hl (k := 4) rfl (by first | rfl | decide) (by decide) rfl (fun ls hl => ?_)
            refine lv_goto (tgt := 37) hx hb nd_Model_plan_61 (by decide) ?_
            exact ih37 (i4_37 + 1) (vp_updL kept_L37 i4_37.toNatClampNeg (now_ i4_37.toNatClampNeg)) _ _ _ hR hP hD hS (lv_sub hl [1, 2, 3, 4, 0] rfl)
      exact hL37 400 (0 : Int32) kept_ _ _ _ hR hP hD hS (lv_sub hl [1, 2, 3, 4, 0] rfl)
    · replace hR := q_p c8 hR
      refine lv_iconst (v := 0) hx hb nd_Model_plan_32 (by decide) ?_
      exact hret ((0 : Int32), u7_0, kept_, keptBooks_, told_, rates_, now_, lows_, highs_, books_) _ _ _ _ nd_Model_plan_33 hR hP hD hS
  refine lv_if_eq (tgt := 23) hx hb nd_Model_plan_8 (by decide) (fun c2 => ?_) (fun c2 => ?_)
  · have hR := q_p c2 hJ3
    refine lv_iconst (v := 0) hx hb nd_Model_plan_23 (by decide) ?_
    cases hR
    exact hN3 _ _ _ hP hD hS (lv_sub hl [0, 1, 2, 3] rfl)
  · have hR := q_n c2 hJ3
    refine lv_iload_n hx hb nd_Model_plan_11 rfl (lv_at hl 2 rfl) ?_
    refine lv_iload_n hx hb nd_Model_plan_12 rfl (lv_at hl 3 rfl) ?_
    obtain ⟨r4, e4, hR⟩ := q_b1 hR
    refine k_rSI (As := [.int x2, .int x3]) (rest := [.ref qa0]) (r := r4) hx hb hml hown hts (cn_Model_isOutside l D ca x2 x3 r4 e4) kc_Model_isOutside ks_Model_isOutside tt_862 ⟨by decide, by decide⟩ rfl rfl hP hK [] rfl rfl hl.1 (Nat.le_of_ble_eq_true rfl) rfl nd_Model_plan_13 ⟨Nat.zero_le _, Nat.zero_le _⟩ ?_
    obtain ⟨j6_0, hJ6, hR⟩ := q_b1 hR
    have hN6 : ∀ (H : Heap) (locs : List Loc) (ls : Array Slot), va_P D vwCl [oc_Model qa0 thrown_ volume_ share_ qnow qkept qbooks qkeptBooks layers_ qconductances qcapacities kilograms_ rows_ qrowDamps qrowWaters qtold qlows qhighs qrates hours_ qriskRows qlevels qpointsOf qsums rules_ qruleKinds qruleLevels qholds qalarms qalarmHours qvalues qchecked qrights, aJ qnow ca 12 now_, aJ qkept ca 12 kept_, aJ qbooks ca 10 books_, aJ qkeptBooks ca 10 keptBooks_, aZ qtold ca 4 told_, aI qlows ca 4 lows_, aI qhighs ca 4 highs_, aI qrates ca 4 rates_, aI qconductances ca 5 conductances_, aI qcapacities ca 5 capacities_, aI qrowWaters ca 6 rowWaters_, aI qrowDamps ca 6 rowDamps_] H → va_D A [oc_Model qa0 thrown_ volume_ share_ qnow qkept qbooks qkeptBooks layers_ qconductances qcapacities kilograms_ rows_ qrowDamps qrowWaters qtold qlows qhighs qrates hours_ qriskRows qlevels qpointsOf qsums rules_ qruleKinds qruleLevels qholds qalarms qalarmHours qvalues qchecked qrights, aJ qnow ca 12 now_, aJ qkept ca 12 kept_, aJ qbooks ca 10 books_, aJ qkeptBooks ca 10 keptBooks_, aZ qtold ca 4 told_, aI qlows ca 4 lows_, aI qhighs ca 4 highs_, aI qrates ca 4 rates_, aI qconductances ca 5 conductances_, aI qcapacities ca 5 capacities_, aI qrowWaters ca 6 rowWaters_, aI qrowDamps ca 6 rowDamps_] → va_S A s.heap H locs → lv_has ls 15 [(0, .ref qa0), (1, .int x1), (2, .int x2), (3, .int x3)] → W p l e rm_Model_plan s m ar below meth c H locs 0 0 Q (F0 m 24 ls [.int j6_0, .ref qa0]) := by
      intro H locs ls hP hD hS hl
      cases hR
      exact hN3 _ _ _ hP hD hS (lv_sub hl [0, 1, 2, 3] rfl)
    refine lv_if_eq (tgt := 23) hx hb nd_Model_plan_16 (by decide) (fun c5 => ?_) (fun c5 => ?_)
    · have hR := q_p c5 hJ6
      refine lv_iconst (v := 0) hx hb nd_Model_plan_23 (by decide) ?_
      cases hR
      exact hN6 _ _ _ hP hD hS (lv_sub hl [0, 1, 2, 3] rfl)
    · have hR := q_n c5 hJ6
      refine lv_iconst (v := 1) hx hb nd_Model_plan_19 (by decide) ?_
      refine lv_goto (tgt := 24) hx hb nd_Model_plan_20 (by decide) ?_
      cases hR
      exact hN6 _ _ _ hP hD hS (lv_sub hl [0, 1, 2, 3] rfl)
def rm_Model_count : Room := { frames := 1, cells := 0, slots := 0, locals := 23 }
theorem kc_Model_count : k_cal nY_Model_count nC_Model_count 4 (some .int) 1 := ⟨tt_1002, tt_10, by decide +kernel⟩
theorem kv_Model_count : k_vir nY_Model_count := ⟨tt_1000, tt_1001⟩
set_option maxHeartbeats 4000000 in
set_option maxRecDepth 100000 in
theorem cn_Model_count (l : Launch) (D : va_G) (ca : Nat → ClassId) (qa0 qnow qkept qbooks qkeptBooks qconductances qcapacities qrowDamps qrowWaters qtold qlows qhighs qrates qriskRows qlevels qpointsOf qsums qruleKinds qruleLevels qholds qalarms qalarmHours qvalues qchecked qrights : Nat) (thrown_ : Int32) (volume_ : Int32) (share_ : Int32) (layers_ : Int32) (kilograms_ : Int32) (rows_ : Int32) (hours_ : Int32) (rules_ : Int32) (checked_ : Nat → Int32) (x1 : Int32) (R0 : Int32) (R1 : Int32) (hR : fn_Model_count layers_ rows_ hours_ rules_ checked_ x1 = some (R0, R1)) (sz : Nat) : Met l nY_Model_count (Cond.code nY_Model_count nC_Model_count 4 (some .int) :: TT) rm_Model_count (wr_P [.ref qa0, .int x1] D ca [oc_Model qa0 thrown_ volume_ share_ qnow qkept qbooks qkeptBooks layers_ qconductances qcapacities kilograms_ rows_ qrowDamps qrowWaters qtold qlows qhighs qrates hours_ qriskRows qlevels qpointsOf qsums rules_ qruleKinds qruleLevels qholds qalarms qalarmHours qvalues qchecked qrights, aZ qchecked ca 300 checked_] sz) (va_Qi (fun x (_ : Unit) => x = R0) (wr_B D [oc_Model qa0 thrown_ volume_ share_ qnow qkept qbooks qkeptBooks layers_ qconductances qcapacities kilograms_ rows_ qrowDamps qrowWaters qtold qlows qhighs qrates hours_ qriskRows qlevels qpointsOf qsums rules_ qruleKinds qruleLevels qholds qalarms qalarmHours qvalues qchecked qrights, aZ qchecked ca 300 checked_] sz [oc_Model qa0 R1 volume_ share_ qnow qkept qbooks qkeptBooks layers_ qconductances qcapacities kilograms_ rows_ qrowDamps qrowWaters qtold qlows qhighs qrates hours_ qriskRows qlevels qpointsOf qsums rules_ qruleKinds qruleLevels qholds qalarms qalarmHours qvalues qchecked qrights, aZ qchecked ca 300 checked_]) (va_A [oc_Model qa0 thrown_ volume_ share_ qnow qkept qbooks qkeptBooks layers_ qconductances qcapacities kilograms_ rows_ qrowDamps qrowWaters qtold qlows qhighs qrates hours_ qriskRows qlevels qpointsOf qsums rules_ qruleKinds qruleLevels qholds qalarms qalarmHours qvalues qchecked qrights, aZ qchecked ca 300 checked_] sz)) 0 0 (va_A [oc_Model qa0 thrown_ volume_ share_ qnow qkept qbooks qkeptBooks layers_ qconductances qcapacities kilograms_ rows_ qrowDamps qrowWaters qtold qlows qhighs qrates hours_ qriskRows qlevels qpointsOf qsums rules_ qruleKinds qruleLevels qholds qalarms qalarmHours qvalues qchecked qrights, aZ qchecked ca 300 checked_] sz) := by
  refine wr_ofI (R := (R0, R1)) (val := fun r => r.1) (w1 := fun r : Int32 × Int32 => [oc_Model qa0 r.2 volume_ share_ qnow qkept qbooks qkeptBooks layers_ qconductances qcapacities kilograms_ rows_ qrowDamps qrowWaters qtold qlows qhighs qrates hours_ qriskRows qlevels qpointsOf qsums rules_ qruleKinds qruleLevels qholds qalarms qalarmHours qvalues qchecked qrights, aZ qchecked ca 300 checked_]) (by decide +kernel) (Nat.le_of_ble_eq_true rfl) ?_
  intro p e s m below meth c Q ar ls hx hb hml hts hown hP hK A hD hA hl hret
  have hS : va_S A s.heap s.heap [] := va_S.rf
  have hown : s.vm.findClass nR_Model = some m.cls := hown
  have hl : lv_has ls 4 [(0, .ref qa0), (1, .int x1)] := hl
  unfold fn_Model_count at hR
  refine lv_aload_n hx hb nd_Model_count_0 rfl (lv_at hl 0 rfl) ?_
  refine lv_iload_n hx hb nd_Model_count_1 rfl (lv_at hl 1 rfl) ?_
  refine lv_iconst (v := 0) hx hb nd_Model_count_2 (by decide) ?_
  refine lv_iconst (v := 4) hx hb nd_Model_count_3 (by decide) ?_
  obtain ⟨r1, e1, hR⟩ := q_b1 hR
  refine k_rSI (As := [.int x1, .int (0 : Int32), .int (4 : Int32)]) (rest := [.ref qa0]) (r := r1) hx hb hml hown hts (cn_Model_within l D ca x1 (0 : Int32) (4 : Int32) r1 e1) kc_Model_within ks_Model_within tt_828 ⟨by decide, by decide⟩ rfl rfl hP hK [] rfl rfl hl.1 (Nat.le_of_ble_eq_true rfl) rfl nd_Model_count_4 ⟨Nat.zero_le _, Nat.zero_le _⟩ ?_
  refine lv_iconst (v := 1) hx hb nd_Model_count_7 (by decide) ?_
  refine lv_iconst (v := 1) hx hb nd_Model_count_8 (by decide) ?_
  obtain ⟨r2, u2_0, e2, hR⟩ := q_b2 hR
  refine k_wVI (wr := [aZ qchecked ca 300 checked_]) (w2 := [oc_Model qa0 u2_0 volume_ share_ qnow qkept qbooks qkeptBooks layers_ qconductances qcapacities kilograms_ rows_ qrowDamps qrowWaters qtold qlows qhighs qrates hours_ qriskRows qlevels qpointsOf qsums rules_ qruleKinds qruleLevels qholds qalarms qalarmHours qvalues qchecked qrights, aZ qchecked ca 300 checked_]) (As := [.int r1, .int (1 : Int32), .int (1 : Int32)]) (rest := []) (r := r2) hx hb hml hown hts (cn_Model_goes l D ca qa0 qnow qkept qbooks qkeptBooks qconductances qcapacities qrowDamps qrowWaters qtold qlows qhighs qrates qriskRows qlevels qpointsOf qsums qruleKinds qruleLevels qholds qalarms qalarmHours qvalues qchecked qrights thrown_ volume_ share_ layers_ kilograms_ rows_ hours_ rules_ r1 (1 : Int32) (1 : Int32) r2 u2_0 e2 _) kc_Model_goes kv_Model_goes tt_831 ⟨by decide, by decide⟩ rfl rfl hP hK hD hS hA [0] [1] [1, 0] rfl (by decide) rfl (by decide) (by decide) rfl (by decide) 0 rfl rfl rfl rfl hl.1 (Nat.le_of_ble_eq_true rfl) rfl nd_Model_count_9 ⟨Nat.zero_le _, Nat.zero_le _⟩ (fun H locs hP hD hS => ?_)
  refine lv_if_ne (tgt := 17) hx hb nd_Model_count_12 (by decide) (fun c3 => ?_) (fun c3 => ?_)
  · replace hR := q_n c3 hR
    refine lv_iconst (v := 0) hx hb nd_Model_count_17 (by decide) ?_
    refine lv_istore_n (lv' := [(2, .int (0 : Int32)), (0, .ref qa0), (1, .int x1)]) hx hb nd_Model_count_18 rfl hl (by decide) rfl (fun ls hl => ?_)
    refine lv_iconst (v := 0) hx hb nd_Model_count_19 (by decide) ?_
    refine lv_istore_n (lv' := [(3, .int (0 : Int32)), (2, .int (0 : Int32)), (0, .ref qa0), (1, .int x1)]) hx hb nd_Model_count_20 rfl hl (by decide) rfl (fun ls hl => ?_)
    have hL21 : ∀ (n21 : Nat) (i2_21 : Int32) (i3_21 : Int32) (H : Heap) (locs : List Loc) (ls : Array Slot), fn_Model_count_L21 x1 u2_0 hours_ rules_ rows_ layers_ checked_ n21 i2_21 i3_21 = some (R0, R1) → va_P D vwCl [oc_Model qa0 u2_0 volume_ share_ qnow qkept qbooks qkeptBooks layers_ qconductances qcapacities kilograms_ rows_ qrowDamps qrowWaters qtold qlows qhighs qrates hours_ qriskRows qlevels qpointsOf qsums rules_ qruleKinds qruleLevels qholds qalarms qalarmHours qvalues qchecked qrights, aZ qchecked ca 300 checked_] H → va_D A [oc_Model qa0 u2_0 volume_ share_ qnow qkept qbooks qkeptBooks layers_ qconductances qcapacities kilograms_ rows_ qrowDamps qrowWaters qtold qlows qhighs qrates hours_ qriskRows qlevels qpointsOf qsums rules_ qruleKinds qruleLevels qholds qalarms qalarmHours qvalues qchecked qrights, aZ qchecked ca 300 checked_] → va_S A s.heap H locs → lv_has ls 4 [(0, .ref qa0), (1, .int x1), (2, .int i2_21), (3, .int i3_21)] → W p l e rm_Model_count s m ar below meth c H locs 0 0 Q (F0 m 21 ls []) := by
      intro n21
      induction n21 with
      | zero => intro i2_21 i3_21 H locs ls hR; exact nomatch hR
      | succ n21 ih21 =>
        intro i2_21 i3_21 H locs ls hR hP hD hS hl
        rw [fn_Model_count_L21] at hR
        refine lv_iload_n hx hb nd_Model_count_21 rfl (lv_at hl 3 rfl) ?_
        refine lv_aload_n hx hb nd_Model_count_22 rfl (lv_at hl 0 rfl) ?_
        refine va_get (D := D) (ci := 9) (v := .int hours_) (C := nR_Model) (T := nT_Model) (N := 32) hx hb hts ni_Model hown hK hP 0 rfl rfl 18 (by decide) (hts (.fieldLink nR_Model 172 "RoomClimateModel" "hours" "I") tt_741) (fun _ h9 => h9) rfl nd_Model_count_23 ?_
        refine lv_icmp_ge (tgt := 52) hx hb nd_Model_count_26 (by decide) (fun c4 => ?_) (fun c4 => ?_)
        · replace hR := q_p c4 hR
          refine lv_iload_n hx hb nd_Model_count_52 rfl (lv_at hl 1 rfl) ?_
          obtain ⟨j6_0, hJ6, hR⟩ := q_b1 hR
          have hN6 : ∀ (H : Heap) (locs : List Loc) (ls : Array Slot), va_P D vwCl [oc_Model qa0 u2_0 volume_ share_ qnow qkept qbooks qkeptBooks layers_ qconductances qcapacities kilograms_ rows_ qrowDamps qrowWaters qtold qlows qhighs qrates hours_ qriskRows qlevels qpointsOf qsums rules_ qruleKinds qruleLevels qholds qalarms qalarmHours qvalues qchecked qrights, aZ qchecked ca 300 checked_] H → va_D A [oc_Model qa0 u2_0 volume_ share_ qnow qkept qbooks qkeptBooks layers_ qconductances qcapacities kilograms_ rows_ qrowDamps qrowWaters qtold qlows qhighs qrates hours_ qriskRows qlevels qpointsOf qsums rules_ qruleKinds qruleLevels qholds qalarms qalarmHours qvalues qchecked qrights, aZ qchecked ca 300 checked_] → va_S A s.heap H locs → lv_has ls 4 [(0, .ref qa0), (1, .int x1), (2, .int i2_21), (3, .int i3_21)] → W p l e rm_Model_count s m ar below meth c H locs 0 0 Q (F0 m 100 ls [.int j6_0]) := by
            intro H locs ls hP hD hS hl
            exact hret (j6_0, u2_0) _ _ _ _ nd_Model_count_100 hR hP hD hS
          refine lv_if_ne (tgt := 63) hx hb nd_Model_count_53 (by decide) (fun c5 => ?_) (fun c5 => ?_)
          · have hR := q_n c5 hJ6
            refine lv_iload_n hx hb nd_Model_count_63 rfl (lv_at hl 1 rfl) ?_
            refine lv_iconst (v := 1) hx hb nd_Model_count_64 (by decide) ?_
            obtain ⟨j8_0, hJ8, hR⟩ := q_b1 hR
            have hN8 : ∀ (H : Heap) (locs : List Loc) (ls : Array Slot), va_P D vwCl [oc_Model qa0 u2_0 volume_ share_ qnow qkept qbooks qkeptBooks layers_ qconductances qcapacities kilograms_ rows_ qrowDamps qrowWaters qtold qlows qhighs qrates hours_ qriskRows qlevels qpointsOf qsums rules_ qruleKinds qruleLevels qholds qalarms qalarmHours qvalues qchecked qrights, aZ qchecked ca 300 checked_] H → va_D A [oc_Model qa0 u2_0 volume_ share_ qnow qkept qbooks qkeptBooks layers_ qconductances qcapacities kilograms_ rows_ qrowDamps qrowWaters qtold qlows qhighs qrates hours_ qriskRows qlevels qpointsOf qsums rules_ qruleKinds qruleLevels qholds qalarms qalarmHours qvalues qchecked qrights, aZ qchecked ca 300 checked_] → va_S A s.heap H locs → lv_has ls 4 [(0, .ref qa0), (1, .int x1), (2, .int i2_21), (3, .int i3_21)] → W p l e rm_Model_count s m ar below meth c H locs 0 0 Q (F0 m 100 ls [.int j8_0]) := by
              intro H locs ls hP hD hS hl
              cases hR
              exact hN6 _ _ _ hP hD hS (lv_sub hl [0, 1, 2, 3] rfl)
            refine lv_icmp_ne (tgt := 75) hx hb nd_Model_count_65 (by decide) (fun c7 => ?_) (fun c7 => ?_)
            · have hR := q_n c7 hJ8
              refine lv_iload_n hx hb nd_Model_count_75 rfl (lv_at hl 1 rfl) ?_
              refine lv_iconst (v := 2) hx hb nd_Model_count_76 (by decide) ?_
              obtain ⟨j10_0, hJ10, hR⟩ := q_b1 hR
              have hN10 : ∀ (H : Heap) (locs : List Loc) (ls : Array Slot), va_P D vwCl [oc_Model qa0 u2_0 volume_ share_ qnow qkept qbooks qkeptBooks layers_ qconductances qcapacities kilograms_ rows_ qrowDamps qrowWaters qtold qlows qhighs qrates hours_ qriskRows qlevels qpointsOf qsums rules_ qruleKinds qruleLevels qholds qalarms qalarmHours qvalues qchecked qrights, aZ qchecked ca 300 checked_] H → va_D A [oc_Model qa0 u2_0 volume_ share_ qnow qkept qbooks qkeptBooks layers_ qconductances qcapacities kilograms_ rows_ qrowDamps qrowWaters qtold qlows qhighs qrates hours_ qriskRows qlevels qpointsOf qsums rules_ qruleKinds qruleLevels qholds qalarms qalarmHours qvalues qchecked qrights, aZ qchecked ca 300 checked_] → va_S A s.heap H locs → lv_has ls 4 [(0, .ref qa0), (1, .int x1), (2, .int i2_21), (3, .int i3_21)] → W p l e rm_Model_count s m ar below meth c H locs 0 0 Q (F0 m 100 ls [.int j10_0]) := by
                intro H locs ls hP hD hS hl
                cases hR
                exact hN8 _ _ _ hP hD hS (lv_sub hl [0, 1, 2, 3] rfl)
              refine lv_icmp_ne (tgt := 87) hx hb nd_Model_count_77 (by decide) (fun c9 => ?_) (fun c9 => ?_)
              · have hR := q_n c9 hJ10
                refine lv_iload_n hx hb nd_Model_count_87 rfl (lv_at hl 1 rfl) ?_
                refine lv_iconst (v := 3) hx hb nd_Model_count_88 (by decide) ?_
                obtain ⟨j12_0, hJ12, hR⟩ := q_b1 hR
                have hN12 : ∀ (H : Heap) (locs : List Loc) (ls : Array Slot), va_P D vwCl [oc_Model qa0 u2_0 volume_ share_ qnow qkept qbooks qkeptBooks layers_ qconductances qcapacities kilograms_ rows_ qrowDamps qrowWaters qtold qlows qhighs qrates hours_ qriskRows qlevels qpointsOf qsums rules_ qruleKinds qruleLevels qholds qalarms qalarmHours qvalues qchecked qrights, aZ qchecked ca 300 checked_] H → va_D A [oc_Model qa0 u2_0 volume_ share_ qnow qkept qbooks qkeptBooks layers_ qconductances qcapacities kilograms_ rows_ qrowDamps qrowWaters qtold qlows qhighs qrates hours_ qriskRows qlevels qpointsOf qsums rules_ qruleKinds qruleLevels qholds qalarms qalarmHours qvalues qchecked qrights, aZ qchecked ca 300 checked_] → va_S A s.heap H locs → lv_has ls 4 [(0, .ref qa0), (1, .int x1), (2, .int i2_21), (3, .int i3_21)] → W p l e rm_Model_count s m ar below meth c H locs 0 0 Q (F0 m 100 ls [.int j12_0]) := by
                  intro H locs ls hP hD hS hl
                  cases hR
                  exact hN10 _ _ _ hP hD hS (lv_sub hl [0, 1, 2, 3] rfl)
                refine lv_icmp_ne (tgt := 99) hx hb nd_Model_count_89 (by decide) (fun c11 => ?_) (fun c11 => ?_)
                · have hR := q_n c11 hJ12
                  refine lv_iload_n hx hb nd_Model_count_99 rfl (lv_at hl 2 rfl) ?_
                  cases hR
                  exact hN12 _ _ _ hP hD hS (lv_sub hl [0, 1, 2, 3] rfl)
                · have hR := q_p c11 hJ12
                  refine lv_aload_n hx hb nd_Model_count_92 rfl (lv_at hl 0 rfl) ?_
                  refine va_get (D := D) (ci := 9) (v := .int rules_) (C := nR_Model) (T := nT_Model) (N := 32) hx hb hts ni_Model hown hK hP 0 rfl rfl 23 (by decide) (hts (.fieldLink nR_Model 169 "RoomClimateModel" "rules" "I") tt_746) (fun _ h9 => h9) rfl nd_Model_count_93 ?_
                  refine lv_goto (tgt := 100) hx hb nd_Model_count_96 (by decide) ?_
                  cases hR
                  exact hN12 _ _ _ hP hD hS (lv_sub hl [0, 1, 2, 3] rfl)
              · have hR := q_p c9 hJ10
                refine lv_aload_n hx hb nd_Model_count_80 rfl (lv_at hl 0 rfl) ?_
                refine va_get (D := D) (ci := 9) (v := .int rows_) (C := nR_Model) (T := nT_Model) (N := 32) hx hb hts ni_Model hown hK hP 0 rfl rfl 11 (by decide) (hts (.fieldLink nR_Model 115 "RoomClimateModel" "rows" "I") tt_734) (fun _ h9 => h9) rfl nd_Model_count_81 ?_
                refine lv_goto (tgt := 100) hx hb nd_Model_count_84 (by decide) ?_
                cases hR
                exact hN10 _ _ _ hP hD hS (lv_sub hl [0, 1, 2, 3] rfl)
            · have hR := q_p c7 hJ8
              refine lv_aload_n hx hb nd_Model_count_68 rfl (lv_at hl 0 rfl) ?_
              refine va_get (D := D) (ci := 9) (v := .int layers_) (C := nR_Model) (T := nT_Model) (N := 32) hx hb hts ni_Model hown hK hP 0 rfl rfl 7 (by decide) (hts (.fieldLink nR_Model 107 "RoomClimateModel" "layers" "I") tt_730) (fun _ h9 => h9) rfl nd_Model_count_69 ?_
              refine lv_goto (tgt := 100) hx hb nd_Model_count_72 (by decide) ?_
              cases hR
              exact hN8 _ _ _ hP hD hS (lv_sub hl [0, 1, 2, 3] rfl)
          · have hR := q_p c5 hJ6
            refine lv_aload_n hx hb nd_Model_count_56 rfl (lv_at hl 0 rfl) ?_
            refine va_get (D := D) (ci := 9) (v := .int hours_) (C := nR_Model) (T := nT_Model) (N := 32) hx hb hts ni_Model hown hK hP 0 rfl rfl 18 (by decide) (hts (.fieldLink nR_Model 172 "RoomClimateModel" "hours" "I") tt_741) (fun _ h9 => h9) rfl nd_Model_count_57 ?_
            refine lv_goto (tgt := 100) hx hb nd_Model_count_60 (by decide) ?_
            cases hR
            exact hN6 _ _ _ hP hD hS (lv_sub hl [0, 1, 2, 3] rfl)
        · replace hR := q_n c4 hR
          refine lv_aload_n hx hb nd_Model_count_29 rfl (lv_at hl 0 rfl) ?_
          refine va_get (D := D) (ci := 9) (v := .ref qchecked) (C := nR_Model) (T := nT_Model) (N := 32) hx hb hts ni_Model hown hK hP 0 rfl rfl 30 (by decide) (hts (.fieldLink nR_Model 85 "RoomClimateModel" "checked" "[Z") tt_753) (fun _ h9 => h9) rfl nd_Model_count_30 ?_
          refine lv_iload_n hx hb nd_Model_count_33 rfl (lv_at hl 3 rfl) ?_
          obtain ⟨h13, hR⟩ := q_ix hR
          refine va_zald hx hb hK hP 1 2 rfl rfl h13 nd_Model_count_34 ?_
          obtain ⟨j15_0, hJ15, hR⟩ := q_b1 hR
          have hN15 : ∀ (H : Heap) (locs : List Loc) (ls : Array Slot), va_P D vwCl [oc_Model qa0 u2_0 volume_ share_ qnow qkept qbooks qkeptBooks layers_ qconductances qcapacities kilograms_ rows_ qrowDamps qrowWaters qtold qlows qhighs qrates hours_ qriskRows qlevels qpointsOf qsums rules_ qruleKinds qruleLevels qholds qalarms qalarmHours qvalues qchecked qrights, aZ qchecked ca 300 checked_] H → va_D A [oc_Model qa0 u2_0 volume_ share_ qnow qkept qbooks qkeptBooks layers_ qconductances qcapacities kilograms_ rows_ qrowDamps qrowWaters qtold qlows qhighs qrates hours_ qriskRows qlevels qpointsOf qsums rules_ qruleKinds qruleLevels qholds qalarms qalarmHours qvalues qchecked qrights, aZ qchecked ca 300 checked_] → va_S A s.heap H locs → lv_has ls 4 [(0, .ref qa0), (1, .int x1), (2, .int i2_21), (3, .int i3_21)] → W p l e rm_Model_count s m ar below meth c H locs 0 0 Q (F0 m 45 ls [.int j15_0]) := by
            intro H locs ls hP hD hS hl
            refine lv_istore_n (lv' := [(2, .int j15_0), (0, .ref qa0), (1, .int x1), (3, .int i3_21)]) hx hb nd_Model_count_45 rfl hl (by decide) rfl (fun ls hl => ?_)
            refine lv_iinc (v := i3_21 + 1) (lv' := [(3, .int (i3_21 + 1)), (2, .int j15_0), (0, .ref qa0), (1, .int x1)]) hx hb nd_Model_count_46 hl (k := 3) rfl (by first | rfl | decide) (by decide) rfl (fun ls hl => ?_)
            refine lv_goto (tgt := 21) hx hb nd_Model_count_49 (by decide) ?_
            exact ih21 j15_0 (i3_21 + 1) _ _ _ hR hP hD hS (lv_sub hl [2, 3, 1, 0] rfl)
          refine lv_if_eq (tgt := 44) hx hb nd_Model_count_35 (by decide) (fun c14 => ?_) (fun c14 => ?_)
          · have hR := q_p c14 hJ15
            refine lv_iload_n hx hb nd_Model_count_44 rfl (lv_at hl 2 rfl) ?_
            cases hR
            exact hN15 _ _ _ hP hD hS (lv_sub hl [0, 1, 2, 3] rfl)
          · have hR := q_n c14 hJ15
            refine lv_iload_n hx hb nd_Model_count_38 rfl (lv_at hl 2 rfl) ?_
            refine lv_iconst (v := 1) hx hb nd_Model_count_39 (by decide) ?_
            refine lv_iadd hx hb nd_Model_count_40 ?_
            refine lv_goto (tgt := 45) hx hb nd_Model_count_41 (by decide) ?_
            cases hR
            exact hN15 _ _ _ hP hD hS (lv_sub hl [0, 1, 2, 3] rfl)
    exact hL21 400 (0 : Int32) (0 : Int32) _ _ _ hR hP hD hS (lv_sub hl [2, 3, 1, 0] rfl)
  · replace hR := q_p c3 hR
    refine lv_iconst (v := 0) hx hb nd_Model_count_15 (by decide) ?_
    exact hret ((0 : Int32), u2_0) _ _ _ _ nd_Model_count_16 hR hP hD hS
