def fn_Math_floorDiv (x0 : Int64) (x2 : Int64) : Option (Int64) :=
  (if x2 = 0 then none else
  (if 0 ≤ lg_cmp (x0 ^^^ x2) (0 : Int64) then
  some (x0 / x2)
  else
  (if lg_cmp ((x0 / x2) * x2) x0 = 0 then
  some (x0 / x2)
  else
  some ((x0 / x2) - (1 : Int64)))))
def rm_Math_floorDiv : Room := { frames := 0, cells := 0, slots := 0, locals := 0 }
theorem kc_Math_floorDiv : k_cal nY_Math_floorDiv nC_Math_floorDiv 6 (some .long) 2 := ⟨tt_257, tt_17, by decide +kernel⟩
theorem ks_Math_floorDiv : Cond.static nY_Math_floorDiv ∈ TT := tt_256
set_option maxHeartbeats 4000000 in
set_option maxRecDepth 100000 in
theorem cn_Math_floorDiv (l : Launch) (D : va_G) (ca : Nat → ClassId) (x0 : Int64) (x2 : Int64) (R0 : Int64) (hR : fn_Math_floorDiv x0 x2 = some R0) : Met l nY_Math_floorDiv (Cond.code nY_Math_floorDiv nC_Math_floorDiv 6 (some .long) :: TT) rm_Math_floorDiv (rd_P [.long x0, .long x2] D ca []) (vp_Sl (fun x => x = R0)) 0 0 (fun _ => False) := by
  refine rd_ofJ (by decide +kernel) (Nat.le_of_ble_eq_true rfl) ?_
  intro p e s m below meth c Q ar ls hx hb hml hts hown hP hK hl hret
  have hown : s.vm.findClass nR_Math = some m.cls := hown
  have hl : lv_has ls 6 [(0, .long x0), (2, .long x2)] := hl
  unfold fn_Math_floorDiv at hR
  refine lv_lload_n hx hb nd_Math_floorDiv_0 rfl (lv_at hl 0 rfl) ?_
  refine lv_lload_n hx hb nd_Math_floorDiv_1 rfl (lv_at hl 1 rfl) ?_
  obtain ⟨h1, hR⟩ := q_nz hR
  refine lv_ldiv hx hb nd_Math_floorDiv_2 h1 ?_
  refine lv_lstore (lv' := [(4, .long (x0 / x2)), (0, .long x0), (2, .long x2)]) hx hb nd_Math_floorDiv_3 hl (by decide) rfl (fun ls hl => ?_)
  refine lv_lload_n hx hb nd_Math_floorDiv_5 rfl (lv_at hl 1 rfl) ?_
  refine lv_lload_n hx hb nd_Math_floorDiv_6 rfl (lv_at hl 2 rfl) ?_
  refine lv_lxor hx hb nd_Math_floorDiv_7 ?_
  refine lv_lconst (v := 0) hx hb nd_Math_floorDiv_8 (by decide) ?_
  refine W.lcmp hx hb nd_Math_floorDiv_9 ?_
  refine lv_if_ge (tgt := 27) hx hb nd_Math_floorDiv_10 (by decide) (fun c2 => ?_) (fun c2 => ?_)
  · replace hR := q_p c2 hR
    refine lv_lload hx hb nd_Math_floorDiv_27 (lv_at hl 0 rfl) ?_
    exact hret _ _ _ nd_Math_floorDiv_29 (Option.some.inj hR)
  · replace hR := q_n c2 hR
    refine lv_lload hx hb nd_Math_floorDiv_13 (lv_at hl 0 rfl) ?_
    refine lv_lload_n hx hb nd_Math_floorDiv_15 rfl (lv_at hl 2 rfl) ?_
    refine lv_lmul hx hb nd_Math_floorDiv_16 ?_
    refine lv_lload_n hx hb nd_Math_floorDiv_17 rfl (lv_at hl 1 rfl) ?_
    refine W.lcmp hx hb nd_Math_floorDiv_18 ?_
    refine lv_if_eq (tgt := 27) hx hb nd_Math_floorDiv_19 (by decide) (fun c3 => ?_) (fun c3 => ?_)
    · replace hR := q_p c3 hR
      refine lv_lload hx hb nd_Math_floorDiv_27 (lv_at hl 0 rfl) ?_
      exact hret _ _ _ nd_Math_floorDiv_29 (Option.some.inj hR)
    · replace hR := q_n c3 hR
      refine lv_lload hx hb nd_Math_floorDiv_22 (lv_at hl 0 rfl) ?_
      refine lv_lconst (v := 1) hx hb nd_Math_floorDiv_24 (by decide) ?_
      refine lv_lsub hx hb nd_Math_floorDiv_25 ?_
      exact hret _ _ _ nd_Math_floorDiv_26 (Option.some.inj hR)
def fn_Room_by (x0 : Int64) (x2 : Int64) : Option (Int64) :=
  (if lg_cmp x2 (0 : Int64) ≤ 0 then
  some (0 : Int64)
  else
  (gx_b1 (fn_Math_floorDiv x0 x2) fun r2 =>
  some r2))
def rm_Room_by : Room := { frames := 1, cells := 0, slots := 0, locals := 25 }
theorem kc_Room_by : k_cal nY_Room_by nC_Room_by 4 (some .long) 2 := ⟨tt_254, tt_1, by decide +kernel⟩
theorem ks_Room_by : Cond.static nY_Room_by ∈ TT := tt_253
set_option maxHeartbeats 4000000 in
set_option maxRecDepth 100000 in
theorem cn_Room_by (l : Launch) (D : va_G) (ca : Nat → ClassId) (x0 : Int64) (x2 : Int64) (R0 : Int64) (hR : fn_Room_by x0 x2 = some R0) : Met l nY_Room_by (Cond.code nY_Room_by nC_Room_by 4 (some .long) :: TT) rm_Room_by (rd_P [.long x0, .long x2] D ca []) (vp_Sl (fun x => x = R0)) 0 0 (fun _ => False) := by
  refine rd_ofJ (by decide +kernel) (Nat.le_of_ble_eq_true rfl) ?_
  intro p e s m below meth c Q ar ls hx hb hml hts hown hP hK hl hret
  have hown : s.vm.findClass nR_Room = some m.cls := hown
  have hl : lv_has ls 4 [(0, .long x0), (2, .long x2)] := hl
  unfold fn_Room_by at hR
  refine lv_lload_n hx hb nd_Room_by_0 rfl (lv_at hl 1 rfl) ?_
  refine lv_lconst (v := 0) hx hb nd_Room_by_1 (by decide) ?_
  refine W.lcmp hx hb nd_Room_by_2 ?_
  refine lv_if_le (tgt := 14) hx hb nd_Room_by_3 (by decide) (fun c1 => ?_) (fun c1 => ?_)
  · replace hR := q_p c1 hR
    refine lv_lconst (v := 0) hx hb nd_Room_by_14 (by decide) ?_
    exact hret _ _ _ nd_Room_by_15 (Option.some.inj hR)
  · replace hR := q_n c1 hR
    refine lv_lload_n hx hb nd_Room_by_6 rfl (lv_at hl 0 rfl) ?_
    refine lv_lload_n hx hb nd_Room_by_7 rfl (lv_at hl 1 rfl) ?_
    obtain ⟨r2, e2, hR⟩ := q_b1 hR
    refine k_rSJ (As := [.long x0, .long x2]) (rest := []) (r := r2) hx hb hml hown hts (cn_Math_floorDiv l D ca x0 x2 r2 e2) kc_Math_floorDiv ks_Math_floorDiv tt_255 ⟨by decide, by decide⟩ rfl rfl hP hK [] rfl rfl hl.1 (Nat.le_of_ble_eq_true rfl) rfl nd_Room_by_8 ⟨Nat.zero_le _, Nat.zero_le _⟩ ?_
    refine lv_goto (tgt := 15) hx hb nd_Room_by_11 (by decide) ?_
    exact hret _ _ _ nd_Room_by_15 (Option.some.inj hR)
def fn_Interior_warmth (volume_ : Int32) (heat_ : Int64) : Option (Int64) :=
  (gx_b1 (fn_Room_by heat_ volume_.toInt64) fun r1 =>
  some r1)
def rm_Interior_warmth : Room := { frames := 2, cells := 0, slots := 0, locals := 48 }
theorem kc_Interior_warmth : k_cal nY_Interior_warmth nC_Interior_warmth 1 (some .long) 0 := ⟨tt_251, tt_4, by decide +kernel⟩
theorem kv_Interior_warmth : k_vir nY_Interior_warmth := ⟨tt_249, tt_250⟩
set_option maxHeartbeats 4000000 in
set_option maxRecDepth 100000 in
theorem cn_Interior_warmth (l : Launch) (D : va_G) (ca : Nat → ClassId) (qa0 qheatBooks qwaterBooks : Nat) (volume_ : Int32) (share_ : Int32) (heat_ : Int64) (water_ : Int64) (R0 : Int64) (hR : fn_Interior_warmth volume_ heat_ = some R0) : Met l nY_Interior_warmth (Cond.code nY_Interior_warmth nC_Interior_warmth 1 (some .long) :: TT) rm_Interior_warmth (rd_P [.ref qa0] D ca [oc_Interior qa0 qheatBooks qwaterBooks volume_ share_ heat_ water_]) (vp_Sl (fun x => x = R0)) 0 0 (fun _ => False) := by
  refine rd_ofJ (by decide +kernel) (Nat.le_of_ble_eq_true rfl) ?_
  intro p e s m below meth c Q ar ls hx hb hml hts hown hP hK hl hret
  have hown : s.vm.findClass nR_Interior = some m.cls := hown
  have hl : lv_has ls 1 [(0, .ref qa0)] := hl
  unfold fn_Interior_warmth at hR
  refine lv_aload_n hx hb nd_Interior_warmth_0 rfl (lv_at hl 0 rfl) ?_
  refine va_get (D := D) (ci := 3) (v := .long heat_) (C := nR_Interior) (T := nT_Interior) (N := 6) hx hb hts ni_Interior hown hK hP 0 rfl rfl 4 (by decide) (hts (.fieldLink nR_Interior 27 "RoomClimate$Interior" "heat" "J") tt_66) (fun _ h9 => h9) rfl nd_Interior_warmth_1 ?_
  refine lv_aload_n hx hb nd_Interior_warmth_4 rfl (lv_at hl 0 rfl) ?_
  refine va_get (D := D) (ci := 3) (v := .int volume_) (C := nR_Interior) (T := nT_Interior) (N := 6) hx hb hts ni_Interior hown hK hP 0 rfl rfl 2 (by decide) (hts (.fieldLink nR_Interior 18 "RoomClimate$Interior" "volume" "I") tt_62) (fun _ h9 => h9) rfl nd_Interior_warmth_5 ?_
  refine lv_i2l hx hb nd_Interior_warmth_8 rfl ?_
  obtain ⟨r1, e1, hR⟩ := q_b1 hR
  refine k_rSNJ (As := [.long heat_, .long volume_.toInt64]) (rest := []) (r := r1) hx hb hml hown hts (cn_Room_by l D ca heat_ volume_.toInt64 r1 e1) kc_Room_by ks_Room_by tt_252 ⟨by decide, by decide⟩ rfl rfl hP hK [] rfl rfl hl.1 (Nat.le_of_ble_eq_true rfl) rfl nd_Interior_warmth_9 ⟨Nat.zero_le _, Nat.zero_le _⟩ ?_
  exact hret _ _ _ nd_Interior_warmth_12 (Option.some.inj hR)
def fn_Interior_gainHeat (heat_ : Int64) (heatBooks_ : Nat → Int64) (x1 : Int32) (x2 : Int64) : Option (Int64 × (Nat → Int64)) :=
  (if gx_ix x1 5 then
  some (heat_ + x2, vp_updL heatBooks_ x1.toNatClampNeg ((heatBooks_ x1.toNatClampNeg) + x2))
  else none)
def rm_Interior_gainHeat : Room := { frames := 0, cells := 0, slots := 0, locals := 0 }
theorem kc_Interior_gainHeat : k_cal nY_Interior_gainHeat nC_Interior_gainHeat 4 none 2 := ⟨tt_461, tt_4, by decide +kernel⟩
theorem kv_Interior_gainHeat : k_vir nY_Interior_gainHeat := ⟨tt_459, tt_460⟩
set_option maxHeartbeats 4000000 in
set_option maxRecDepth 100000 in
theorem cn_Interior_gainHeat (l : Launch) (D : va_G) (ca : Nat → ClassId) (qa0 qheatBooks qwaterBooks : Nat) (volume_ : Int32) (share_ : Int32) (heat_ : Int64) (water_ : Int64) (heatBooks_ : Nat → Int64) (x1 : Int32) (x2 : Int64) (R0 : Int64) (R1 : Nat → Int64) (hR : fn_Interior_gainHeat heat_ heatBooks_ x1 x2 = some (R0, R1)) (sz : Nat) : Met l nY_Interior_gainHeat (Cond.code nY_Interior_gainHeat nC_Interior_gainHeat 4 none :: TT) rm_Interior_gainHeat (wr_P [.ref qa0, .int x1, .long x2] D ca [oc_Interior qa0 qheatBooks qwaterBooks volume_ share_ heat_ water_, aJ qheatBooks ca 5 heatBooks_] sz) (va_Qv (fun (_ : Unit) => True) (wr_B D [oc_Interior qa0 qheatBooks qwaterBooks volume_ share_ heat_ water_, aJ qheatBooks ca 5 heatBooks_] sz [oc_Interior qa0 qheatBooks qwaterBooks volume_ share_ R0 water_, aJ qheatBooks ca 5 R1]) (va_A [oc_Interior qa0 qheatBooks qwaterBooks volume_ share_ heat_ water_, aJ qheatBooks ca 5 heatBooks_] sz)) 0 0 (va_A [oc_Interior qa0 qheatBooks qwaterBooks volume_ share_ heat_ water_, aJ qheatBooks ca 5 heatBooks_] sz) := by
  refine wr_ofV (R := (R0, R1)) (w1 := fun r : Int64 × (Nat → Int64) => [oc_Interior qa0 qheatBooks qwaterBooks volume_ share_ r.1 water_, aJ qheatBooks ca 5 r.2]) (by decide +kernel) (Nat.le_of_ble_eq_true rfl) ?_
  intro p e s m below meth c Q ar ls hx hb hml hts hown hP hK A hD hA hl hret
  have hS : va_S A s.heap s.heap [] := va_S.rf
  have hown : s.vm.findClass nR_Interior = some m.cls := hown
  have hl : lv_has ls 4 [(0, .ref qa0), (1, .int x1), (2, .long x2)] := hl
  unfold fn_Interior_gainHeat at hR
  refine lv_aload_n hx hb nd_Interior_gainHeat_0 rfl (lv_at hl 0 rfl) ?_
  refine lv_dup hx hb nd_Interior_gainHeat_1 rfl ?_
  refine va_get (D := D) (ci := 3) (v := .long heat_) (C := nR_Interior) (T := nT_Interior) (N := 6) hx hb hts ni_Interior hown hK hP 0 rfl rfl 4 (by decide) (hts (.fieldLink nR_Interior 27 "RoomClimate$Interior" "heat" "J") tt_66) (fun _ h9 => h9) rfl nd_Interior_gainHeat_2 ?_
  refine lv_lload_n hx hb nd_Interior_gainHeat_5 rfl (lv_at hl 2 rfl) ?_
  refine lv_ladd hx hb nd_Interior_gainHeat_6 ?_
  refine va_put (D := D) (ci := 3) (v := .long (heat_ + x2)) (ty := .long) (C := nR_Interior) (T := nT_Interior) (N := 6) hx hb hts ni_Interior nt_Interior nt_Interior_ok nn_Interior hown hK hP hD hS 0 rfl rfl 4 (by decide) (hts (.fieldLink nR_Interior 27 "RoomClimate$Interior" "heat" "J") tt_66) (fun _ h9 => h9) rfl (by decide +kernel) rfl rfl (Nat.le_of_ble_eq_true rfl) nd_Interior_gainHeat_7 (fun H locs hP hD hS => ?_)
  have hP : va_P D vwCl [oc_Interior qa0 qheatBooks qwaterBooks volume_ share_ (heat_ + x2) water_, aJ qheatBooks ca 5 heatBooks_] H := hP
  have hD : va_D A [oc_Interior qa0 qheatBooks qwaterBooks volume_ share_ (heat_ + x2) water_, aJ qheatBooks ca 5 heatBooks_] := hD
  refine lv_aload_n hx hb nd_Interior_gainHeat_10 rfl (lv_at hl 0 rfl) ?_
  refine va_get (D := D) (ci := 3) (v := .ref qheatBooks) (C := nR_Interior) (T := nT_Interior) (N := 6) hx hb hts ni_Interior hown hK hP 0 rfl rfl 0 (by decide) (hts (.fieldLink nR_Interior 9 "RoomClimate$Interior" "heatBooks" "[J") tt_58) (fun _ h9 => h9) rfl nd_Interior_gainHeat_11 ?_
  refine lv_iload_n hx hb nd_Interior_gainHeat_14 rfl (lv_at hl 1 rfl) ?_
  refine lv_dup2_11 hx hb nd_Interior_gainHeat_15 rfl rfl ?_
  obtain ⟨h1, hR⟩ := q_ix hR
  refine va_lald hx hb hK hP 1 1 rfl rfl h1 nd_Interior_gainHeat_16 ?_
  refine lv_lload_n hx hb nd_Interior_gainHeat_17 rfl (lv_at hl 2 rfl) ?_
  refine lv_ladd hx hb nd_Interior_gainHeat_18 ?_
  refine va_last hx hb hK hP hD hS 1 1 rfl rfl h1 nd_Interior_gainHeat_19 (fun H locs hP hD hS => ?_)
  have hP : va_P D vwCl [oc_Interior qa0 qheatBooks qwaterBooks volume_ share_ (heat_ + x2) water_, aJ qheatBooks ca 5 (vp_updL heatBooks_ x1.toNatClampNeg ((heatBooks_ x1.toNatClampNeg) + x2))] H := hP
  have hD : va_D A [oc_Interior qa0 qheatBooks qwaterBooks volume_ share_ (heat_ + x2) water_, aJ qheatBooks ca 5 (vp_updL heatBooks_ x1.toNatClampNeg ((heatBooks_ x1.toNatClampNeg) + x2))] := hD
  exact hret (heat_ + x2, vp_updL heatBooks_ x1.toNatClampNeg ((heatBooks_ x1.toNatClampNeg) + x2)) _ _ _ _ nd_Interior_gainHeat_20 hR hP hD hS
def fn_Interior_moisture (volume_ : Int32) (water_ : Int64) : Option (Int64) :=
  (gx_b1 (fn_Room_by water_ volume_.toInt64) fun r1 =>
  some r1)
def rm_Interior_moisture : Room := { frames := 2, cells := 0, slots := 0, locals := 48 }
theorem kc_Interior_moisture : k_cal nY_Interior_moisture nC_Interior_moisture 1 (some .long) 0 := ⟨tt_265, tt_4, by decide +kernel⟩
theorem kv_Interior_moisture : k_vir nY_Interior_moisture := ⟨tt_263, tt_264⟩
set_option maxHeartbeats 4000000 in
set_option maxRecDepth 100000 in
theorem cn_Interior_moisture (l : Launch) (D : va_G) (ca : Nat → ClassId) (qa0 qheatBooks qwaterBooks : Nat) (volume_ : Int32) (share_ : Int32) (heat_ : Int64) (water_ : Int64) (R0 : Int64) (hR : fn_Interior_moisture volume_ water_ = some R0) : Met l nY_Interior_moisture (Cond.code nY_Interior_moisture nC_Interior_moisture 1 (some .long) :: TT) rm_Interior_moisture (rd_P [.ref qa0] D ca [oc_Interior qa0 qheatBooks qwaterBooks volume_ share_ heat_ water_]) (vp_Sl (fun x => x = R0)) 0 0 (fun _ => False) := by
  refine rd_ofJ (by decide +kernel) (Nat.le_of_ble_eq_true rfl) ?_
  intro p e s m below meth c Q ar ls hx hb hml hts hown hP hK hl hret
  have hown : s.vm.findClass nR_Interior = some m.cls := hown
  have hl : lv_has ls 1 [(0, .ref qa0)] := hl
  unfold fn_Interior_moisture at hR
  refine lv_aload_n hx hb nd_Interior_moisture_0 rfl (lv_at hl 0 rfl) ?_
  refine va_get (D := D) (ci := 3) (v := .long water_) (C := nR_Interior) (T := nT_Interior) (N := 6) hx hb hts ni_Interior hown hK hP 0 rfl rfl 5 (by decide) (hts (.fieldLink nR_Interior 33 "RoomClimate$Interior" "water" "J") tt_68) (fun _ h9 => h9) rfl nd_Interior_moisture_1 ?_
  refine lv_aload_n hx hb nd_Interior_moisture_4 rfl (lv_at hl 0 rfl) ?_
  refine va_get (D := D) (ci := 3) (v := .int volume_) (C := nR_Interior) (T := nT_Interior) (N := 6) hx hb hts ni_Interior hown hK hP 0 rfl rfl 2 (by decide) (hts (.fieldLink nR_Interior 18 "RoomClimate$Interior" "volume" "I") tt_62) (fun _ h9 => h9) rfl nd_Interior_moisture_5 ?_
  refine lv_i2l hx hb nd_Interior_moisture_8 rfl ?_
  obtain ⟨r1, e1, hR⟩ := q_b1 hR
  refine k_rSNJ (As := [.long water_, .long volume_.toInt64]) (rest := []) (r := r1) hx hb hml hown hts (cn_Room_by l D ca water_ volume_.toInt64 r1 e1) kc_Room_by ks_Room_by tt_252 ⟨by decide, by decide⟩ rfl rfl hP hK [] rfl rfl hl.1 (Nat.le_of_ble_eq_true rfl) rfl nd_Interior_moisture_9 ⟨Nat.zero_le _, Nat.zero_le _⟩ ?_
  exact hret _ _ _ nd_Interior_moisture_12 (Option.some.inj hR)
def fn_Interior_gainWater (water_ : Int64) (waterBooks_ : Nat → Int64) (x1 : Int32) (x2 : Int64) : Option (Int64 × (Nat → Int64)) :=
  (if gx_ix x1 5 then
  some (water_ + x2, vp_updL waterBooks_ x1.toNatClampNeg ((waterBooks_ x1.toNatClampNeg) + x2))
  else none)
def rm_Interior_gainWater : Room := { frames := 0, cells := 0, slots := 0, locals := 0 }
theorem kc_Interior_gainWater : k_cal nY_Interior_gainWater nC_Interior_gainWater 4 none 2 := ⟨tt_466, tt_4, by decide +kernel⟩
theorem kv_Interior_gainWater : k_vir nY_Interior_gainWater := ⟨tt_464, tt_465⟩
set_option maxHeartbeats 4000000 in
set_option maxRecDepth 100000 in
theorem cn_Interior_gainWater (l : Launch) (D : va_G) (ca : Nat → ClassId) (qa0 qheatBooks qwaterBooks : Nat) (volume_ : Int32) (share_ : Int32) (heat_ : Int64) (water_ : Int64) (waterBooks_ : Nat → Int64) (x1 : Int32) (x2 : Int64) (R0 : Int64) (R1 : Nat → Int64) (hR : fn_Interior_gainWater water_ waterBooks_ x1 x2 = some (R0, R1)) (sz : Nat) : Met l nY_Interior_gainWater (Cond.code nY_Interior_gainWater nC_Interior_gainWater 4 none :: TT) rm_Interior_gainWater (wr_P [.ref qa0, .int x1, .long x2] D ca [oc_Interior qa0 qheatBooks qwaterBooks volume_ share_ heat_ water_, aJ qwaterBooks ca 5 waterBooks_] sz) (va_Qv (fun (_ : Unit) => True) (wr_B D [oc_Interior qa0 qheatBooks qwaterBooks volume_ share_ heat_ water_, aJ qwaterBooks ca 5 waterBooks_] sz [oc_Interior qa0 qheatBooks qwaterBooks volume_ share_ heat_ R0, aJ qwaterBooks ca 5 R1]) (va_A [oc_Interior qa0 qheatBooks qwaterBooks volume_ share_ heat_ water_, aJ qwaterBooks ca 5 waterBooks_] sz)) 0 0 (va_A [oc_Interior qa0 qheatBooks qwaterBooks volume_ share_ heat_ water_, aJ qwaterBooks ca 5 waterBooks_] sz) := by
  refine wr_ofV (R := (R0, R1)) (w1 := fun r : Int64 × (Nat → Int64) => [oc_Interior qa0 qheatBooks qwaterBooks volume_ share_ heat_ r.1, aJ qwaterBooks ca 5 r.2]) (by decide +kernel) (Nat.le_of_ble_eq_true rfl) ?_
  intro p e s m below meth c Q ar ls hx hb hml hts hown hP hK A hD hA hl hret
  have hS : va_S A s.heap s.heap [] := va_S.rf
  have hown : s.vm.findClass nR_Interior = some m.cls := hown
  have hl : lv_has ls 4 [(0, .ref qa0), (1, .int x1), (2, .long x2)] := hl
  unfold fn_Interior_gainWater at hR
  refine lv_aload_n hx hb nd_Interior_gainWater_0 rfl (lv_at hl 0 rfl) ?_
  refine lv_dup hx hb nd_Interior_gainWater_1 rfl ?_
  refine va_get (D := D) (ci := 3) (v := .long water_) (C := nR_Interior) (T := nT_Interior) (N := 6) hx hb hts ni_Interior hown hK hP 0 rfl rfl 5 (by decide) (hts (.fieldLink nR_Interior 33 "RoomClimate$Interior" "water" "J") tt_68) (fun _ h9 => h9) rfl nd_Interior_gainWater_2 ?_
  refine lv_lload_n hx hb nd_Interior_gainWater_5 rfl (lv_at hl 2 rfl) ?_
  refine lv_ladd hx hb nd_Interior_gainWater_6 ?_
  refine va_put (D := D) (ci := 3) (v := .long (water_ + x2)) (ty := .long) (C := nR_Interior) (T := nT_Interior) (N := 6) hx hb hts ni_Interior nt_Interior nt_Interior_ok nn_Interior hown hK hP hD hS 0 rfl rfl 5 (by decide) (hts (.fieldLink nR_Interior 33 "RoomClimate$Interior" "water" "J") tt_68) (fun _ h9 => h9) rfl (by decide +kernel) rfl rfl (Nat.le_of_ble_eq_true rfl) nd_Interior_gainWater_7 (fun H locs hP hD hS => ?_)
  have hP : va_P D vwCl [oc_Interior qa0 qheatBooks qwaterBooks volume_ share_ heat_ (water_ + x2), aJ qwaterBooks ca 5 waterBooks_] H := hP
  have hD : va_D A [oc_Interior qa0 qheatBooks qwaterBooks volume_ share_ heat_ (water_ + x2), aJ qwaterBooks ca 5 waterBooks_] := hD
  refine lv_aload_n hx hb nd_Interior_gainWater_10 rfl (lv_at hl 0 rfl) ?_
  refine va_get (D := D) (ci := 3) (v := .ref qwaterBooks) (C := nR_Interior) (T := nT_Interior) (N := 6) hx hb hts ni_Interior hown hK hP 0 rfl rfl 1 (by decide) (hts (.fieldLink nR_Interior 15 "RoomClimate$Interior" "waterBooks" "[J") tt_60) (fun _ h9 => h9) rfl nd_Interior_gainWater_11 ?_
  refine lv_iload_n hx hb nd_Interior_gainWater_14 rfl (lv_at hl 1 rfl) ?_
  refine lv_dup2_11 hx hb nd_Interior_gainWater_15 rfl rfl ?_
  obtain ⟨h1, hR⟩ := q_ix hR
  refine va_lald hx hb hK hP 1 1 rfl rfl h1 nd_Interior_gainWater_16 ?_
  refine lv_lload_n hx hb nd_Interior_gainWater_17 rfl (lv_at hl 2 rfl) ?_
  refine lv_ladd hx hb nd_Interior_gainWater_18 ?_
  refine va_last hx hb hK hP hD hS 1 1 rfl rfl h1 nd_Interior_gainWater_19 (fun H locs hP hD hS => ?_)
  have hP : va_P D vwCl [oc_Interior qa0 qheatBooks qwaterBooks volume_ share_ heat_ (water_ + x2), aJ qwaterBooks ca 5 (vp_updL waterBooks_ x1.toNatClampNeg ((waterBooks_ x1.toNatClampNeg) + x2))] H := hP
  have hD : va_D A [oc_Interior qa0 qheatBooks qwaterBooks volume_ share_ heat_ (water_ + x2), aJ qwaterBooks ca 5 (vp_updL waterBooks_ x1.toNatClampNeg ((waterBooks_ x1.toNatClampNeg) + x2))] := hD
  exact hret (water_ + x2, vp_updL waterBooks_ x1.toNatClampNeg ((waterBooks_ x1.toNatClampNeg) + x2)) _ _ _ _ nd_Interior_gainWater_20 hR hP hD hS
def fn_Interior_exchangeAir (volume_ : Int32) (share_ : Int32) (heat_ : Int64) (water_ : Int64) (heatBooks_ : Nat → Int64) (waterBooks_ : Nat → Int64) (x1 : Int32) (x2 : Int32) : Option (Int64 × (Nat → Int64) × Int64 × (Nat → Int64)) :=
  (gx_b1 (fn_Interior_warmth volume_ heat_) fun r1 =>
  (gx_b1 (fn_Room_by ((share_.toInt64 * (x1.toInt64 - r1)) * volume_.toInt64) (1000 : Int64)) fun r2 =>
  (gx_b2 (fn_Interior_gainHeat heat_ heatBooks_ (0 : Int32) r2) fun u3_0 u3_1 =>
  (gx_b1 (fn_Interior_moisture volume_ water_) fun r4 =>
  (gx_b1 (fn_Room_by ((share_.toInt64 * (x2.toInt64 - r4)) * volume_.toInt64) (1000 : Int64)) fun r5 =>
  (gx_b2 (fn_Interior_gainWater water_ waterBooks_ (0 : Int32) r5) fun u6_0 u6_1 =>
  some (u3_0, u3_1, u6_0, u6_1)))))))
def rm_Interior_exchangeAir : Room := { frames := 3, cells := 0, slots := 0, locals := 68 }
theorem kc_Interior_exchangeAir : k_cal nY_Interior_exchangeAir nC_Interior_exchangeAir 3 none 2 := ⟨tt_455, tt_4, by decide +kernel⟩
theorem kv_Interior_exchangeAir : k_vir nY_Interior_exchangeAir := ⟨tt_453, tt_454⟩
set_option maxHeartbeats 4000000 in
set_option maxRecDepth 100000 in
theorem cn_Interior_exchangeAir (l : Launch) (D : va_G) (ca : Nat → ClassId) (qa0 qheatBooks qwaterBooks : Nat) (volume_ : Int32) (share_ : Int32) (heat_ : Int64) (water_ : Int64) (heatBooks_ : Nat → Int64) (waterBooks_ : Nat → Int64) (x1 : Int32) (x2 : Int32) (R0 : Int64) (R1 : Nat → Int64) (R2 : Int64) (R3 : Nat → Int64) (hR : fn_Interior_exchangeAir volume_ share_ heat_ water_ heatBooks_ waterBooks_ x1 x2 = some (R0, R1, R2, R3)) (sz : Nat) : Met l nY_Interior_exchangeAir (Cond.code nY_Interior_exchangeAir nC_Interior_exchangeAir 3 none :: TT) rm_Interior_exchangeAir (wr_P [.ref qa0, .int x1, .int x2] D ca [oc_Interior qa0 qheatBooks qwaterBooks volume_ share_ heat_ water_, aJ qheatBooks ca 5 heatBooks_, aJ qwaterBooks ca 5 waterBooks_] sz) (va_Qv (fun (_ : Unit) => True) (wr_B D [oc_Interior qa0 qheatBooks qwaterBooks volume_ share_ heat_ water_, aJ qheatBooks ca 5 heatBooks_, aJ qwaterBooks ca 5 waterBooks_] sz [oc_Interior qa0 qheatBooks qwaterBooks volume_ share_ R0 R2, aJ qheatBooks ca 5 R1, aJ qwaterBooks ca 5 R3]) (va_A [oc_Interior qa0 qheatBooks qwaterBooks volume_ share_ heat_ water_, aJ qheatBooks ca 5 heatBooks_, aJ qwaterBooks ca 5 waterBooks_] sz)) 0 0 (va_A [oc_Interior qa0 qheatBooks qwaterBooks volume_ share_ heat_ water_, aJ qheatBooks ca 5 heatBooks_, aJ qwaterBooks ca 5 waterBooks_] sz) := by
  refine wr_ofV (R := (R0, R1, R2, R3)) (w1 := fun r : Int64 × (Nat → Int64) × Int64 × (Nat → Int64) => [oc_Interior qa0 qheatBooks qwaterBooks volume_ share_ r.1 r.2.2.1, aJ qheatBooks ca 5 r.2.1, aJ qwaterBooks ca 5 r.2.2.2]) (by decide +kernel) (Nat.le_of_ble_eq_true rfl) ?_
  intro p e s m below meth c Q ar ls hx hb hml hts hown hP hK A hD hA hl hret
  have hS : va_S A s.heap s.heap [] := va_S.rf
  have hown : s.vm.findClass nR_Interior = some m.cls := hown
  have hl : lv_has ls 3 [(0, .ref qa0), (1, .int x1), (2, .int x2)] := hl
  unfold fn_Interior_exchangeAir at hR
  refine lv_aload_n hx hb nd_Interior_exchangeAir_0 rfl (lv_at hl 0 rfl) ?_
  refine lv_iconst (v := 0) hx hb nd_Interior_exchangeAir_1 (by decide) ?_
  refine lv_aload_n hx hb nd_Interior_exchangeAir_2 rfl (lv_at hl 0 rfl) ?_
  refine va_get (D := D) (ci := 3) (v := .int share_) (C := nR_Interior) (T := nT_Interior) (N := 6) hx hb hts ni_Interior hown hK hP 0 rfl rfl 3 (by decide) (hts (.fieldLink nR_Interior 22 "RoomClimate$Interior" "share" "I") tt_64) (fun _ h9 => h9) rfl nd_Interior_exchangeAir_3 ?_
  refine lv_i2l hx hb nd_Interior_exchangeAir_6 rfl ?_
  refine lv_iload_n hx hb nd_Interior_exchangeAir_7 rfl (lv_at hl 1 rfl) ?_
  refine lv_i2l hx hb nd_Interior_exchangeAir_8 rfl ?_
  refine lv_aload_n hx hb nd_Interior_exchangeAir_9 rfl (lv_at hl 0 rfl) ?_
  obtain ⟨r1, e1, hR⟩ := q_b1 hR
  refine k_rVJ (As := []) (rest := [.long x1.toInt64, .long share_.toInt64, .int (0 : Int32), .ref qa0]) (r := r1) hx hb hml hown hts (cn_Interior_warmth l D ca qa0 qheatBooks qwaterBooks volume_ share_ heat_ water_ r1 e1) kc_Interior_warmth kv_Interior_warmth tt_456 ⟨by decide, by decide⟩ rfl rfl hP hK [0] rfl 0 rfl rfl rfl rfl hl.1 (Nat.le_of_ble_eq_true rfl) rfl nd_Interior_exchangeAir_10 ⟨Nat.zero_le _, Nat.zero_le _⟩ ?_
  refine lv_lsub hx hb nd_Interior_exchangeAir_13 ?_
  refine lv_lmul hx hb nd_Interior_exchangeAir_14 ?_
  refine lv_aload_n hx hb nd_Interior_exchangeAir_15 rfl (lv_at hl 0 rfl) ?_
  refine va_get (D := D) (ci := 3) (v := .int volume_) (C := nR_Interior) (T := nT_Interior) (N := 6) hx hb hts ni_Interior hown hK hP 0 rfl rfl 2 (by decide) (hts (.fieldLink nR_Interior 18 "RoomClimate$Interior" "volume" "I") tt_62) (fun _ h9 => h9) rfl nd_Interior_exchangeAir_16 ?_
  refine lv_i2l hx hb nd_Interior_exchangeAir_19 rfl ?_
  refine lv_lmul hx hb nd_Interior_exchangeAir_20 ?_
  refine lv_ldc2 hx hb hown (hts _ tt_457) nd_Interior_exchangeAir_21 ?_
  obtain ⟨r2, e2, hR⟩ := q_b1 hR
  refine k_rSNJ (As := [.long ((share_.toInt64 * (x1.toInt64 - r1)) * volume_.toInt64), .long (1000 : Int64)]) (rest := [.int (0 : Int32), .ref qa0]) (r := r2) hx hb hml hown hts (cn_Room_by l D ca ((share_.toInt64 * (x1.toInt64 - r1)) * volume_.toInt64) (1000 : Int64) r2 e2) kc_Room_by ks_Room_by tt_252 ⟨by decide, by decide⟩ rfl rfl hP hK [] rfl rfl hl.1 (Nat.le_of_ble_eq_true rfl) rfl nd_Interior_exchangeAir_24 ⟨Nat.zero_le _, Nat.zero_le _⟩ ?_
  obtain ⟨u3_0, u3_1, e3, hR⟩ := q_b2 hR
  refine k_wVV (w2 := [oc_Interior qa0 qheatBooks qwaterBooks volume_ share_ u3_0 water_, aJ qheatBooks ca 5 u3_1, aJ qwaterBooks ca 5 waterBooks_]) (As := [.int (0 : Int32), .long r2]) (rest := []) hx hb hml hown hts (cn_Interior_gainHeat l D ca qa0 qheatBooks qwaterBooks volume_ share_ heat_ water_ heatBooks_ (0 : Int32) r2 u3_0 u3_1 e3 H.size) kc_Interior_gainHeat kv_Interior_gainHeat tt_458 ⟨by decide, by decide⟩ rfl rfl hP hK hD hS hA [0, 1] [2] [1, 2, 0] rfl (by decide) rfl (by decide) (by decide) rfl (by decide) 0 rfl rfl rfl rfl hl.1 (Nat.le_of_ble_eq_true rfl) rfl nd_Interior_exchangeAir_27 ⟨Nat.zero_le _, Nat.zero_le _⟩ (fun H locs hP hD hS => ?_)
  refine lv_aload_n hx hb nd_Interior_exchangeAir_30 rfl (lv_at hl 0 rfl) ?_
  refine lv_iconst (v := 0) hx hb nd_Interior_exchangeAir_31 (by decide) ?_
  refine lv_aload_n hx hb nd_Interior_exchangeAir_32 rfl (lv_at hl 0 rfl) ?_
  refine va_get (D := D) (ci := 3) (v := .int share_) (C := nR_Interior) (T := nT_Interior) (N := 6) hx hb hts ni_Interior hown hK hP 0 rfl rfl 3 (by decide) (hts (.fieldLink nR_Interior 22 "RoomClimate$Interior" "share" "I") tt_64) (fun _ h9 => h9) rfl nd_Interior_exchangeAir_33 ?_
  refine lv_i2l hx hb nd_Interior_exchangeAir_36 rfl ?_
  refine lv_iload_n hx hb nd_Interior_exchangeAir_37 rfl (lv_at hl 2 rfl) ?_
  refine lv_i2l hx hb nd_Interior_exchangeAir_38 rfl ?_
  refine lv_aload_n hx hb nd_Interior_exchangeAir_39 rfl (lv_at hl 0 rfl) ?_
  obtain ⟨r4, e4, hR⟩ := q_b1 hR
  refine k_rVJ (As := []) (rest := [.long x2.toInt64, .long share_.toInt64, .int (0 : Int32), .ref qa0]) (r := r4) hx hb hml hown hts (cn_Interior_moisture l D ca qa0 qheatBooks qwaterBooks volume_ share_ u3_0 water_ r4 e4) kc_Interior_moisture kv_Interior_moisture tt_462 ⟨by decide, by decide⟩ rfl rfl hP hK [0] rfl 0 rfl rfl rfl rfl hl.1 (Nat.le_of_ble_eq_true rfl) rfl nd_Interior_exchangeAir_40 ⟨Nat.zero_le _, Nat.zero_le _⟩ ?_
  refine lv_lsub hx hb nd_Interior_exchangeAir_43 ?_
  refine lv_lmul hx hb nd_Interior_exchangeAir_44 ?_
  refine lv_aload_n hx hb nd_Interior_exchangeAir_45 rfl (lv_at hl 0 rfl) ?_
  refine va_get (D := D) (ci := 3) (v := .int volume_) (C := nR_Interior) (T := nT_Interior) (N := 6) hx hb hts ni_Interior hown hK hP 0 rfl rfl 2 (by decide) (hts (.fieldLink nR_Interior 18 "RoomClimate$Interior" "volume" "I") tt_62) (fun _ h9 => h9) rfl nd_Interior_exchangeAir_46 ?_
  refine lv_i2l hx hb nd_Interior_exchangeAir_49 rfl ?_
  refine lv_lmul hx hb nd_Interior_exchangeAir_50 ?_
  refine lv_ldc2 hx hb hown (hts _ tt_457) nd_Interior_exchangeAir_51 ?_
  obtain ⟨r5, e5, hR⟩ := q_b1 hR
  refine k_rSNJ (As := [.long ((share_.toInt64 * (x2.toInt64 - r4)) * volume_.toInt64), .long (1000 : Int64)]) (rest := [.int (0 : Int32), .ref qa0]) (r := r5) hx hb hml hown hts (cn_Room_by l D ca ((share_.toInt64 * (x2.toInt64 - r4)) * volume_.toInt64) (1000 : Int64) r5 e5) kc_Room_by ks_Room_by tt_252 ⟨by decide, by decide⟩ rfl rfl hP hK [] rfl rfl hl.1 (Nat.le_of_ble_eq_true rfl) rfl nd_Interior_exchangeAir_54 ⟨Nat.zero_le _, Nat.zero_le _⟩ ?_
  obtain ⟨u6_0, u6_1, e6, hR⟩ := q_b2 hR
  refine k_wVV (w2 := [oc_Interior qa0 qheatBooks qwaterBooks volume_ share_ u3_0 u6_0, aJ qheatBooks ca 5 u3_1, aJ qwaterBooks ca 5 u6_1]) (As := [.int (0 : Int32), .long r5]) (rest := []) hx hb hml hown hts (cn_Interior_gainWater l D ca qa0 qheatBooks qwaterBooks volume_ share_ u3_0 water_ waterBooks_ (0 : Int32) r5 u6_0 u6_1 e6 H.size) kc_Interior_gainWater kv_Interior_gainWater tt_463 ⟨by decide, by decide⟩ rfl rfl hP hK hD hS hA [0, 2] [1] [1, 0, 2] rfl (by decide) rfl (by decide) (by decide) rfl (by decide) 0 rfl rfl rfl rfl hl.1 (Nat.le_of_ble_eq_true rfl) rfl nd_Interior_exchangeAir_57 ⟨Nat.zero_le _, Nat.zero_le _⟩ (fun H locs hP hD hS => ?_)
  exact hret (u3_0, u3_1, u6_0, u6_1) _ _ _ _ nd_Interior_exchangeAir_60 hR hP hD hS
def fn_Steps_amountUpTo_L2 (x1 : Int64) (size_ : Int32) (amounts_ : Nat → Int32) (levels_ : Nat → Int32) (n_a0 : Nat) : Nat → Int32 → Option (Int32)
  | 0, _ => none
  | n + 1, i3_2 =>
    (if size_ ≤ i3_2 then
    (if size_ ≤ 0 then
    some (0 : Int32)
    else
    (if gx_ix (size_ - (1 : Int32)) n_a0 then
    some (amounts_ (size_ - (1 : Int32)).toNatClampNeg)
    else none))
    else
    (if gx_ix i3_2 n_a0 then
    (if lg_cmp ((levels_ i3_2.toNatClampNeg).toInt64) x1 < 0 then
    fn_Steps_amountUpTo_L2 x1 size_ amounts_ levels_ n_a0 n (i3_2 + 1)
    else
    some (amounts_ i3_2.toNatClampNeg))
    else none))
def fn_Steps_amountUpTo (size_ : Int32) (amounts_ : Nat → Int32) (levels_ : Nat → Int32) (n_a0 : Nat) (x1 : Int64) : Option (Int32) :=
  fn_Steps_amountUpTo_L2 x1 size_ amounts_ levels_ n_a0 8 (0 : Int32)
def rm_Steps_amountUpTo : Room := { frames := 0, cells := 0, slots := 0, locals := 0 }
theorem kc_Steps_amountUpTo : k_cal nY_Steps_amountUpTo nC_Steps_amountUpTo 4 (some .int) 1 := ⟨tt_487, tt_2, by decide +kernel⟩
theorem kv_Steps_amountUpTo : k_vir nY_Steps_amountUpTo := ⟨tt_485, tt_486⟩
set_option maxHeartbeats 4000000 in
set_option maxRecDepth 100000 in
theorem cn_Steps_amountUpTo (l : Launch) (D : va_G) (ca : Nat → ClassId) (qa0 qlevels qamounts : Nat) (size_ : Int32) (amounts_ : Nat → Int32) (levels_ : Nat → Int32) (n_a0 : Nat) (x1 : Int64) (R0 : Int32) (hR : fn_Steps_amountUpTo size_ amounts_ levels_ n_a0 x1 = some R0) : Met l nY_Steps_amountUpTo (Cond.code nY_Steps_amountUpTo nC_Steps_amountUpTo 4 (some .int) :: TT) rm_Steps_amountUpTo (rd_P [.ref qa0, .long x1] D ca [oc_Steps qa0 qlevels qamounts size_, aI qamounts ca n_a0 amounts_, aI qlevels ca n_a0 levels_]) (vp_Si (fun x => x = R0)) 0 0 (fun _ => False) := by
  refine rd_ofI (by decide +kernel) (Nat.le_of_ble_eq_true rfl) ?_
  intro p e s m below meth c Q ar ls hx hb hml hts hown hP hK hl hret
  have hown : s.vm.findClass nR_Steps = some m.cls := hown
  have hl : lv_has ls 4 [(0, .ref qa0), (1, .long x1)] := hl
  unfold fn_Steps_amountUpTo at hR
  refine lv_iconst (v := 0) hx hb nd_Steps_amountUpTo_0 (by decide) ?_
  refine lv_istore_n (lv' := [(3, .int (0 : Int32)), (0, .ref qa0), (1, .long x1)]) hx hb nd_Steps_amountUpTo_1 rfl hl (by decide) rfl (fun ls hl => ?_)
  have hL2 : ∀ (n : Nat) (i3_2 : Int32) (ls : Array Slot), fn_Steps_amountUpTo_L2 x1 size_ amounts_ levels_ n_a0 n i3_2 = some R0 → lv_has ls 4 [(0, .ref qa0), (1, .long x1), (3, .int i3_2)] → W p l e rm_Steps_amountUpTo s m ar below meth c s.heap [] 0 0 Q (F0 m 2 ls []) := by
    intro n
    induction n with
    | zero => intro i3_2 ls hR; exact nomatch hR
    | succ n ih =>
      intro i3_2 ls hR  hl
      rw [fn_Steps_amountUpTo_L2] at hR
      refine lv_iload_n hx hb nd_Steps_amountUpTo_2 rfl (lv_at hl 2 rfl) ?_
      refine lv_aload_n hx hb nd_Steps_amountUpTo_3 rfl (lv_at hl 0 rfl) ?_
      refine va_get (D := D) (ci := 6) (v := .int size_) (C := nR_Steps) (T := nT_Steps) (N := 3) hx hb hts ni_Steps hown hK hP 0 rfl rfl 2 (by decide) (hts (.fieldLink nR_Steps 16 "RoomClimate$Steps" "size" "I") tt_34) (fun _ h9 => h9) rfl nd_Steps_amountUpTo_4 ?_
      refine lv_icmp_ge (tgt := 35) hx hb nd_Steps_amountUpTo_7 (by decide) (fun c1 => ?_) (fun c1 => ?_)
      · replace hR := q_p c1 hR
        refine lv_aload_n hx hb nd_Steps_amountUpTo_35 rfl (lv_at hl 0 rfl) ?_
        refine va_get (D := D) (ci := 6) (v := .int size_) (C := nR_Steps) (T := nT_Steps) (N := 3) hx hb hts ni_Steps hown hK hP 0 rfl rfl 2 (by decide) (hts (.fieldLink nR_Steps 16 "RoomClimate$Steps" "size" "I") tt_34) (fun _ h9 => h9) rfl nd_Steps_amountUpTo_36 ?_
        refine lv_if_le (tgt := 56) hx hb nd_Steps_amountUpTo_39 (by decide) (fun c2 => ?_) (fun c2 => ?_)
        · replace hR := q_p c2 hR
          refine lv_iconst (v := 0) hx hb nd_Steps_amountUpTo_56 (by decide) ?_
          exact hret _ _ _ nd_Steps_amountUpTo_57 (Option.some.inj hR)
        · replace hR := q_n c2 hR
          refine lv_aload_n hx hb nd_Steps_amountUpTo_42 rfl (lv_at hl 0 rfl) ?_
          refine va_get (D := D) (ci := 6) (v := .ref qamounts) (C := nR_Steps) (T := nT_Steps) (N := 3) hx hb hts ni_Steps hown hK hP 0 rfl rfl 1 (by decide) (hts (.fieldLink nR_Steps 13 "RoomClimate$Steps" "amounts" "[I") tt_33) (fun _ h9 => h9) rfl nd_Steps_amountUpTo_43 ?_
          refine lv_aload_n hx hb nd_Steps_amountUpTo_46 rfl (lv_at hl 0 rfl) ?_
          refine va_get (D := D) (ci := 6) (v := .int size_) (C := nR_Steps) (T := nT_Steps) (N := 3) hx hb hts ni_Steps hown hK hP 0 rfl rfl 2 (by decide) (hts (.fieldLink nR_Steps 16 "RoomClimate$Steps" "size" "I") tt_34) (fun _ h9 => h9) rfl nd_Steps_amountUpTo_47 ?_
          refine lv_iconst (v := 1) hx hb nd_Steps_amountUpTo_50 (by decide) ?_
          refine lv_isub hx hb nd_Steps_amountUpTo_51 ?_
          obtain ⟨h3, hR⟩ := q_ix hR
          refine va_iald hx hb hK hP 1 0 rfl rfl h3 nd_Steps_amountUpTo_52 ?_
          refine lv_goto (tgt := 57) hx hb nd_Steps_amountUpTo_53 (by decide) ?_
          exact hret _ _ _ nd_Steps_amountUpTo_57 (Option.some.inj hR)
      · replace hR := q_n c1 hR
        refine lv_aload_n hx hb nd_Steps_amountUpTo_10 rfl (lv_at hl 0 rfl) ?_
        refine va_get (D := D) (ci := 6) (v := .ref qlevels) (C := nR_Steps) (T := nT_Steps) (N := 3) hx hb hts ni_Steps hown hK hP 0 rfl rfl 0 (by decide) (hts (.fieldLink nR_Steps 7 "RoomClimate$Steps" "levels" "[I") tt_32) (fun _ h9 => h9) rfl nd_Steps_amountUpTo_11 ?_
        refine lv_iload_n hx hb nd_Steps_amountUpTo_14 rfl (lv_at hl 2 rfl) ?_
        obtain ⟨h4, hR⟩ := q_ix hR
        refine va_iald hx hb hK hP 2 0 rfl rfl h4 nd_Steps_amountUpTo_15 ?_
        refine lv_i2l hx hb nd_Steps_amountUpTo_16 rfl ?_
        refine lv_lload_n hx hb nd_Steps_amountUpTo_17 rfl (lv_at hl 1 rfl) ?_
        refine W.lcmp hx hb nd_Steps_amountUpTo_18 ?_
        refine lv_if_lt (tgt := 29) hx hb nd_Steps_amountUpTo_19 (by decide) (fun c5 => ?_) (fun c5 => ?_)
        · replace hR := q_p c5 hR
          refine lv_iinc (v := i3_2 + 1) (lv' := [(3, .int (i3_2 + 1)), (0, .ref qa0), (1, .long x1)]) hx hb nd_Steps_amountUpTo_29 hl (k := 2) rfl (by first | rfl | decide) (by decide) rfl (fun ls hl => ?_)
          refine lv_goto (tgt := 2) hx hb nd_Steps_amountUpTo_32 (by decide) ?_
          exact ih (i3_2 + 1) _ hR  (lv_sub hl [1, 2, 0] rfl)
        · replace hR := q_n c5 hR
          refine lv_aload_n hx hb nd_Steps_amountUpTo_22 rfl (lv_at hl 0 rfl) ?_
          refine va_get (D := D) (ci := 6) (v := .ref qamounts) (C := nR_Steps) (T := nT_Steps) (N := 3) hx hb hts ni_Steps hown hK hP 0 rfl rfl 1 (by decide) (hts (.fieldLink nR_Steps 13 "RoomClimate$Steps" "amounts" "[I") tt_33) (fun _ h9 => h9) rfl nd_Steps_amountUpTo_23 ?_
          refine lv_iload_n hx hb nd_Steps_amountUpTo_26 rfl (lv_at hl 2 rfl) ?_
          refine va_iald hx hb hK hP 1 0 rfl rfl h4 nd_Steps_amountUpTo_27 ?_
          exact hret _ _ _ nd_Steps_amountUpTo_28 (Option.some.inj hR)
  exact hL2 8 (0 : Int32) _ hR  (lv_sub hl [1, 2, 0] rfl)
