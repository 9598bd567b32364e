def rm_Room_requireWithin : Room := { frames := 8, cells := 0, slots := 0, locals := 140 }
theorem kc_Room_requireWithin : k_cal nY_Room_requireWithin nC_Room_requireWithin 3 none 3 := ⟨tt_280, tt_1, by decide +kernel⟩
theorem ks_Room_requireWithin : Cond.static nY_Room_requireWithin ∈ TT := tt_279
set_option maxHeartbeats 4000000 in
set_option maxRecDepth 100000 in
theorem cn_Room_requireWithin (l : Launch) (D : va_G) (ca : Nat → ClassId) (x0 : Int32) (x1 : Int32) (x2 : Int32) (hR : fn_Room_requireWithin x0 x1 x2 = some (.inr ())) : Met l nY_Room_requireWithin (Cond.code nY_Room_requireWithin nC_Room_requireWithin 3 none :: TT) rm_Room_requireWithin (rd_P [.int x0, .int x1, .int x2] D ca []) (va_Sv (fun _ => True)) 0 0 (fun _ => False) := by
  refine rd_ofV (by decide +kernel) (Nat.le_of_ble_eq_true rfl) ?_
  intro p e s m below meth c Q ar ls hx hb hml hts hown hP hK hl hret
  have hown : s.vm.findClass nR_Room = some m.cls := hown
  have hl : lv_has ls 3 [(0, .int x0), (1, .int x1), (2, .int x2)] := hl
  unfold fn_Room_requireWithin at hR
  refine lv_iload_n hx hb nd_Room_requireWithin_0 rfl (lv_at hl 0 rfl) ?_
  refine lv_iload_n hx hb nd_Room_requireWithin_1 rfl (lv_at hl 1 rfl) ?_
  refine lv_icmp_lt (tgt := 10) hx hb nd_Room_requireWithin_2 (by decide) (fun c1 => ?_) (fun c1 => ?_)
  · replace hR := q_p c1 hR
    exact nomatch (Option.some.inj hR)
  · replace hR := q_n c1 hR
    refine lv_iload_n hx hb nd_Room_requireWithin_5 rfl (lv_at hl 0 rfl) ?_
    refine lv_iload_n hx hb nd_Room_requireWithin_6 rfl (lv_at hl 2 rfl) ?_
    refine lv_icmp_le (tgt := 20) hx hb nd_Room_requireWithin_7 (by decide) (fun c2 => ?_) (fun c2 => ?_)
    · replace hR := q_p c2 hR
      replace hR := q_lr hR
      exact hret _ _ nd_Room_requireWithin_20
    · replace hR := q_n c2 hR
      exact nomatch (Option.some.inj hR)
def rm_Room_room : Room := { frames := 9, cells := 0, slots := 0, locals := 162 }
theorem kc_Room_room : k_cal nY_Room_room nC_Room_room 3 none 2 := ⟨tt_277, tt_1, by decide +kernel⟩
theorem kv_Room_room : k_vir nY_Room_room := ⟨tt_275, tt_276⟩
set_option maxHeartbeats 4000000 in
set_option maxRecDepth 100000 in
theorem cn_Room_room (l : Launch) (D : va_G) (ca : Nat → ClassId) (qa0 qhouse qtrial qrisks qriskPoints qrules qgauge qinside qwalls qgoods qmachines qheatBooks qwaterBooks : Nat) (hoursGone_ : Int32) (volume_ : Int32) (share_ : Int32) (heat_ : Int64) (water_ : Int64) (x1 : Int32) (x2 : Int32) (R0 : Int32) (R1 : Int32) (hR : fn_Room_room x1 x2 = some (.inr (R0, R1))) (sz : Nat) : Met l nY_Room_room (Cond.code nY_Room_room nC_Room_room 3 none :: TT) rm_Room_room (wr_P [.ref qa0, .int x1, .int x2] D ca [oc_Room qa0 qhouse qtrial qrisks qriskPoints qrules qgauge hoursGone_, oc_House qhouse qinside qwalls qgoods qmachines, oc_Interior qinside qheatBooks qwaterBooks volume_ share_ heat_ water_] sz) (va_Qv (fun (_ : Unit) => True) (wr_B D [oc_Room qa0 qhouse qtrial qrisks qriskPoints qrules qgauge hoursGone_, oc_House qhouse qinside qwalls qgoods qmachines, oc_Interior qinside qheatBooks qwaterBooks volume_ share_ heat_ water_] sz [oc_Room qa0 qhouse qtrial qrisks qriskPoints qrules qgauge hoursGone_, oc_House qhouse qinside qwalls qgoods qmachines, oc_Interior qinside qheatBooks qwaterBooks R0 R1 heat_ water_]) (va_A [oc_Room qa0 qhouse qtrial qrisks qriskPoints qrules qgauge hoursGone_, oc_House qhouse qinside qwalls qgoods qmachines, oc_Interior qinside qheatBooks qwaterBooks volume_ share_ heat_ water_] sz)) 0 0 (va_A [oc_Room qa0 qhouse qtrial qrisks qriskPoints qrules qgauge hoursGone_, oc_House qhouse qinside qwalls qgoods qmachines, oc_Interior qinside qheatBooks qwaterBooks volume_ share_ heat_ water_] sz) := by
  refine wr_ofV (R := (R0, R1)) (w1 := fun r : Int32 × Int32 => [oc_Room qa0 qhouse qtrial qrisks qriskPoints qrules qgauge hoursGone_, oc_House qhouse qinside qwalls qgoods qmachines, oc_Interior qinside qheatBooks qwaterBooks r.1 r.2 heat_ water_]) (by decide +kernel) (Nat.le_of_ble_eq_true rfl) ?_
  intro p e s m below meth c Q ar ls hx hb hml hts hown hP hK A hD hA hl hret
  have hS : va_S A s.heap s.heap [] := va_S.rf
  have hown : s.vm.findClass nR_Room = some m.cls := hown
  have hl : lv_has ls 3 [(0, .ref qa0), (1, .int x1), (2, .int x2)] := hl
  unfold fn_Room_room at hR
  refine lv_iload_n hx hb nd_Room_room_0 rfl (lv_at hl 1 rfl) ?_
  refine lv_iconst (v := 1) hx hb nd_Room_room_1 (by decide) ?_
  refine lv_sipush (v := 1000) hx hb nd_Room_room_2 (by decide) ?_
  obtain ⟨e1, hR⟩ := q_xr hR
  refine k_rSV (As := [.int x1, .int (1 : Int32), .int (1000 : Int32)]) (rest := []) hx hb hml hown hts (cn_Room_requireWithin l D ca x1 (1 : Int32) (1000 : Int32) e1) kc_Room_requireWithin ks_Room_requireWithin tt_278 ⟨by decide, by decide⟩ rfl rfl hP hK [] rfl rfl hl.1 (Nat.le_of_ble_eq_true rfl) rfl nd_Room_room_5 ⟨Nat.zero_le _, Nat.zero_le _⟩ ?_
  refine lv_iload_n hx hb nd_Room_room_8 rfl (lv_at hl 2 rfl) ?_
  refine lv_iconst (v := 0) hx hb nd_Room_room_9 (by decide) ?_
  refine lv_sipush (v := 1000) hx hb nd_Room_room_10 (by decide) ?_
  obtain ⟨e2, hR⟩ := q_xr hR
  refine k_rSV (As := [.int x2, .int (0 : Int32), .int (1000 : Int32)]) (rest := []) hx hb hml hown hts (cn_Room_requireWithin l D ca x2 (0 : Int32) (1000 : Int32) e2) kc_Room_requireWithin ks_Room_requireWithin tt_278 ⟨by decide, by decide⟩ rfl rfl hP hK [] rfl rfl hl.1 (Nat.le_of_ble_eq_true rfl) rfl nd_Room_room_13 ⟨Nat.zero_le _, Nat.zero_le _⟩ ?_
  replace hR := q_lr hR
  refine lv_aload_n hx hb nd_Room_room_16 rfl (lv_at hl 0 rfl) ?_
  refine va_get (D := D) (ci := 8) (v := .ref qhouse) (C := nR_Room) (T := nT_Room) (N := 7) hx hb hts ni_Room hown hK hP 0 rfl rfl 0 (by decide) (hts (.fieldLink nR_Room 19 "RoomClimate" "house" "LRoomClimate$House;") tt_222) (fun _ h9 => h9) rfl nd_Room_room_17 ?_
  refine va_getN (D := D) (ci := 2) (v := .ref qinside) (C := nR_House) (T := nT_House) (N := 4) hx hb hts ni_House hown hK hP 1 rfl rfl 0 (by decide) (hts (.fieldLinkNest nR_Room 56 "RoomClimate$House" "inside" "LRoomClimate$Interior;" "RoomClimate") tt_150) (fun _ h9 => h9) rfl nd_Room_room_20 ?_
  refine lv_iload_n hx hb nd_Room_room_23 rfl (lv_at hl 1 rfl) ?_
  refine va_putN (D := D) (ci := 3) (v := .int x1) (ty := .int) (C := nR_Interior) (T := nT_Interior) (N := 6) hx hb hts ni_Interior nt_Interior nt_Interior_ok nn_Interior hown hK hP hD hS 2 rfl rfl 2 (by decide) (hts (.fieldLinkNest nR_Room 60 "RoomClimate$Interior" "volume" "I" "RoomClimate") tt_63) (fun _ h9 => h9) rfl (by decide +kernel) rfl rfl (Nat.le_of_ble_eq_true rfl) nd_Room_room_24 (fun H locs hP hD hS => ?_)
  have hP : va_P D vwCl [oc_Room qa0 qhouse qtrial qrisks qriskPoints qrules qgauge hoursGone_, oc_House qhouse qinside qwalls qgoods qmachines, oc_Interior qinside qheatBooks qwaterBooks x1 share_ heat_ water_] H := hP
  have hD : va_D A [oc_Room qa0 qhouse qtrial qrisks qriskPoints qrules qgauge hoursGone_, oc_House qhouse qinside qwalls qgoods qmachines, oc_Interior qinside qheatBooks qwaterBooks x1 share_ heat_ water_] := hD
  refine lv_aload_n hx hb nd_Room_room_27 rfl (lv_at hl 0 rfl) ?_
  refine va_get (D := D) (ci := 8) (v := .ref qhouse) (C := nR_Room) (T := nT_Room) (N := 7) hx hb hts ni_Room hown hK hP 0 rfl rfl 0 (by decide) (hts (.fieldLink nR_Room 19 "RoomClimate" "house" "LRoomClimate$House;") tt_222) (fun _ h9 => h9) rfl nd_Room_room_28 ?_
  refine va_getN (D := D) (ci := 2) (v := .ref qinside) (C := nR_House) (T := nT_House) (N := 4) hx hb hts ni_House hown hK hP 1 rfl rfl 0 (by decide) (hts (.fieldLinkNest nR_Room 56 "RoomClimate$House" "inside" "LRoomClimate$Interior;" "RoomClimate") tt_150) (fun _ h9 => h9) rfl nd_Room_room_31 ?_
  refine lv_iload_n hx hb nd_Room_room_34 rfl (lv_at hl 2 rfl) ?_
  refine va_putN (D := D) (ci := 3) (v := .int x2) (ty := .int) (C := nR_Interior) (T := nT_Interior) (N := 6) hx hb hts ni_Interior nt_Interior nt_Interior_ok nn_Interior hown hK hP hD hS 2 rfl rfl 3 (by decide) (hts (.fieldLinkNest nR_Room 65 "RoomClimate$Interior" "share" "I" "RoomClimate") tt_65) (fun _ h9 => h9) rfl (by decide +kernel) rfl rfl (Nat.le_of_ble_eq_true rfl) nd_Room_room_35 (fun H locs hP hD hS => ?_)
  have hP : va_P D vwCl [oc_Room qa0 qhouse qtrial qrisks qriskPoints qrules qgauge hoursGone_, oc_House qhouse qinside qwalls qgoods qmachines, oc_Interior qinside qheatBooks qwaterBooks x1 x2 heat_ water_] H := hP
  have hD : va_D A [oc_Room qa0 qhouse qtrial qrisks qriskPoints qrules qgauge hoursGone_, oc_House qhouse qinside qwalls qgoods qmachines, oc_Interior qinside qheatBooks qwaterBooks x1 x2 heat_ water_] := hD
  exact hret (x1, x2) _ _ _ _ nd_Room_room_38 hR hP hD hS
def rm_Room_requireSpace : Room := { frames := 8, cells := 0, slots := 0, locals := 140 }
theorem kc_Room_requireSpace : k_cal nY_Room_requireSpace nC_Room_requireSpace 2 none 2 := ⟨tt_359, tt_1, by decide +kernel⟩
theorem ks_Room_requireSpace : Cond.static nY_Room_requireSpace ∈ TT := tt_358
set_option maxHeartbeats 4000000 in
set_option maxRecDepth 100000 in
theorem cn_Room_requireSpace (l : Launch) (D : va_G) (ca : Nat → ClassId) (x0 : Int32) (x1 : Int32) (hR : fn_Room_requireSpace x0 x1 = some (.inr ())) : Met l nY_Room_requireSpace (Cond.code nY_Room_requireSpace nC_Room_requireSpace 2 none :: TT) rm_Room_requireSpace (rd_P [.int x0, .int x1] D ca []) (va_Sv (fun _ => True)) 0 0 (fun _ => False) := by
  refine rd_ofV (by decide +kernel) (Nat.le_of_ble_eq_true rfl) ?_
  intro p e s m below meth c Q ar ls hx hb hml hts hown hP hK hl hret
  have hown : s.vm.findClass nR_Room = some m.cls := hown
  have hl : lv_has ls 2 [(0, .int x0), (1, .int x1)] := hl
  unfold fn_Room_requireSpace at hR
  refine lv_iload_n hx hb nd_Room_requireSpace_0 rfl (lv_at hl 0 rfl) ?_
  refine lv_iload_n hx hb nd_Room_requireSpace_1 rfl (lv_at hl 1 rfl) ?_
  refine lv_icmp_lt (tgt := 15) hx hb nd_Room_requireSpace_2 (by decide) (fun c1 => ?_) (fun c1 => ?_)
  · replace hR := q_p c1 hR
    replace hR := q_lr hR
    exact hret _ _ nd_Room_requireSpace_15
  · replace hR := q_n c1 hR
    exact nomatch (Option.some.inj hR)
def rm_Room_wall : Room := { frames := 9, cells := 0, slots := 0, locals := 162 }
theorem kc_Room_wall : k_cal nY_Room_wall nC_Room_wall 3 (some .int) 2 := ⟨tt_356, tt_1, by decide +kernel⟩
theorem kv_Room_wall : k_vir nY_Room_wall := ⟨tt_354, tt_355⟩
set_option maxHeartbeats 4000000 in
set_option maxRecDepth 100000 in
theorem cn_Room_wall (l : Launch) (D : va_G) (ca : Nat → ClassId) (qa0 qhouse qtrial qrisks qriskPoints qrules qgauge qinside qwalls qgoods qmachines qconductances qcapacities qheats : Nat) (hoursGone_ : Int32) (layers_ : Int32) (conductances_ : Nat → Int32) (capacities_ : Nat → Int32) (heats_ : Nat → Int64) (x1 : Int32) (x2 : Int32) (R0 : Int32) (R1 : Nat → Int32) (R2 : Nat → Int32) (R3 : Nat → Int64) (R4 : Int32) (hR : fn_Room_wall layers_ conductances_ capacities_ heats_ x1 x2 = some (.inr (R0, R1, R2, R3, R4))) (sz : Nat) : Met l nY_Room_wall (Cond.code nY_Room_wall nC_Room_wall 3 (some .int) :: TT) rm_Room_wall (wr_P [.ref qa0, .int x1, .int x2] D ca [oc_Room qa0 qhouse qtrial qrisks qriskPoints qrules qgauge hoursGone_, oc_House qhouse qinside qwalls qgoods qmachines, oc_Walls qwalls qconductances qcapacities qheats layers_, aI qconductances ca 5 conductances_, aI qcapacities ca 5 capacities_, aJ qheats ca 5 heats_] sz) (va_Qi (fun x (_ : Unit) => x = R0) (wr_B D [oc_Room qa0 qhouse qtrial qrisks qriskPoints qrules qgauge hoursGone_, oc_House qhouse qinside qwalls qgoods qmachines, oc_Walls qwalls qconductances qcapacities qheats layers_, aI qconductances ca 5 conductances_, aI qcapacities ca 5 capacities_, aJ qheats ca 5 heats_] sz [oc_Room qa0 qhouse qtrial qrisks qriskPoints qrules qgauge hoursGone_, oc_House qhouse qinside qwalls qgoods qmachines, oc_Walls qwalls qconductances qcapacities qheats R4, aI qconductances ca 5 R1, aI qcapacities ca 5 R2, aJ qheats ca 5 R3]) (va_A [oc_Room qa0 qhouse qtrial qrisks qriskPoints qrules qgauge hoursGone_, oc_House qhouse qinside qwalls qgoods qmachines, oc_Walls qwalls qconductances qcapacities qheats layers_, aI qconductances ca 5 conductances_, aI qcapacities ca 5 capacities_, aJ qheats ca 5 heats_] sz)) 0 0 (va_A [oc_Room qa0 qhouse qtrial qrisks qriskPoints qrules qgauge hoursGone_, oc_House qhouse qinside qwalls qgoods qmachines, oc_Walls qwalls qconductances qcapacities qheats layers_, aI qconductances ca 5 conductances_, aI qcapacities ca 5 capacities_, aJ qheats ca 5 heats_] sz) := by
  refine wr_ofI (R := (R0, R1, R2, R3, R4)) (val := fun r => r.1) (w1 := fun r : Int32 × (Nat → Int32) × (Nat → Int32) × (Nat → Int64) × Int32 => [oc_Room qa0 qhouse qtrial qrisks qriskPoints qrules qgauge hoursGone_, oc_House qhouse qinside qwalls qgoods qmachines, oc_Walls qwalls qconductances qcapacities qheats r.2.2.2.2, aI qconductances ca 5 r.2.1, aI qcapacities ca 5 r.2.2.1, aJ qheats ca 5 r.2.2.2.1]) (by decide +kernel) (Nat.le_of_ble_eq_true rfl) ?_
  intro p e s m below meth c Q ar ls hx hb hml hts hown hP hK A hD hA hl hret
  have hS : va_S A s.heap s.heap [] := va_S.rf
  have hown : s.vm.findClass nR_Room = some m.cls := hown
  have hl : lv_has ls 3 [(0, .ref qa0), (1, .int x1), (2, .int x2)] := hl
  unfold fn_Room_wall at hR
  refine lv_aload_n hx hb nd_Room_wall_0 rfl (lv_at hl 0 rfl) ?_
  refine va_get (D := D) (ci := 8) (v := .ref qhouse) (C := nR_Room) (T := nT_Room) (N := 7) hx hb hts ni_Room hown hK hP 0 rfl rfl 0 (by decide) (hts (.fieldLink nR_Room 19 "RoomClimate" "house" "LRoomClimate$House;") tt_222) (fun _ h9 => h9) rfl nd_Room_wall_1 ?_
  refine va_getN (D := D) (ci := 2) (v := .ref qwalls) (C := nR_House) (T := nT_House) (N := 4) hx hb hts ni_House hown hK hP 1 rfl rfl 1 (by decide) (hts (.fieldLinkNest nR_Room 68 "RoomClimate$House" "walls" "LRoomClimate$Walls;" "RoomClimate") tt_152) (fun _ h9 => h9) rfl nd_Room_wall_4 ?_
  refine va_getN (D := D) (ci := 7) (v := .int layers_) (C := nR_Walls) (T := nT_Walls) (N := 4) hx hb hts ni_Walls hown hK hP 2 rfl rfl 3 (by decide) (hts (.fieldLinkNest nR_Room 72 "RoomClimate$Walls" "layers" "I" "RoomClimate") tt_96) (fun _ h9 => h9) rfl nd_Room_wall_7 ?_
  refine lv_iconst (v := 5) hx hb nd_Room_wall_10 (by decide) ?_
  obtain ⟨e1, hR⟩ := q_xr hR
  refine k_rSV (As := [.int layers_, .int (5 : Int32)]) (rest := []) hx hb hml hown hts (cn_Room_requireSpace l D ca layers_ (5 : Int32) e1) kc_Room_requireSpace ks_Room_requireSpace tt_357 ⟨by decide, by decide⟩ rfl rfl hP hK [] rfl rfl hl.1 (Nat.le_of_ble_eq_true rfl) rfl nd_Room_wall_11 ⟨Nat.zero_le _, Nat.zero_le _⟩ ?_
  refine lv_iload_n hx hb nd_Room_wall_14 rfl (lv_at hl 1 rfl) ?_
  refine lv_iconst (v := 0) hx hb nd_Room_wall_15 (by decide) ?_
  refine lv_bipush (v := 100) hx hb nd_Room_wall_16 (by decide) ?_
  obtain ⟨e2, hR⟩ := q_xr hR
  refine k_rSV (As := [.int x1, .int (0 : Int32), .int (100 : Int32)]) (rest := []) hx hb hml hown hts (cn_Room_requireWithin l D ca x1 (0 : Int32) (100 : Int32) e2) kc_Room_requireWithin ks_Room_requireWithin tt_278 ⟨by decide, by decide⟩ rfl rfl hP hK [] rfl rfl hl.1 (Nat.le_of_ble_eq_true rfl) rfl nd_Room_wall_18 ⟨Nat.zero_le _, Nat.zero_le _⟩ ?_
  refine lv_iload_n hx hb nd_Room_wall_21 rfl (lv_at hl 2 rfl) ?_
  refine lv_iconst (v := 1) hx hb nd_Room_wall_22 (by decide) ?_
  refine lv_sipush (v := 1000) hx hb nd_Room_wall_23 (by decide) ?_
  obtain ⟨e3, hR⟩ := q_xr hR
  refine k_rSV (As := [.int x2, .int (1 : Int32), .int (1000 : Int32)]) (rest := []) hx hb hml hown hts (cn_Room_requireWithin l D ca x2 (1 : Int32) (1000 : Int32) e3) kc_Room_requireWithin ks_Room_requireWithin tt_278 ⟨by decide, by decide⟩ rfl rfl hP hK [] rfl rfl hl.1 (Nat.le_of_ble_eq_true rfl) rfl nd_Room_wall_26 ⟨Nat.zero_le _, Nat.zero_le _⟩ ?_
  replace hR := q_lr hR
  refine lv_aload_n hx hb nd_Room_wall_29 rfl (lv_at hl 0 rfl) ?_
  refine va_get (D := D) (ci := 8) (v := .ref qhouse) (C := nR_Room) (T := nT_Room) (N := 7) hx hb hts ni_Room hown hK hP 0 rfl rfl 0 (by decide) (hts (.fieldLink nR_Room 19 "RoomClimate" "house" "LRoomClimate$House;") tt_222) (fun _ h9 => h9) rfl nd_Room_wall_30 ?_
  refine va_getN (D := D) (ci := 2) (v := .ref qwalls) (C := nR_House) (T := nT_House) (N := 4) hx hb hts ni_House hown hK hP 1 rfl rfl 1 (by decide) (hts (.fieldLinkNest nR_Room 68 "RoomClimate$House" "walls" "LRoomClimate$Walls;" "RoomClimate") tt_152) (fun _ h9 => h9) rfl nd_Room_wall_33 ?_
  refine lv_iload_n hx hb nd_Room_wall_36 rfl (lv_at hl 1 rfl) ?_
  refine lv_iload_n hx hb nd_Room_wall_37 rfl (lv_at hl 2 rfl) ?_
  obtain ⟨r4, u4_0, u4_1, u4_2, u4_3, e4, hR⟩ := q_b5 hR
  refine k_wVI (wr := [oc_Room qa0 qhouse qtrial qrisks qriskPoints qrules qgauge hoursGone_, oc_House qhouse qinside qwalls qgoods qmachines]) (w2 := [oc_Room qa0 qhouse qtrial qrisks qriskPoints qrules qgauge hoursGone_, oc_House qhouse qinside qwalls qgoods qmachines, oc_Walls qwalls qconductances qcapacities qheats u4_3, aI qconductances ca 5 u4_0, aI qcapacities ca 5 u4_1, aJ qheats ca 5 u4_2]) (As := [.int x1, .int x2]) (rest := []) (r := r4) hx hb hml hown hts (cn_Walls_append l D ca qwalls qconductances qcapacities qheats layers_ conductances_ capacities_ heats_ x1 x2 r4 u4_0 u4_1 u4_2 u4_3 e4 _) kc_Walls_append kv_Walls_append tt_376 ⟨by decide, by decide⟩ rfl rfl hP hK hD hS hA [2, 3, 4, 5] [0, 1] [0, 1, 2, 3, 4, 5] rfl (by decide) rfl (by decide) (by decide) rfl (by decide) 0 rfl rfl rfl rfl hl.1 (Nat.le_of_ble_eq_true rfl) rfl nd_Room_wall_38 ⟨Nat.zero_le _, Nat.zero_le _⟩ (fun H locs hP hD hS => ?_)
  exact hret (r4, u4_0, u4_1, u4_2, u4_3) _ _ _ _ nd_Room_wall_41 hR hP hD hS
def rm_Room_goods : Room := { frames := 9, cells := 0, slots := 0, locals := 162 }
theorem kc_Room_goods : k_cal nY_Room_goods nC_Room_goods 3 (some .int) 1 := ⟨tt_387, tt_1, by decide +kernel⟩
theorem kv_Room_goods : k_vir nY_Room_goods := ⟨tt_385, tt_386⟩
set_option maxHeartbeats 4000000 in
set_option maxRecDepth 100000 in
theorem cn_Room_goods (l : Launch) (D : va_G) (ca : Nat → ClassId) (qa0 qhouse qtrial qrisks qriskPoints qrules qgauge qinside qwalls qgoods qmachines qrows : Nat) (hoursGone_ : Int32) (kilograms_ : Int32) (load_ : Int64) (x1 : Int32) (R0 : Int32) (R1 : Int32) (hR : fn_Room_goods kilograms_ x1 = some (.inr (R0, R1))) (sz : Nat) : Met l nY_Room_goods (Cond.code nY_Room_goods nC_Room_goods 3 (some .int) :: TT) rm_Room_goods (wr_P [.ref qa0, .int x1] D ca [oc_Room qa0 qhouse qtrial qrisks qriskPoints qrules qgauge hoursGone_, oc_House qhouse qinside qwalls qgoods qmachines, oc_Goods qgoods qrows kilograms_ load_] sz) (va_Qi (fun x (_ : Unit) => x = R0) (wr_B D [oc_Room qa0 qhouse qtrial qrisks qriskPoints qrules qgauge hoursGone_, oc_House qhouse qinside qwalls qgoods qmachines, oc_Goods qgoods qrows kilograms_ load_] sz [oc_Room qa0 qhouse qtrial qrisks qriskPoints qrules qgauge hoursGone_, oc_House qhouse qinside qwalls qgoods qmachines, oc_Goods qgoods qrows R1 load_]) (va_A [oc_Room qa0 qhouse qtrial qrisks qriskPoints qrules qgauge hoursGone_, oc_House qhouse qinside qwalls qgoods qmachines, oc_Goods qgoods qrows kilograms_ load_] sz)) 0 0 (va_A [oc_Room qa0 qhouse qtrial qrisks qriskPoints qrules qgauge hoursGone_, oc_House qhouse qinside qwalls qgoods qmachines, oc_Goods qgoods qrows kilograms_ load_] sz) := by
  refine wr_ofI (R := (R0, R1)) (val := fun r => r.1) (w1 := fun r : Int32 × Int32 => [oc_Room qa0 qhouse qtrial qrisks qriskPoints qrules qgauge hoursGone_, oc_House qhouse qinside qwalls qgoods qmachines, oc_Goods qgoods qrows r.2 load_]) (by decide +kernel) (Nat.le_of_ble_eq_true rfl) ?_
  intro p e s m below meth c Q ar ls hx hb hml hts hown hP hK A hD hA hl hret
  have hS : va_S A s.heap s.heap [] := va_S.rf
  have hown : s.vm.findClass nR_Room = some m.cls := hown
  have hl : lv_has ls 3 [(0, .ref qa0), (1, .int x1)] := hl
  unfold fn_Room_goods at hR
  refine lv_iload_n hx hb nd_Room_goods_0 rfl (lv_at hl 1 rfl) ?_
  refine lv_iconst (v := 0) hx hb nd_Room_goods_1 (by decide) ?_
  refine lv_sipush (v := 1000) hx hb nd_Room_goods_2 (by decide) ?_
  obtain ⟨e1, hR⟩ := q_xr hR
  refine k_rSV (As := [.int x1, .int (0 : Int32), .int (1000 : Int32)]) (rest := []) hx hb hml hown hts (cn_Room_requireWithin l D ca x1 (0 : Int32) (1000 : Int32) e1) kc_Room_requireWithin ks_Room_requireWithin tt_278 ⟨by decide, by decide⟩ rfl rfl hP hK [] rfl rfl hl.1 (Nat.le_of_ble_eq_true rfl) rfl nd_Room_goods_5 ⟨Nat.zero_le _, Nat.zero_le _⟩ ?_
  replace hR := q_lr hR
  refine lv_aload_n hx hb nd_Room_goods_8 rfl (lv_at hl 0 rfl) ?_
  refine va_get (D := D) (ci := 8) (v := .ref qhouse) (C := nR_Room) (T := nT_Room) (N := 7) hx hb hts ni_Room hown hK hP 0 rfl rfl 0 (by decide) (hts (.fieldLink nR_Room 19 "RoomClimate" "house" "LRoomClimate$House;") tt_222) (fun _ h9 => h9) rfl nd_Room_goods_9 ?_
  refine va_getN (D := D) (ci := 2) (v := .ref qgoods) (C := nR_House) (T := nT_House) (N := 4) hx hb hts ni_House hown hK hP 1 rfl rfl 2 (by decide) (hts (.fieldLinkNest nR_Room 85 "RoomClimate$House" "goods" "LRoomClimate$Goods;" "RoomClimate") tt_154) (fun _ h9 => h9) rfl nd_Room_goods_12 ?_
  refine va_getN (D := D) (ci := 1) (v := .int kilograms_) (C := nR_Goods) (T := nT_Goods) (N := 3) hx hb hts ni_Goods hown hK hP 2 rfl rfl 1 (by decide) (hts (.fieldLinkNest nR_Room 89 "RoomClimate$Goods" "kilograms" "I" "RoomClimate") tt_139) (fun _ h9 => h9) rfl nd_Room_goods_15 ?_
  refine lv_istore_n (lv' := [(2, .int kilograms_), (0, .ref qa0), (1, .int x1)]) hx hb nd_Room_goods_18 rfl hl (by decide) rfl (fun ls hl => ?_)
  refine lv_aload_n hx hb nd_Room_goods_19 rfl (lv_at hl 1 rfl) ?_
  refine va_get (D := D) (ci := 8) (v := .ref qhouse) (C := nR_Room) (T := nT_Room) (N := 7) hx hb hts ni_Room hown hK hP 0 rfl rfl 0 (by decide) (hts (.fieldLink nR_Room 19 "RoomClimate" "house" "LRoomClimate$House;") tt_222) (fun _ h9 => h9) rfl nd_Room_goods_20 ?_
  refine va_getN (D := D) (ci := 2) (v := .ref qgoods) (C := nR_House) (T := nT_House) (N := 4) hx hb hts ni_House hown hK hP 1 rfl rfl 2 (by decide) (hts (.fieldLinkNest nR_Room 85 "RoomClimate$House" "goods" "LRoomClimate$Goods;" "RoomClimate") tt_154) (fun _ h9 => h9) rfl nd_Room_goods_23 ?_
  refine lv_iload_n hx hb nd_Room_goods_26 rfl (lv_at hl 2 rfl) ?_
  refine va_putN (D := D) (ci := 1) (v := .int x1) (ty := .int) (C := nR_Goods) (T := nT_Goods) (N := 3) hx hb hts ni_Goods nt_Goods nt_Goods_ok nn_Goods hown hK hP hD hS 2 rfl rfl 1 (by decide) (hts (.fieldLinkNest nR_Room 89 "RoomClimate$Goods" "kilograms" "I" "RoomClimate") tt_139) (fun _ h9 => h9) rfl (by decide +kernel) rfl rfl (Nat.le_of_ble_eq_true rfl) nd_Room_goods_27 (fun H locs hP hD hS => ?_)
  have hP : va_P D vwCl [oc_Room qa0 qhouse qtrial qrisks qriskPoints qrules qgauge hoursGone_, oc_House qhouse qinside qwalls qgoods qmachines, oc_Goods qgoods qrows x1 load_] H := hP
  have hD : va_D A [oc_Room qa0 qhouse qtrial qrisks qriskPoints qrules qgauge hoursGone_, oc_House qhouse qinside qwalls qgoods qmachines, oc_Goods qgoods qrows x1 load_] := hD
  refine lv_iload_n hx hb nd_Room_goods_30 rfl (lv_at hl 0 rfl) ?_
  exact hret (kilograms_, x1) _ _ _ _ nd_Room_goods_31 hR hP hD hS
def rm_Room_requireRise : Room := { frames := 8, cells := 0, slots := 0, locals := 140 }
theorem kc_Room_requireRise : k_cal nY_Room_requireRise nC_Room_requireRise 2 none 2 := ⟨tt_398, tt_1, by decide +kernel⟩
theorem ks_Room_requireRise : Cond.static nY_Room_requireRise ∈ TT := tt_397
set_option maxHeartbeats 4000000 in
set_option maxRecDepth 100000 in
theorem cn_Room_requireRise (l : Launch) (D : va_G) (ca : Nat → ClassId) (qa0 qlevels qamounts : Nat) (size_ : Int32) (levels_ : Nat → Int32) (n_a0 : Nat) (x1 : Int32) (hR : fn_Room_requireRise size_ levels_ n_a0 x1 = some (.inr ())) : Met l nY_Room_requireRise (Cond.code nY_Room_requireRise nC_Room_requireRise 2 none :: TT) rm_Room_requireRise (rd_P [.ref qa0, .int x1] D ca [oc_Steps qa0 qlevels qamounts size_, aI qlevels ca n_a0 levels_]) (va_Sv (fun _ => True)) 0 0 (fun _ => False) := by
  refine rd_ofV (by decide +kernel) (Nat.le_of_ble_eq_true rfl) ?_
  intro p e s m below meth c Q ar ls hx hb hml hts hown hP hK hl hret
  have hown : s.vm.findClass nR_Room = some m.cls := hown
  have hl : lv_has ls 2 [(0, .ref qa0), (1, .int x1)] := hl
  unfold fn_Room_requireRise at hR
  refine lv_aload_n hx hb nd_Room_requireRise_0 rfl (lv_at hl 0 rfl) ?_
  refine lv_iload_n hx hb nd_Room_requireRise_1 rfl (lv_at hl 1 rfl) ?_
  obtain ⟨r1, e1, hR⟩ := q_b1 hR
  refine k_rVI (As := [.int x1]) (rest := []) (r := r1) hx hb hml hown hts (cn_Steps_wouldRise l D ca qa0 qlevels qamounts size_ levels_ n_a0 x1 r1 e1) kc_Steps_wouldRise kv_Steps_wouldRise tt_399 ⟨by decide, by decide⟩ rfl rfl hP hK [0, 1] rfl 0 rfl rfl rfl rfl hl.1 (Nat.le_of_ble_eq_true rfl) rfl nd_Room_requireRise_2 ⟨Nat.zero_le _, Nat.zero_le _⟩ ?_
  refine lv_if_ne (tgt := 19) hx hb nd_Room_requireRise_5 (by decide) (fun c2 => ?_) (fun c2 => ?_)
  · replace hR := q_n c2 hR
    replace hR := q_lr hR
    exact hret _ _ nd_Room_requireRise_19
  · replace hR := q_p c2 hR
    exact nomatch (Option.some.inj hR)
def rm_Room_row : Room := { frames := 9, cells := 0, slots := 0, locals := 162 }
theorem kc_Room_row : k_cal nY_Room_row nC_Room_row 4 (some .int) 2 := ⟨tt_394, tt_1, by decide +kernel⟩
theorem kv_Room_row : k_vir nY_Room_row := ⟨tt_392, tt_393⟩
set_option maxHeartbeats 4000000 in
set_option maxRecDepth 100000 in
theorem cn_Room_row (l : Launch) (D : va_G) (ca : Nat → ClassId) (qa0 qhouse qtrial qrisks qriskPoints qrules qgauge qinside qwalls qgoods qmachines qrows qlevels qamounts : Nat) (hoursGone_ : Int32) (kilograms_ : Int32) (load_ : Int64) (size_ : Int32) (levels_ : Nat → Int32) (amounts_ : Nat → Int32) (x1 : Int32) (x2 : Int32) (R0 : Int32) (R1 : Nat → Int32) (R2 : Nat → Int32) (R3 : Int32) (hR : fn_Room_row size_ levels_ amounts_ x1 x2 = some (.inr (R0, R1, R2, R3))) (sz : Nat) : Met l nY_Room_row (Cond.code nY_Room_row nC_Room_row 4 (some .int) :: TT) rm_Room_row (wr_P [.ref qa0, .int x1, .int x2] D ca [oc_Room qa0 qhouse qtrial qrisks qriskPoints qrules qgauge hoursGone_, oc_House qhouse qinside qwalls qgoods qmachines, oc_Goods qgoods qrows kilograms_ load_, oc_Steps qrows qlevels qamounts size_, aI qlevels ca 6 levels_, aI qamounts ca 6 amounts_] sz) (va_Qi (fun x (_ : Unit) => x = R0) (wr_B D [oc_Room qa0 qhouse qtrial qrisks qriskPoints qrules qgauge hoursGone_, oc_House qhouse qinside qwalls qgoods qmachines, oc_Goods qgoods qrows kilograms_ load_, oc_Steps qrows qlevels qamounts size_, aI qlevels ca 6 levels_, aI qamounts ca 6 amounts_] sz [oc_Room qa0 qhouse qtrial qrisks qriskPoints qrules qgauge hoursGone_, oc_House qhouse qinside qwalls qgoods qmachines, oc_Goods qgoods qrows kilograms_ load_, oc_Steps qrows qlevels qamounts R3, aI qlevels ca 6 R1, aI qamounts ca 6 R2]) (va_A [oc_Room qa0 qhouse qtrial qrisks qriskPoints qrules qgauge hoursGone_, oc_House qhouse qinside qwalls qgoods qmachines, oc_Goods qgoods qrows kilograms_ load_, oc_Steps qrows qlevels qamounts size_, aI qlevels ca 6 levels_, aI qamounts ca 6 amounts_] sz)) 0 0 (va_A [oc_Room qa0 qhouse qtrial qrisks qriskPoints qrules qgauge hoursGone_, oc_House qhouse qinside qwalls qgoods qmachines, oc_Goods qgoods qrows kilograms_ load_, oc_Steps qrows qlevels qamounts size_, aI qlevels ca 6 levels_, aI qamounts ca 6 amounts_] sz) := by
  refine wr_ofI (R := (R0, R1, R2, R3)) (val := fun r => r.1) (w1 := fun r : Int32 × (Nat → Int32) × (Nat → Int32) × Int32 => [oc_Room qa0 qhouse qtrial qrisks qriskPoints qrules qgauge hoursGone_, oc_House qhouse qinside qwalls qgoods qmachines, oc_Goods qgoods qrows kilograms_ load_, oc_Steps qrows qlevels qamounts r.2.2.2, aI qlevels ca 6 r.2.1, aI qamounts ca 6 r.2.2.1]) (by decide +kernel) (Nat.le_of_ble_eq_true rfl) ?_
  intro p e s m below meth c Q ar ls hx hb hml hts hown hP hK A hD hA hl hret
  have hS : va_S A s.heap s.heap [] := va_S.rf
  have hown : s.vm.findClass nR_Room = some m.cls := hown
  have hl : lv_has ls 4 [(0, .ref qa0), (1, .int x1), (2, .int x2)] := hl
  unfold fn_Room_row at hR
  refine lv_aload_n hx hb nd_Room_row_0 rfl (lv_at hl 0 rfl) ?_
  refine va_get (D := D) (ci := 8) (v := .ref qhouse) (C := nR_Room) (T := nT_Room) (N := 7) hx hb hts ni_Room hown hK hP 0 rfl rfl 0 (by decide) (hts (.fieldLink nR_Room 19 "RoomClimate" "house" "LRoomClimate$House;") tt_222) (fun _ h9 => h9) rfl nd_Room_row_1 ?_
  refine va_getN (D := D) (ci := 2) (v := .ref qgoods) (C := nR_House) (T := nT_House) (N := 4) hx hb hts ni_House hown hK hP 1 rfl rfl 2 (by decide) (hts (.fieldLinkNest nR_Room 85 "RoomClimate$House" "goods" "LRoomClimate$Goods;" "RoomClimate") tt_154) (fun _ h9 => h9) rfl nd_Room_row_4 ?_
  refine va_getN (D := D) (ci := 1) (v := .ref qrows) (C := nR_Goods) (T := nT_Goods) (N := 3) hx hb hts ni_Goods hown hK hP 2 rfl rfl 0 (by decide) (hts (.fieldLinkNest nR_Room 94 "RoomClimate$Goods" "rows" "LRoomClimate$Steps;" "RoomClimate") tt_137) (fun _ h9 => h9) rfl nd_Room_row_7 ?_
  refine lv_astore_n (lv' := [(3, .ref qrows), (0, .ref qa0), (1, .int x1), (2, .int x2)]) hx hb nd_Room_row_10 rfl hl (by decide) rfl (fun ls hl => ?_)
  refine lv_aload_n hx hb nd_Room_row_11 rfl (lv_at hl 0 rfl) ?_
  refine va_getN (D := D) (ci := 6) (v := .int size_) (C := nR_Steps) (T := nT_Steps) (N := 3) hx hb hts ni_Steps hown hK hP 3 rfl rfl 2 (by decide) (hts (.fieldLinkNest nR_Room 98 "RoomClimate$Steps" "size" "I" "RoomClimate") tt_35) (fun _ h9 => h9) rfl nd_Room_row_12 ?_
  refine lv_bipush (v := 6) hx hb nd_Room_row_15 (by decide) ?_
  obtain ⟨e1, hR⟩ := q_xr hR
  refine k_rSV (As := [.int size_, .int (6 : Int32)]) (rest := []) hx hb hml hown hts (cn_Room_requireSpace l D ca size_ (6 : Int32) e1) kc_Room_requireSpace ks_Room_requireSpace tt_357 ⟨by decide, by decide⟩ rfl rfl hP hK [] rfl rfl hl.1 (Nat.le_of_ble_eq_true rfl) rfl nd_Room_row_17 ⟨Nat.zero_le _, Nat.zero_le _⟩ ?_
  refine lv_iload_n hx hb nd_Room_row_20 rfl (lv_at hl 2 rfl) ?_
  refine lv_iconst (v := 0) hx hb nd_Room_row_21 (by decide) ?_
  refine lv_ldc hx hb hown (hts _ tt_395) nd_Room_row_22 ?_
  obtain ⟨e2, hR⟩ := q_xr hR
  refine k_rSV (As := [.int x1, .int (0 : Int32), .int (60000 : Int32)]) (rest := []) hx hb hml hown hts (cn_Room_requireWithin l D ca x1 (0 : Int32) (60000 : Int32) e2) kc_Room_requireWithin ks_Room_requireWithin tt_278 ⟨by decide, by decide⟩ rfl rfl hP hK [] rfl rfl hl.1 (Nat.le_of_ble_eq_true rfl) rfl nd_Room_row_24 ⟨Nat.zero_le _, Nat.zero_le _⟩ ?_
  refine lv_iload_n hx hb nd_Room_row_27 rfl (lv_at hl 3 rfl) ?_
  refine lv_iconst (v := 0) hx hb nd_Room_row_28 (by decide) ?_
  refine lv_sipush (v := 10000) hx hb nd_Room_row_29 (by decide) ?_
  obtain ⟨e3, hR⟩ := q_xr hR
  refine k_rSV (As := [.int x2, .int (0 : Int32), .int (10000 : Int32)]) (rest := []) hx hb hml hown hts (cn_Room_requireWithin l D ca x2 (0 : Int32) (10000 : Int32) e3) kc_Room_requireWithin ks_Room_requireWithin tt_278 ⟨by decide, by decide⟩ rfl rfl hP hK [] rfl rfl hl.1 (Nat.le_of_ble_eq_true rfl) rfl nd_Room_row_32 ⟨Nat.zero_le _, Nat.zero_le _⟩ ?_
  refine lv_aload_n hx hb nd_Room_row_35 rfl (lv_at hl 0 rfl) ?_
  refine lv_iload_n hx hb nd_Room_row_36 rfl (lv_at hl 2 rfl) ?_
  obtain ⟨e4, hR⟩ := q_xr hR
  refine k_rSV (As := [.ref qrows, .int x1]) (rest := []) hx hb hml hown hts (cn_Room_requireRise l D ca qrows qlevels qamounts size_ levels_ 6 x1 e4) kc_Room_requireRise ks_Room_requireRise tt_396 ⟨by decide, by decide⟩ rfl rfl hP hK [3, 4] rfl rfl hl.1 (Nat.le_of_ble_eq_true rfl) rfl nd_Room_row_37 ⟨Nat.zero_le _, Nat.zero_le _⟩ ?_
  replace hR := q_lr hR
  refine lv_aload_n hx hb nd_Room_row_40 rfl (lv_at hl 0 rfl) ?_
  refine lv_iload_n hx hb nd_Room_row_41 rfl (lv_at hl 2 rfl) ?_
  refine lv_iload_n hx hb nd_Room_row_42 rfl (lv_at hl 3 rfl) ?_
  obtain ⟨r5, u5_0, u5_1, u5_2, e5, hR⟩ := q_b4 hR
  refine k_wVI (wr := [oc_Room qa0 qhouse qtrial qrisks qriskPoints qrules qgauge hoursGone_, oc_House qhouse qinside qwalls qgoods qmachines, oc_Goods qgoods qrows kilograms_ load_]) (w2 := [oc_Room qa0 qhouse qtrial qrisks qriskPoints qrules qgauge hoursGone_, oc_House qhouse qinside qwalls qgoods qmachines, oc_Goods qgoods qrows kilograms_ load_, oc_Steps qrows qlevels qamounts u5_2, aI qlevels ca 6 u5_0, aI qamounts ca 6 u5_1]) (As := [.int x1, .int x2]) (rest := []) (r := r5) hx hb hml hown hts (cn_Steps_append l D ca qrows qlevels qamounts size_ levels_ amounts_ 6 x1 x2 r5 u5_0 u5_1 u5_2 e5 _) kc_Steps_append kv_Steps_append tt_404 ⟨by decide, by decide⟩ rfl rfl hP hK hD hS hA [3, 4, 5] [0, 1, 2] [0, 1, 2, 3, 4, 5] rfl (by decide) rfl (by decide) (by decide) rfl (by decide) 0 rfl rfl rfl rfl hl.1 (Nat.le_of_ble_eq_true rfl) rfl nd_Room_row_43 ⟨Nat.zero_le _, Nat.zero_le _⟩ (fun H locs hP hD hS => ?_)
  exact hret (r5, u5_0, u5_1, u5_2) _ _ _ _ nd_Room_row_46 hR hP hD hS
def rm_Room_requireIndex : Room := { frames := 8, cells := 0, slots := 0, locals := 140 }
theorem kc_Room_requireIndex : k_cal nY_Room_requireIndex nC_Room_requireIndex 2 none 2 := ⟨tt_418, tt_1, by decide +kernel⟩
theorem ks_Room_requireIndex : Cond.static nY_Room_requireIndex ∈ TT := tt_417
set_option maxHeartbeats 4000000 in
set_option maxRecDepth 100000 in
theorem cn_Room_requireIndex (l : Launch) (D : va_G) (ca : Nat → ClassId) (x0 : Int32) (x1 : Int32) (hR : fn_Room_requireIndex x0 x1 = some (.inr ())) : Met l nY_Room_requireIndex (Cond.code nY_Room_requireIndex nC_Room_requireIndex 2 none :: TT) rm_Room_requireIndex (rd_P [.int x0, .int x1] D ca []) (va_Sv (fun _ => True)) 0 0 (fun _ => False) := by
  refine rd_ofV (by decide +kernel) (Nat.le_of_ble_eq_true rfl) ?_
  intro p e s m below meth c Q ar ls hx hb hml hts hown hP hK hl hret
  have hown : s.vm.findClass nR_Room = some m.cls := hown
  have hl : lv_has ls 2 [(0, .int x0), (1, .int x1)] := hl
  unfold fn_Room_requireIndex at hR
  refine lv_iload_n hx hb nd_Room_requireIndex_0 rfl (lv_at hl 0 rfl) ?_
  refine lv_if_lt (tgt := 9) hx hb nd_Room_requireIndex_1 (by decide) (fun c1 => ?_) (fun c1 => ?_)
  · replace hR := q_p c1 hR
    exact nomatch (Option.some.inj hR)
  · replace hR := q_n c1 hR
    refine lv_iload_n hx hb nd_Room_requireIndex_4 rfl (lv_at hl 0 rfl) ?_
    refine lv_iload_n hx hb nd_Room_requireIndex_5 rfl (lv_at hl 1 rfl) ?_
    refine lv_icmp_lt (tgt := 19) hx hb nd_Room_requireIndex_6 (by decide) (fun c2 => ?_) (fun c2 => ?_)
    · replace hR := q_p c2 hR
      replace hR := q_lr hR
      exact hret _ _ nd_Room_requireIndex_19
    · replace hR := q_n c2 hR
      exact nomatch (Option.some.inj hR)
def rm_Room_machine : Room := { frames := 9, cells := 0, slots := 0, locals := 162 }
theorem kc_Room_machine : k_cal nY_Room_machine nC_Room_machine 5 none 4 := ⟨tt_415, tt_1, by decide +kernel⟩
theorem kv_Room_machine : k_vir nY_Room_machine := ⟨tt_413, tt_414⟩
set_option maxHeartbeats 4000000 in
set_option maxRecDepth 100000 in
theorem cn_Room_machine (l : Launch) (D : va_G) (ca : Nat → ClassId) (qa0 qhouse qtrial qrisks qriskPoints qrules qgauge qinside qwalls qgoods qmachines qlows qhighs qrates qtold qrunning : Nat) (hoursGone_ : Int32) (lows_ : Nat → Int32) (highs_ : Nat → Int32) (rates_ : Nat → Int32) (told_ : Nat → Int32) (running_ : Nat → Int32) (x1 : Int32) (x2 : Int32) (x3 : Int32) (x4 : Int32) (R0 : Nat → Int32) (R1 : Nat → Int32) (R2 : Nat → Int32) (R3 : Nat → Int32) (R4 : Nat → Int32) (hR : fn_Room_machine lows_ highs_ rates_ told_ running_ x1 x2 x3 x4 = some (.inr (R0, R1, R2, R3, R4))) (sz : Nat) : Met l nY_Room_machine (Cond.code nY_Room_machine nC_Room_machine 5 none :: TT) rm_Room_machine (wr_P [.ref qa0, .int x1, .int x2, .int x3, .int x4] D ca [oc_Room qa0 qhouse qtrial qrisks qriskPoints qrules qgauge hoursGone_, oc_House qhouse qinside qwalls qgoods qmachines, oc_Machines qmachines qlows qhighs qrates qtold qrunning, aI qlows ca 4 lows_, aI qhighs ca 4 highs_, aI qrates ca 4 rates_, aZ qtold ca 4 told_, aZ qrunning ca 4 running_] sz) (va_Qv (fun (_ : Unit) => True) (wr_B D [oc_Room qa0 qhouse qtrial qrisks qriskPoints qrules qgauge hoursGone_, oc_House qhouse qinside qwalls qgoods qmachines, oc_Machines qmachines qlows qhighs qrates qtold qrunning, aI qlows ca 4 lows_, aI qhighs ca 4 highs_, aI qrates ca 4 rates_, aZ qtold ca 4 told_, aZ qrunning ca 4 running_] sz [oc_Room qa0 qhouse qtrial qrisks qriskPoints qrules qgauge hoursGone_, oc_House qhouse qinside qwalls qgoods qmachines, oc_Machines qmachines qlows qhighs qrates qtold qrunning, aI qlows ca 4 R0, aI qhighs ca 4 R1, aI qrates ca 4 R2, aZ qtold ca 4 R3, aZ qrunning ca 4 R4]) (va_A [oc_Room qa0 qhouse qtrial qrisks qriskPoints qrules qgauge hoursGone_, oc_House qhouse qinside qwalls qgoods qmachines, oc_Machines qmachines qlows qhighs qrates qtold qrunning, aI qlows ca 4 lows_, aI qhighs ca 4 highs_, aI qrates ca 4 rates_, aZ qtold ca 4 told_, aZ qrunning ca 4 running_] sz)) 0 0 (va_A [oc_Room qa0 qhouse qtrial qrisks qriskPoints qrules qgauge hoursGone_, oc_House qhouse qinside qwalls qgoods qmachines, oc_Machines qmachines qlows qhighs qrates qtold qrunning, aI qlows ca 4 lows_, aI qhighs ca 4 highs_, aI qrates ca 4 rates_, aZ qtold ca 4 told_, aZ qrunning ca 4 running_] sz) := by
  refine wr_ofV (R := (R0, R1, R2, R3, R4)) (w1 := fun r : (Nat → Int32) × (Nat → Int32) × (Nat → Int32) × (Nat → Int32) × (Nat → Int32) => [oc_Room qa0 qhouse qtrial qrisks qriskPoints qrules qgauge hoursGone_, oc_House qhouse qinside qwalls qgoods qmachines, oc_Machines qmachines qlows qhighs qrates qtold qrunning, aI qlows ca 4 r.1, aI qhighs ca 4 r.2.1, aI qrates ca 4 r.2.2.1, aZ qtold ca 4 r.2.2.2.1, aZ qrunning ca 4 r.2.2.2.2]) (by decide +kernel) (Nat.le_of_ble_eq_true rfl) ?_
  intro p e s m below meth c Q ar ls hx hb hml hts hown hP hK A hD hA hl hret
  have hS : va_S A s.heap s.heap [] := va_S.rf
  have hown : s.vm.findClass nR_Room = some m.cls := hown
  have hl : lv_has ls 5 [(0, .ref qa0), (1, .int x1), (2, .int x2), (3, .int x3), (4, .int x4)] := hl
  unfold fn_Room_machine at hR
  refine lv_iload_n hx hb nd_Room_machine_0 rfl (lv_at hl 1 rfl) ?_
  refine lv_iconst (v := 4) hx hb nd_Room_machine_1 (by decide) ?_
  obtain ⟨e1, hR⟩ := q_xr hR
  refine k_rSV (As := [.int x1, .int (4 : Int32)]) (rest := []) hx hb hml hown hts (cn_Room_requireIndex l D ca x1 (4 : Int32) e1) kc_Room_requireIndex ks_Room_requireIndex tt_416 ⟨by decide, by decide⟩ rfl rfl hP hK [] rfl rfl hl.1 (Nat.le_of_ble_eq_true rfl) rfl nd_Room_machine_2 ⟨Nat.zero_le _, Nat.zero_le _⟩ ?_
  refine lv_iload_n hx hb nd_Room_machine_5 rfl (lv_at hl 2 rfl) ?_
  refine lv_ldc hx hb hown (hts _ tt_435) nd_Room_machine_6 ?_
  refine lv_ldc hx hb hown (hts _ tt_395) nd_Room_machine_8 ?_
  obtain ⟨e2, hR⟩ := q_xr hR
  refine k_rSV (As := [.int x2, .int (-60000 : Int32), .int (60000 : Int32)]) (rest := []) hx hb hml hown hts (cn_Room_requireWithin l D ca x2 (-60000 : Int32) (60000 : Int32) e2) kc_Room_requireWithin ks_Room_requireWithin tt_278 ⟨by decide, by decide⟩ rfl rfl hP hK [] rfl rfl hl.1 (Nat.le_of_ble_eq_true rfl) rfl nd_Room_machine_10 ⟨Nat.zero_le _, Nat.zero_le _⟩ ?_
  refine lv_iload_n hx hb nd_Room_machine_13 rfl (lv_at hl 3 rfl) ?_
  refine lv_iload_n hx hb nd_Room_machine_14 rfl (lv_at hl 2 rfl) ?_
  refine lv_ldc hx hb hown (hts _ tt_395) nd_Room_machine_15 ?_
  obtain ⟨e3, hR⟩ := q_xr hR
  refine k_rSV (As := [.int x3, .int x2, .int (60000 : Int32)]) (rest := []) hx hb hml hown hts (cn_Room_requireWithin l D ca x3 x2 (60000 : Int32) e3) kc_Room_requireWithin ks_Room_requireWithin tt_278 ⟨by decide, by decide⟩ rfl rfl hP hK [] rfl rfl hl.1 (Nat.le_of_ble_eq_true rfl) rfl nd_Room_machine_17 ⟨Nat.zero_le _, Nat.zero_le _⟩ ?_
  refine lv_iload hx hb nd_Room_machine_20 (lv_at hl 4 rfl) ?_
  refine lv_iconst (v := 0) hx hb nd_Room_machine_22 (by decide) ?_
  refine lv_ldc hx hb hown (hts _ tt_436) nd_Room_machine_23 ?_
  obtain ⟨e4, hR⟩ := q_xr hR
  refine k_rSV (As := [.int x4, .int (0 : Int32), .int (100000 : Int32)]) (rest := []) hx hb hml hown hts (cn_Room_requireWithin l D ca x4 (0 : Int32) (100000 : Int32) e4) kc_Room_requireWithin ks_Room_requireWithin tt_278 ⟨by decide, by decide⟩ rfl rfl hP hK [] rfl rfl hl.1 (Nat.le_of_ble_eq_true rfl) rfl nd_Room_machine_25 ⟨Nat.zero_le _, Nat.zero_le _⟩ ?_
  replace hR := q_lr hR
  refine lv_aload_n hx hb nd_Room_machine_28 rfl (lv_at hl 0 rfl) ?_
  refine va_get (D := D) (ci := 8) (v := .ref qhouse) (C := nR_Room) (T := nT_Room) (N := 7) hx hb hts ni_Room hown hK hP 0 rfl rfl 0 (by decide) (hts (.fieldLink nR_Room 19 "RoomClimate" "house" "LRoomClimate$House;") tt_222) (fun _ h9 => h9) rfl nd_Room_machine_29 ?_
  refine va_getN (D := D) (ci := 2) (v := .ref qmachines) (C := nR_House) (T := nT_House) (N := 4) hx hb hts ni_House hown hK hP 1 rfl rfl 3 (by decide) (hts (.fieldLinkNest nR_Room 112 "RoomClimate$House" "machines" "LRoomClimate$Machines;" "RoomClimate") tt_156) (fun _ h9 => h9) rfl nd_Room_machine_32 ?_
  refine lv_iload_n hx hb nd_Room_machine_35 rfl (lv_at hl 1 rfl) ?_
  refine lv_iload_n hx hb nd_Room_machine_36 rfl (lv_at hl 2 rfl) ?_
  refine lv_iload_n hx hb nd_Room_machine_37 rfl (lv_at hl 3 rfl) ?_
  refine lv_iload hx hb nd_Room_machine_38 (lv_at hl 4 rfl) ?_
  obtain ⟨u5_0, u5_1, u5_2, u5_3, u5_4, e5, hR⟩ := q_b5 hR
  refine k_wVV (wr := [oc_Room qa0 qhouse qtrial qrisks qriskPoints qrules qgauge hoursGone_, oc_House qhouse qinside qwalls qgoods qmachines]) (w2 := [oc_Room qa0 qhouse qtrial qrisks qriskPoints qrules qgauge hoursGone_, oc_House qhouse qinside qwalls qgoods qmachines, oc_Machines qmachines qlows qhighs qrates qtold qrunning, aI qlows ca 4 u5_0, aI qhighs ca 4 u5_1, aI qrates ca 4 u5_2, aZ qtold ca 4 u5_3, aZ qrunning ca 4 u5_4]) (As := [.int x1, .int x2, .int x3, .int x4]) (rest := []) hx hb hml hown hts (cn_Machines_install l D ca qmachines qlows qhighs qrates qtold qrunning lows_ highs_ rates_ told_ running_ x1 x2 x3 x4 u5_0 u5_1 u5_2 u5_3 u5_4 e5 _) kc_Machines_install kv_Machines_install tt_437 ⟨by decide, by decide⟩ rfl rfl hP hK hD hS hA [2, 3, 4, 5, 6, 7] [0, 1] [0, 1, 2, 3, 4, 5, 6, 7] rfl (by decide) rfl (by decide) (by decide) rfl (by decide) 0 rfl rfl rfl rfl hl.1 (Nat.le_of_ble_eq_true rfl) rfl nd_Room_machine_40 ⟨Nat.zero_le _, Nat.zero_le _⟩ (fun H locs hP hD hS => ?_)
  exact hret (u5_0, u5_1, u5_2, u5_3, u5_4) _ _ _ _ nd_Room_machine_43 hR hP hD hS
def rm_Room_addRiskPoints : Room := { frames := 3, cells := 0, slots := 0, locals := 68 }
theorem kc_Room_addRiskPoints : k_cal nY_Room_addRiskPoints nC_Room_addRiskPoints 5 none 0 := ⟨tt_520, tt_1, by decide +kernel⟩
theorem kv_Room_addRiskPoints : k_vir nY_Room_addRiskPoints := ⟨tt_519, tp_2⟩
set_option maxHeartbeats 4000000 in
set_option maxRecDepth 100000 in
theorem cn_Room_addRiskPoints (l : Launch) (D : va_G) (ca : Nat → ClassId) (qa0 qhouse qtrial qrisks qriskPoints qrules qgauge qinside qwalls qgoods qmachines qheatBooks qwaterBooks qrisks0 qrisks1 qrisks2 qrisks3 qlevels qamounts qlevels2 qamounts2 qlevels3 qamounts3 qlevels4 qamounts4 : Nat) (hoursGone_ : Int32) (volume_ : Int32) (share_ : Int32) (heat_ : Int64) (water_ : Int64) (riskPoints_ : Nat → Int32) (size_ : Int32) (levels_ : Nat → Int32) (amounts_ : Nat → Int32) (size_2 : Int32) (levels_2 : Nat → Int32) (amounts_2 : Nat → Int32) (size_3 : Int32) (levels_3 : Nat → Int32) (amounts_3 : Nat → Int32) (size_4 : Int32) (levels_4 : Nat → Int32) (amounts_4 : Nat → Int32) (R0 : Nat → Int32) (hR : fn_Room_addRiskPoints volume_ heat_ water_ riskPoints_ size_ levels_ amounts_ size_2 levels_2 amounts_2 size_3 levels_3 amounts_3 size_4 levels_4 amounts_4 = some R0) (sz : Nat) : Met l nY_Room_addRiskPoints (Cond.code nY_Room_addRiskPoints nC_Room_addRiskPoints 5 none :: TT) rm_Room_addRiskPoints (wr_P [.ref qa0] D ca [oc_Room qa0 qhouse qtrial qrisks qriskPoints qrules qgauge hoursGone_, oc_House qhouse qinside qwalls qgoods qmachines, oc_Interior qinside qheatBooks qwaterBooks volume_ share_ heat_ water_, aI qriskPoints ca 4 riskPoints_, aS qrisks ca (rq4 qrisks0 qrisks1 qrisks2 qrisks3), oc_Steps qrisks0 qlevels qamounts size_, aI qlevels ca 5 levels_, aI qamounts ca 5 amounts_, oc_Steps qrisks1 qlevels2 qamounts2 size_2, aI qlevels2 ca 5 levels_2, aI qamounts2 ca 5 amounts_2, oc_Steps qrisks2 qlevels3 qamounts3 size_3, aI qlevels3 ca 5 levels_3, aI qamounts3 ca 5 amounts_3, oc_Steps qrisks3 qlevels4 qamounts4 size_4, aI qlevels4 ca 5 levels_4, aI qamounts4 ca 5 amounts_4] sz) (va_Qv (fun (_ : Unit) => True) (wr_B D [oc_Room qa0 qhouse qtrial qrisks qriskPoints qrules qgauge hoursGone_, oc_House qhouse qinside qwalls qgoods qmachines, oc_Interior qinside qheatBooks qwaterBooks volume_ share_ heat_ water_, aI qriskPoints ca 4 riskPoints_, aS qrisks ca (rq4 qrisks0 qrisks1 qrisks2 qrisks3), oc_Steps qrisks0 qlevels qamounts size_, aI qlevels ca 5 levels_, aI qamounts ca 5 amounts_, oc_Steps qrisks1 qlevels2 qamounts2 size_2, aI qlevels2 ca 5 levels_2, aI qamounts2 ca 5 amounts_2, oc_Steps qrisks2 qlevels3 qamounts3 size_3, aI qlevels3 ca 5 levels_3, aI qamounts3 ca 5 amounts_3, oc_Steps qrisks3 qlevels4 qamounts4 size_4, aI qlevels4 ca 5 levels_4, aI qamounts4 ca 5 amounts_4] sz [oc_Room qa0 qhouse qtrial qrisks qriskPoints qrules qgauge hoursGone_, oc_House qhouse qinside qwalls qgoods qmachines, oc_Interior qinside qheatBooks qwaterBooks volume_ share_ heat_ water_, aI qriskPoints ca 4 R0, aS qrisks ca (rq4 qrisks0 qrisks1 qrisks2 qrisks3), oc_Steps qrisks0 qlevels qamounts size_, aI qlevels ca 5 levels_, aI qamounts ca 5 amounts_, oc_Steps qrisks1 qlevels2 qamounts2 size_2, aI qlevels2 ca 5 levels_2, aI qamounts2 ca 5 amounts_2, oc_Steps qrisks2 qlevels3 qamounts3 size_3, aI qlevels3 ca 5 levels_3, aI qamounts3 ca 5 amounts_3, oc_Steps qrisks3 qlevels4 qamounts4 size_4, aI qlevels4 ca 5 levels_4, aI qamounts4 ca 5 amounts_4]) (va_A [oc_Room qa0 qhouse qtrial qrisks qriskPoints qrules qgauge hoursGone_, oc_House qhouse qinside qwalls qgoods qmachines, oc_Interior qinside qheatBooks qwaterBooks volume_ share_ heat_ water_, aI qriskPoints ca 4 riskPoints_, aS qrisks ca (rq4 qrisks0 qrisks1 qrisks2 qrisks3), oc_Steps qrisks0 qlevels qamounts size_, aI qlevels ca 5 levels_, aI qamounts ca 5 amounts_, oc_Steps qrisks1 qlevels2 qamounts2 size_2, aI qlevels2 ca 5 levels_2, aI qamounts2 ca 5 amounts_2, oc_Steps qrisks2 qlevels3 qamounts3 size_3, aI qlevels3 ca 5 levels_3, aI qamounts3 ca 5 amounts_3, oc_Steps qrisks3 qlevels4 qamounts4 size_4, aI qlevels4 ca 5 levels_4, aI qamounts4 ca 5 amounts_4] sz)) 0 0 (va_A [oc_Room qa0 qhouse qtrial qrisks qriskPoints qrules qgauge hoursGone_, oc_House qhouse qinside qwalls qgoods qmachines, oc_Interior qinside qheatBooks qwaterBooks volume_ share_ heat_ water_, aI qriskPoints ca 4 riskPoints_, aS qrisks ca (rq4 qrisks0 qrisks1 qrisks2 qrisks3), oc_Steps qrisks0 qlevels qamounts size_, aI qlevels ca 5 levels_, aI qamounts ca 5 amounts_, oc_Steps qrisks1 qlevels2 qamounts2 size_2, aI qlevels2 ca 5 levels_2, aI qamounts2 ca 5 amounts_2, oc_Steps qrisks2 qlevels3 qamounts3 size_3, aI qlevels3 ca 5 levels_3, aI qamounts3 ca 5 amounts_3, oc_Steps qrisks3 qlevels4 qamounts4 size_4, aI qlevels4 ca 5 levels_4, aI qamounts4 ca 5 amounts_4] sz) := by
  refine wr_ofV (R := R0) (w1 := fun r : (Nat → Int32) => [oc_Room qa0 qhouse qtrial qrisks qriskPoints qrules qgauge hoursGone_, oc_House qhouse qinside qwalls qgoods qmachines, oc_Interior qinside qheatBooks qwaterBooks volume_ share_ heat_ water_, aI qriskPoints ca 4 r, aS qrisks ca (rq4 qrisks0 qrisks1 qrisks2 qrisks3), oc_Steps qrisks0 qlevels qamounts size_, aI qlevels ca 5 levels_, aI qamounts ca 5 amounts_, oc_Steps qrisks1 qlevels2 qamounts2 size_2, aI qlevels2 ca 5 levels_2, aI qamounts2 ca 5 amounts_2, oc_Steps qrisks2 qlevels3 qamounts3 size_3, aI qlevels3 ca 5 levels_3, aI qamounts3 ca 5 amounts_3, oc_Steps qrisks3 qlevels4 qamounts4 size_4, aI qlevels4 ca 5 levels_4, aI qamounts4 ca 5 amounts_4]) (by decide +kernel) (Nat.le_of_ble_eq_true rfl) ?_
  intro p e s m below meth c Q ar ls hx hb hml hts hown hP hK A hD hA hl hret
  have hS : va_S A s.heap s.heap [] := va_S.rf
  have hown : s.vm.findClass nR_Room = some m.cls := hown
  have hl : lv_has ls 5 [(0, .ref qa0)] := hl
  unfold fn_Room_addRiskPoints at hR
  refine lv_iconst (v := 0) hx hb nd_Room_addRiskPoints_0 (by decide) ?_
  refine lv_istore_n (lv' := [(1, .int (0 : Int32)), (0, .ref qa0)]) hx hb nd_Room_addRiskPoints_1 rfl hl (by decide) rfl (fun ls hl => ?_)
  have hL2 : ∀ (n2 : Nat) (i1_2 : Int32) (riskPoints_L2 : Nat → Int32) (H : Heap) (locs : List Loc) (ls : Array Slot), fn_Room_addRiskPoints_L2 volume_ water_ heat_ size_ levels_ amounts_ size_2 levels_2 amounts_2 size_3 levels_3 amounts_3 size_4 levels_4 amounts_4 n2 i1_2 riskPoints_L2 = some R0 → va_P D vwCl [oc_Room qa0 qhouse qtrial qrisks qriskPoints qrules qgauge hoursGone_, oc_House qhouse qinside qwalls qgoods qmachines, oc_Interior qinside qheatBooks qwaterBooks volume_ share_ heat_ water_, aI qriskPoints ca 4 riskPoints_L2, aS qrisks ca (rq4 qrisks0 qrisks1 qrisks2 qrisks3), oc_Steps qrisks0 qlevels qamounts size_, aI qlevels ca 5 levels_, aI qamounts ca 5 amounts_, oc_Steps qrisks1 qlevels2 qamounts2 size_2, aI qlevels2 ca 5 levels_2, aI qamounts2 ca 5 amounts_2, oc_Steps qrisks2 qlevels3 qamounts3 size_3, aI qlevels3 ca 5 levels_3, aI qamounts3 ca 5 amounts_3, oc_Steps qrisks3 qlevels4 qamounts4 size_4, aI qlevels4 ca 5 levels_4, aI qamounts4 ca 5 amounts_4] H → va_D A [oc_Room qa0 qhouse qtrial qrisks qriskPoints qrules qgauge hoursGone_, oc_House qhouse qinside qwalls qgoods qmachines, oc_Interior qinside qheatBooks qwaterBooks volume_ share_ heat_ water_, aI qriskPoints ca 4 riskPoints_L2, aS qrisks ca (rq4 qrisks0 qrisks1 qrisks2 qrisks3), oc_Steps qrisks0 qlevels qamounts size_, aI qlevels ca 5 levels_, aI qamounts ca 5 amounts_, oc_Steps qrisks1 qlevels2 qamounts2 size_2, aI qlevels2 ca 5 levels_2, aI qamounts2 ca 5 amounts_2, oc_Steps qrisks2 qlevels3 qamounts3 size_3, aI qlevels3 ca 5 levels_3, aI qamounts3 ca 5 amounts_3, oc_Steps qrisks3 qlevels4 qamounts4 size_4, aI qlevels4 ca 5 levels_4, aI qamounts4 ca 5 amounts_4] → va_S A s.heap H locs → lv_has ls 5 [(0, .ref qa0), (1, .int i1_2)] → W p l e rm_Room_addRiskPoints s m ar below meth c H locs 0 0 Q (F0 m 2 ls []) := by
    intro n2
    induction n2 with
    | zero => intro i1_2 riskPoints_L2 H locs ls hR; exact nomatch hR
    | succ n2 ih2 =>
      intro i1_2 riskPoints_L2 H locs ls hR hP hD hS hl
      rw [fn_Room_addRiskPoints_L2] at hR
      refine lv_iload_n hx hb nd_Room_addRiskPoints_2 rfl (lv_at hl 1 rfl) ?_
      refine lv_iconst (v := 4) hx hb nd_Room_addRiskPoints_3 (by decide) ?_
      refine lv_icmp_ge (tgt := 71) hx hb nd_Room_addRiskPoints_4 (by decide) (fun c1 => ?_) (fun c1 => ?_)
      · replace hR := q_p c1 hR
        exact hret riskPoints_L2 _ _ _ _ nd_Room_addRiskPoints_71 hR hP hD hS
      · replace hR := q_n c1 hR
        refine lv_iload_n hx hb nd_Room_addRiskPoints_7 rfl (lv_at hl 1 rfl) ?_
        refine lv_iconst (v := 2) hx hb nd_Room_addRiskPoints_8 (by decide) ?_
        obtain ⟨j3_0, hJ3, hR⟩ := q_b1 hR
        have hN3 : ∀ (H : Heap) (locs : List Loc) (ls : Array Slot), va_P D vwCl [oc_Room qa0 qhouse qtrial qrisks qriskPoints qrules qgauge hoursGone_, oc_House qhouse qinside qwalls qgoods qmachines, oc_Interior qinside qheatBooks qwaterBooks volume_ share_ heat_ water_, aI qriskPoints ca 4 riskPoints_L2, aS qrisks ca (rq4 qrisks0 qrisks1 qrisks2 qrisks3), oc_Steps qrisks0 qlevels qamounts size_, aI qlevels ca 5 levels_, aI qamounts ca 5 amounts_, oc_Steps qrisks1 qlevels2 qamounts2 size_2, aI qlevels2 ca 5 levels_2, aI qamounts2 ca 5 amounts_2, oc_Steps qrisks2 qlevels3 qamounts3 size_3, aI qlevels3 ca 5 levels_3, aI qamounts3 ca 5 amounts_3, oc_Steps qrisks3 qlevels4 qamounts4 size_4, aI qlevels4 ca 5 levels_4, aI qamounts4 ca 5 amounts_4] H → va_D A [oc_Room qa0 qhouse qtrial qrisks qriskPoints qrules qgauge hoursGone_, oc_House qhouse qinside qwalls qgoods qmachines, oc_Interior qinside qheatBooks qwaterBooks volume_ share_ heat_ water_, aI qriskPoints ca 4 riskPoints_L2, aS qrisks ca (rq4 qrisks0 qrisks1 qrisks2 qrisks3), oc_Steps qrisks0 qlevels qamounts size_, aI qlevels ca 5 levels_, aI qamounts ca 5 amounts_, oc_Steps qrisks1 qlevels2 qamounts2 size_2, aI qlevels2 ca 5 levels_2, aI qamounts2 ca 5 amounts_2, oc_Steps qrisks2 qlevels3 qamounts3 size_3, aI qlevels3 ca 5 levels_3, aI qamounts3 ca 5 amounts_3, oc_Steps qrisks3 qlevels4 qamounts4 size_4, aI qlevels4 ca 5 levels_4, aI qamounts4 ca 5 amounts_4] → va_S A s.heap H locs → lv_has ls 5 [(0, .ref qa0), (1, .int i1_2)] → W p l e rm_Room_addRiskPoints s m ar below meth c H locs 0 0 Q (F0 m 17 ls [.int j3_0]) := by
          intro H locs ls hP hD hS hl
          refine lv_istore_n (lv' := [(2, .int j3_0), (0, .ref qa0), (1, .int i1_2)]) hx hb nd_Room_addRiskPoints_17 rfl hl (by decide) rfl (fun ls hl => ?_)
          refine lv_iload_n hx hb nd_Room_addRiskPoints_18 rfl (lv_at hl 0 rfl) ?_
          obtain ⟨j5_0, hJ5, hR⟩ := q_b1 hR
          have hN5 : ∀ (H : Heap) (locs : List Loc) (ls : Array Slot), va_P D vwCl [oc_Room qa0 qhouse qtrial qrisks qriskPoints qrules qgauge hoursGone_, oc_House qhouse qinside qwalls qgoods qmachines, oc_Interior qinside qheatBooks qwaterBooks volume_ share_ heat_ water_, aI qriskPoints ca 4 riskPoints_L2, aS qrisks ca (rq4 qrisks0 qrisks1 qrisks2 qrisks3), oc_Steps qrisks0 qlevels qamounts size_, aI qlevels ca 5 levels_, aI qamounts ca 5 amounts_, oc_Steps qrisks1 qlevels2 qamounts2 size_2, aI qlevels2 ca 5 levels_2, aI qamounts2 ca 5 amounts_2, oc_Steps qrisks2 qlevels3 qamounts3 size_3, aI qlevels3 ca 5 levels_3, aI qamounts3 ca 5 amounts_3, oc_Steps qrisks3 qlevels4 qamounts4 size_4, aI qlevels4 ca 5 levels_4, aI qamounts4 ca 5 amounts_4] H → va_D A [oc_Room qa0 qhouse qtrial qrisks qriskPoints qrules qgauge hoursGone_, oc_House qhouse qinside qwalls qgoods qmachines, oc_Interior qinside qheatBooks qwaterBooks volume_ share_ heat_ water_, aI qriskPoints ca 4 riskPoints_L2, aS qrisks ca (rq4 qrisks0 qrisks1 qrisks2 qrisks3), oc_Steps qrisks0 qlevels qamounts size_, aI qlevels ca 5 levels_, aI qamounts ca 5 amounts_, oc_Steps qrisks1 qlevels2 qamounts2 size_2, aI qlevels2 ca 5 levels_2, aI qamounts2 ca 5 amounts_2, oc_Steps qrisks2 qlevels3 qamounts3 size_3, aI qlevels3 ca 5 levels_3, aI qamounts3 ca 5 amounts_3, oc_Steps qrisks3 qlevels4 qamounts4 size_4, aI qlevels4 ca 5 levels_4, aI qamounts4 ca 5 amounts_4] → va_S A s.heap H locs → lv_has ls 5 [(0, .ref qa0), (1, .int i1_2), (2, .int j3_0)] → W p l e rm_Room_addRiskPoints s m ar below meth c H locs 0 0 Q (F0 m 45 ls [.long j5_0]) := by
            intro H locs ls hP hD hS hl
            refine lv_lstore_n (lv' := [(3, .long j5_0), (0, .ref qa0), (1, .int i1_2), (2, .int j3_0)]) hx hb nd_Room_addRiskPoints_45 rfl hl (by decide) rfl (fun ls hl => ?_)
            refine lv_aload_n hx hb nd_Room_addRiskPoints_46 rfl (lv_at hl 1 rfl) ?_
            refine va_get (D := D) (ci := 8) (v := .ref qriskPoints) (C := nR_Room) (T := nT_Room) (N := 7) hx hb hts ni_Room hown hK hP 0 rfl rfl 3 (by decide) (hts (.fieldLink nR_Room 30 "RoomClimate" "riskPoints" "[I") tt_225) (fun _ h9 => h9) rfl nd_Room_addRiskPoints_47 ?_
            refine lv_iload_n hx hb nd_Room_addRiskPoints_50 rfl (lv_at hl 2 rfl) ?_
            refine lv_dup2_11 hx hb nd_Room_addRiskPoints_51 rfl rfl ?_
            obtain ⟨h8, hR⟩ := q_ix hR
            refine va_iald hx hb hK hP 3 0 rfl rfl h8 nd_Room_addRiskPoints_52 ?_
            refine lv_aload_n hx hb nd_Room_addRiskPoints_53 rfl (lv_at hl 1 rfl) ?_
            refine va_get (D := D) (ci := 8) (v := .ref qrisks) (C := nR_Room) (T := nT_Room) (N := 7) hx hb hts ni_Room hown hK hP 0 rfl rfl 2 (by decide) (hts (.fieldLink nR_Room 26 "RoomClimate" "risks" "[LRoomClimate$Steps;") tt_224) (fun _ h9 => h9) rfl nd_Room_addRiskPoints_54 ?_
            refine lv_iload_n hx hb nd_Room_addRiskPoints_57 rfl (lv_at hl 2 rfl) ?_
            by_cases c9 : i1_2 = 0
            · replace hR := q_p c9 hR
              refine k_aldq (k := 0) hx hb hK hP 4 3 rfl rfl c9 (by decide) (by decide) rfl nd_Room_addRiskPoints_58 ?_
              refine lv_lload_n hx hb nd_Room_addRiskPoints_59 rfl (lv_at hl 0 rfl) ?_
              obtain ⟨r10, e10, hR⟩ := q_b1 hR
              refine k_rVI (As := [.long j5_0]) (rest := [.int (riskPoints_L2 i1_2.toNatClampNeg), .int i1_2, .ref qriskPoints]) (r := r10) hx hb hml hown hts (cn_Steps_amountFrom l D ca qrisks0 qlevels qamounts size_ levels_ amounts_ 5 j5_0 r10 e10) kc_Steps_amountFrom kv_Steps_amountFrom tt_521 ⟨by decide, by decide⟩ rfl rfl hP hK [5, 6, 7] rfl 0 rfl rfl rfl rfl hl.1 (Nat.le_of_ble_eq_true rfl) rfl nd_Room_addRiskPoints_60 ⟨Nat.zero_le _, Nat.zero_le _⟩ ?_
              refine lv_iadd hx hb nd_Room_addRiskPoints_63 ?_
              refine va_iast hx hb hK hP hD hS 3 0 rfl rfl h8 nd_Room_addRiskPoints_64 (fun H locs hP hD hS => ?_)
              have hP : va_P D vwCl [oc_Room qa0 qhouse qtrial qrisks qriskPoints qrules qgauge hoursGone_, oc_House qhouse qinside qwalls qgoods qmachines, oc_Interior qinside qheatBooks qwaterBooks volume_ share_ heat_ water_, aI qriskPoints ca 4 (upd riskPoints_L2 i1_2.toNatClampNeg ((riskPoints_L2 i1_2.toNatClampNeg) + r10)), aS qrisks ca (rq4 qrisks0 qrisks1 qrisks2 qrisks3), oc_Steps qrisks0 qlevels qamounts size_, aI qlevels ca 5 levels_, aI qamounts ca 5 amounts_, oc_Steps qrisks1 qlevels2 qamounts2 size_2, aI qlevels2 ca 5 levels_2, aI qamounts2 ca 5 amounts_2, oc_Steps qrisks2 qlevels3 qamounts3 size_3, aI qlevels3 ca 5 levels_3, aI qamounts3 ca 5 amounts_3, oc_Steps qrisks3 qlevels4 qamounts4 size_4, aI qlevels4 ca 5 levels_4, aI qamounts4 ca 5 amounts_4] H := hP
              have hD : va_D A [oc_Room qa0 qhouse qtrial qrisks qriskPoints qrules qgauge hoursGone_, oc_House qhouse qinside qwalls qgoods qmachines, oc_Interior qinside qheatBooks qwaterBooks volume_ share_ heat_ water_, aI qriskPoints ca 4 (upd riskPoints_L2 i1_2.toNatClampNeg ((riskPoints_L2 i1_2.toNatClampNeg) + r10)), aS qrisks ca (rq4 qrisks0 qrisks1 qrisks2 qrisks3), oc_Steps qrisks0 qlevels qamounts size_, aI qlevels ca 5 levels_, aI qamounts ca 5 amounts_, oc_Steps qrisks1 qlevels2 qamounts2 size_2, aI qlevels2 ca 5 levels_2, aI qamounts2 ca 5 amounts_2, oc_Steps qrisks2 qlevels3 qamounts3 size_3, aI qlevels3 ca 5 levels_3, aI qamounts3 ca 5 amounts_3, oc_Steps qrisks3 qlevels4 qamounts4 size_4, aI qlevels4 ca 5 levels_4, aI qamounts4 ca 5 amounts_4] := hD
              refine lv_iinc (v := i1_2 + 1) (lv' := [(1, .int (i1_2 + 1)), (3, .long j5_0), (0, .ref qa0), (2, .int j3_0)]) hx hb nd_Room_addRiskPoints_65 hl (k := 2) rfl (by first | rfl | decide) (by decide) rfl (fun ls hl => ?_)
              refine lv_goto (tgt := 2) hx hb nd_Room_addRiskPoints_68 (by decide) ?_
              exact ih2 (i1_2 + 1) (upd riskPoints_L2 i1_2.toNatClampNeg ((riskPoints_L2 i1_2.toNatClampNeg) + r10)) _ _ _ hR hP hD hS (lv_sub hl [2, 0] rfl)
            replace hR := q_n c9 hR
            by_cases c11 : i1_2 = 1
            · replace hR := q_p c11 hR
              refine k_aldq (k := 1) hx hb hK hP 4 3 rfl rfl c11 (by decide) (by decide) rfl nd_Room_addRiskPoints_58 ?_
              refine lv_lload_n hx hb nd_Room_addRiskPoints_59 rfl (lv_at hl 0 rfl) ?_
              obtain ⟨r12, e12, hR⟩ := q_b1 hR
              refine k_rVI (As := [.long j5_0]) (rest := [.int (riskPoints_L2 i1_2.toNatClampNeg), .int i1_2, .ref qriskPoints]) (r := r12) hx hb hml hown hts (cn_Steps_amountFrom l D ca qrisks1 qlevels2 qamounts2 size_2 levels_2 amounts_2 5 j5_0 r12 e12) kc_Steps_amountFrom kv_Steps_amountFrom tt_521 ⟨by decide, by decide⟩ rfl rfl hP hK [8, 9, 10] rfl 0 rfl rfl rfl rfl hl.1 (Nat.le_of_ble_eq_true rfl) rfl nd_Room_addRiskPoints_60 ⟨Nat.zero_le _, Nat.zero_le _⟩ ?_
              refine lv_iadd hx hb nd_Room_addRiskPoints_63 ?_
              refine va_iast hx hb hK hP hD hS 3 0 rfl rfl h8 nd_Room_addRiskPoints_64 (fun H locs hP hD hS => ?_)
              have hP : va_P D vwCl [oc_Room qa0 qhouse qtrial qrisks qriskPoints qrules qgauge hoursGone_, oc_House qhouse qinside qwalls qgoods qmachines, oc_Interior qinside qheatBooks qwaterBooks volume_ share_ heat_ water_, aI qriskPoints ca 4 (upd riskPoints_L2 i1_2.toNatClampNeg ((riskPoints_L2 i1_2.toNatClampNeg) + r12)), aS qrisks ca (rq4 qrisks0 qrisks1 qrisks2 qrisks3), oc_Steps qrisks0 qlevels qamounts size_, aI qlevels ca 5 levels_, aI qamounts ca 5 amounts_, oc_Steps qrisks1 qlevels2 qamounts2 size_2, aI qlevels2 ca 5 levels_2, aI qamounts2 ca 5 amounts_2, oc_Steps qrisks2 qlevels3 qamounts3 size_3, aI qlevels3 ca 5 levels_3, aI qamounts3 ca 5 amounts_3, oc_Steps qrisks3 qlevels4 qamounts4 size_4, aI qlevels4 ca 5 levels_4, aI qamounts4 ca 5 amounts_4] H := hP
              have hD : va_D A [oc_Room qa0 qhouse qtrial qrisks qriskPoints qrules qgauge hoursGone_, oc_House qhouse qinside qwalls qgoods qmachines, oc_Interior qinside qheatBooks qwaterBooks volume_ share_ heat_ water_, aI qriskPoints ca 4 (upd riskPoints_L2 i1_2.toNatClampNeg ((riskPoints_L2 i1_2.toNatClampNeg) + r12)), aS qrisks ca (rq4 qrisks0 qrisks1 qrisks2 qrisks3), oc_Steps qrisks0 qlevels qamounts size_, aI qlevels ca 5 levels_, aI qamounts ca 5 amounts_, oc_Steps qrisks1 qlevels2 qamounts2 size_2, aI qlevels2 ca 5 levels_2, aI qamounts2 ca 5 amounts_2, oc_Steps qrisks2 qlevels3 qamounts3 size_3, aI qlevels3 ca 5 levels_3, aI qamounts3 ca 5 amounts_3, oc_Steps qrisks3 qlevels4 qamounts4 size_4, aI qlevels4 ca 5 levels_4, aI qamounts4 ca 5 amounts_4] := hD
              refine lv_iinc (v := i1_2 + 1) (lv' := [(1, .int (i1_2 + 1)), (3, .long j5_0), (0, .ref qa0), (2, .int j3_0)]) hx hb nd_Room_addRiskPoints_65 hl (k := 2) rfl (by first | rfl | decide) (by decide) rfl (fun ls hl => ?_)
              refine lv_goto (tgt := 2) hx hb nd_Room_addRiskPoints_68 (by decide) ?_
              exact ih2 (i1_2 + 1) (upd riskPoints_L2 i1_2.toNatClampNeg ((riskPoints_L2 i1_2.toNatClampNeg) + r12)) _ _ _ hR hP hD hS (lv_sub hl [2, 0] rfl)
            replace hR := q_n c11 hR
            by_cases c13 : i1_2 = 2
            · replace hR := q_p c13 hR
              refine k_aldq (k := 2) hx hb hK hP 4 3 rfl rfl c13 (by decide) (by decide) rfl nd_Room_addRiskPoints_58 ?_
              refine lv_lload_n hx hb nd_Room_addRiskPoints_59 rfl (lv_at hl 0 rfl) ?_
              obtain ⟨r14, e14, hR⟩ := q_b1 hR
              refine k_rVI (As := [.long j5_0]) (rest := [.int (riskPoints_L2 i1_2.toNatClampNeg), .int i1_2, .ref qriskPoints]) (r := r14) hx hb hml hown hts (cn_Steps_amountFrom l D ca qrisks2 qlevels3 qamounts3 size_3 levels_3 amounts_3 5 j5_0 r14 e14) kc_Steps_amountFrom kv_Steps_amountFrom tt_521 ⟨by decide, by decide⟩ rfl rfl hP hK [11, 12, 13] rfl 0 rfl rfl rfl rfl hl.1 (Nat.le_of_ble_eq_true rfl) rfl nd_Room_addRiskPoints_60 ⟨Nat.zero_le _, Nat.zero_le _⟩ ?_
              refine lv_iadd hx hb nd_Room_addRiskPoints_63 ?_
              refine va_iast hx hb hK hP hD hS 3 0 rfl rfl h8 nd_Room_addRiskPoints_64 (fun H locs hP hD hS => ?_)
              have hP : va_P D vwCl [oc_Room qa0 qhouse qtrial qrisks qriskPoints qrules qgauge hoursGone_, oc_House qhouse qinside qwalls qgoods qmachines, oc_Interior qinside qheatBooks qwaterBooks volume_ share_ heat_ water_, aI qriskPoints ca 4 (upd riskPoints_L2 i1_2.toNatClampNeg ((riskPoints_L2 i1_2.toNatClampNeg) + r14)), aS qrisks ca (rq4 qrisks0 qrisks1 qrisks2 qrisks3), oc_Steps qrisks0 qlevels qamounts size_, aI qlevels ca 5 levels_, aI qamounts ca 5 amounts_, oc_Steps qrisks1 qlevels2 qamounts2 size_2, aI qlevels2 ca 5 levels_2, aI qamounts2 ca 5 amounts_2, oc_Steps qrisks2 qlevels3 qamounts3 size_3, aI qlevels3 ca 5 levels_3, aI qamounts3 ca 5 amounts_3, oc_Steps qrisks3 qlevels4 qamounts4 size_4, aI qlevels4 ca 5 levels_4, aI qamounts4 ca 5 amounts_4] H := hP
              have hD : va_D A [oc_Room qa0 qhouse qtrial qrisks qriskPoints qrules qgauge hoursGone_, oc_House qhouse qinside qwalls qgoods qmachines, oc_Interior qinside qheatBooks qwaterBooks volume_ share_ heat_ water_, aI qriskPoints ca 4 (upd riskPoints_L2 i1_2.toNatClampNeg ((riskPoints_L2 i1_2.toNatClampNeg) + r14)), aS qrisks ca (rq4 qrisks0 qrisks1 qrisks2 qrisks3), oc_Steps qrisks0 qlevels qamounts size_, aI qlevels ca 5 levels_, aI qamounts ca 5 amounts_, oc_Steps qrisks1 qlevels2 qamounts2 size_2, aI qlevels2 ca 5 levels_2, aI qamounts2 ca 5 amounts_2, oc_Steps qrisks2 qlevels3 qamounts3 size_3, aI qlevels3 ca 5 levels_3, aI qamounts3 ca 5 amounts_3, oc_Steps qrisks3 qlevels4 qamounts4 size_4, aI qlevels4 ca 5 levels_4, aI qamounts4 ca 5 amounts_4] := hD
              refine lv_iinc (v := i1_2 + 1) (lv' := [(1, .int (i1_2 + 1)), (3, .long j5_0), (0, .ref qa0), (2, .int j3_0)]) hx hb nd_Room_addRiskPoints_65 hl (k := 2) rfl (by first | rfl | decide) (by decide) rfl (fun ls hl => ?_)
              refine lv_goto (tgt := 2) hx hb nd_Room_addRiskPoints_68 (by decide) ?_
              exact ih2 (i1_2 + 1) (upd riskPoints_L2 i1_2.toNatClampNeg ((riskPoints_L2 i1_2.toNatClampNeg) + r14)) _ _ _ hR hP hD hS (lv_sub hl [2, 0] rfl)
            replace hR := q_n c13 hR
            by_cases c15 : i1_2 = 3
            · replace hR := q_p c15 hR
              refine k_aldq (k := 3) hx hb hK hP 4 3 rfl rfl c15 (by decide) (by decide) rfl nd_Room_addRiskPoints_58 ?_
              refine lv_lload_n hx hb nd_Room_addRiskPoints_59 rfl (lv_at hl 0 rfl) ?_
              obtain ⟨r16, e16, hR⟩ := q_b1 hR
              refine k_rVI (As := [.long j5_0]) (rest := [.int (riskPoints_L2 i1_2.toNatClampNeg), .int i1_2, .ref qriskPoints]) (r := r16) hx hb hml hown hts (cn_Steps_amountFrom l D ca qrisks3 qlevels4 qamounts4 size_4 levels_4 amounts_4 5 j5_0 r16 e16) kc_Steps_amountFrom kv_Steps_amountFrom tt_521 ⟨by decide, by decide⟩ rfl rfl hP hK [14, 15, 16] rfl 0 rfl rfl rfl rfl hl.1 (Nat.le_of_ble_eq_true rfl) rfl nd_Room_addRiskPoints_60 ⟨Nat.zero_le _, Nat.zero_le _⟩ ?_
              refine lv_iadd hx hb nd_Room_addRiskPoints_63 ?_
              refine va_iast hx hb hK hP hD hS 3 0 rfl rfl h8 nd_Room_addRiskPoints_64 (fun H locs hP hD hS => ?_)
              have hP : va_P D vwCl [oc_Room qa0 qhouse qtrial qrisks qriskPoints qrules qgauge hoursGone_, oc_House qhouse qinside qwalls qgoods qmachines, oc_Interior qinside qheatBooks qwaterBooks volume_ share_ heat_ water_, aI qriskPoints ca 4 (upd riskPoints_L2 i1_2.toNatClampNeg ((riskPoints_L2 i1_2.toNatClampNeg) + r16)), aS qrisks ca (rq4 qrisks0 qrisks1 qrisks2 qrisks3), oc_Steps qrisks0 qlevels qamounts size_, aI qlevels ca 5 levels_, aI qamounts ca 5 amounts_, oc_Steps qrisks1 qlevels2 qamounts2 size_2, aI qlevels2 ca 5 levels_2, aI qamounts2 ca 5 amounts_2, oc_Steps qrisks2 qlevels3 qamounts3 size_3, aI qlevels3 ca 5 levels_3, aI qamounts3 ca 5 amounts_3, oc_Steps qrisks3 qlevels4 qamounts4 size_4, aI qlevels4 ca 5 levels_4, aI qamounts4 ca 5 amounts_4] H := hP
              have hD : va_D A [oc_Room qa0 qhouse qtrial qrisks qriskPoints qrules qgauge hoursGone_, oc_House qhouse qinside qwalls qgoods qmachines, oc_Interior qinside qheatBooks qwaterBooks volume_ share_ heat_ water_, aI qriskPoints ca 4 (upd riskPoints_L2 i1_2.toNatClampNeg ((riskPoints_L2 i1_2.toNatClampNeg) + r16)), aS qrisks ca (rq4 qrisks0 qrisks1 qrisks2 qrisks3), oc_Steps qrisks0 qlevels qamounts size_, aI qlevels ca 5 levels_, aI qamounts ca 5 amounts_, oc_Steps qrisks1 qlevels2 qamounts2 size_2, aI qlevels2 ca 5 levels_2, aI qamounts2 ca 5 amounts_2, oc_Steps qrisks2 qlevels3 qamounts3 size_3, aI qlevels3 ca 5 levels_3, aI qamounts3 ca 5 amounts_3, oc_Steps qrisks3 qlevels4 qamounts4 size_4, aI qlevels4 ca 5 levels_4, aI qamounts4 ca 5 amounts_4] := hD
              refine lv_iinc (v := i1_2 + 1) (lv' := [(1, .int (i1_2 + 1)), (3, .long j5_0), (0, .ref qa0), (2, .int j3_0)]) hx hb nd_Room_addRiskPoints_65 hl (k := 2) rfl (by first | rfl | decide) (by decide) rfl (fun ls hl => ?_)
              refine lv_goto (tgt := 2) hx hb nd_Room_addRiskPoints_68 (by decide) ?_
              exact ih2 (i1_2 + 1) (upd riskPoints_L2 i1_2.toNatClampNeg ((riskPoints_L2 i1_2.toNatClampNeg) + r16)) _ _ _ hR hP hD hS (lv_sub hl [2, 0] rfl)
            replace hR := q_n c15 hR
            exact nomatch hR
          refine lv_if_eq (tgt := 35) hx hb nd_Room_addRiskPoints_19 (by decide) (fun c4 => ?_) (fun c4 => ?_)
          · have hR := q_p c4 hJ5
            refine lv_aload_n hx hb nd_Room_addRiskPoints_35 rfl (lv_at hl 1 rfl) ?_
            refine va_get (D := D) (ci := 8) (v := .ref qhouse) (C := nR_Room) (T := nT_Room) (N := 7) hx hb hts ni_Room hown hK hP 0 rfl rfl 0 (by decide) (hts (.fieldLink nR_Room 19 "RoomClimate" "house" "LRoomClimate$House;") tt_222) (fun _ h9 => h9) rfl nd_Room_addRiskPoints_36 ?_
            refine va_getN (D := D) (ci := 2) (v := .ref qinside) (C := nR_House) (T := nT_House) (N := 4) hx hb hts ni_House hown hK hP 1 rfl rfl 0 (by decide) (hts (.fieldLinkNest nR_Room 56 "RoomClimate$House" "inside" "LRoomClimate$Interior;" "RoomClimate") tt_150) (fun _ h9 => h9) rfl nd_Room_addRiskPoints_39 ?_
            obtain ⟨r6, e6, hR⟩ := q_b1 hR
            refine k_rVJ (As := []) (rest := []) (r := r6) hx hb hml hown hts (cn_Interior_moisture l D ca qinside qheatBooks qwaterBooks volume_ share_ heat_ water_ r6 e6) kc_Interior_moisture kv_Interior_moisture tt_262 ⟨by decide, by decide⟩ rfl rfl hP hK [2] rfl 0 rfl rfl rfl rfl hl.1 (Nat.le_of_ble_eq_true rfl) rfl nd_Room_addRiskPoints_42 ⟨Nat.zero_le _, Nat.zero_le _⟩ ?_
            cases hR
            exact hN5 _ _ _ hP hD hS (lv_sub hl [1, 2, 0] rfl)
          · have hR := q_n c4 hJ5
            refine lv_aload_n hx hb nd_Room_addRiskPoints_22 rfl (lv_at hl 1 rfl) ?_
            refine va_get (D := D) (ci := 8) (v := .ref qhouse) (C := nR_Room) (T := nT_Room) (N := 7) hx hb hts ni_Room hown hK hP 0 rfl rfl 0 (by decide) (hts (.fieldLink nR_Room 19 "RoomClimate" "house" "LRoomClimate$House;") tt_222) (fun _ h9 => h9) rfl nd_Room_addRiskPoints_23 ?_
            refine va_getN (D := D) (ci := 2) (v := .ref qinside) (C := nR_House) (T := nT_House) (N := 4) hx hb hts ni_House hown hK hP 1 rfl rfl 0 (by decide) (hts (.fieldLinkNest nR_Room 56 "RoomClimate$House" "inside" "LRoomClimate$Interior;" "RoomClimate") tt_150) (fun _ h9 => h9) rfl nd_Room_addRiskPoints_26 ?_
            obtain ⟨r7, e7, hR⟩ := q_b1 hR
            refine k_rVJ (As := []) (rest := []) (r := r7) hx hb hml hown hts (cn_Interior_warmth l D ca qinside qheatBooks qwaterBooks volume_ share_ heat_ water_ r7 e7) kc_Interior_warmth kv_Interior_warmth tt_248 ⟨by decide, by decide⟩ rfl rfl hP hK [2] rfl 0 rfl rfl rfl rfl hl.1 (Nat.le_of_ble_eq_true rfl) rfl nd_Room_addRiskPoints_29 ⟨Nat.zero_le _, Nat.zero_le _⟩ ?_
            refine lv_goto (tgt := 45) hx hb nd_Room_addRiskPoints_32 (by decide) ?_
            cases hR
            exact hN5 _ _ _ hP hD hS (lv_sub hl [1, 2, 0] rfl)
        refine lv_icmp_lt (tgt := 16) hx hb nd_Room_addRiskPoints_9 (by decide) (fun c2 => ?_) (fun c2 => ?_)
        · have hR := q_p c2 hJ3
          refine lv_iconst (v := 0) hx hb nd_Room_addRiskPoints_16 (by decide) ?_
          cases hR
          exact hN3 _ _ _ hP hD hS (lv_sub hl [0, 1] rfl)
        · have hR := q_n c2 hJ3
          refine lv_iconst (v := 1) hx hb nd_Room_addRiskPoints_12 (by decide) ?_
          refine lv_goto (tgt := 17) hx hb nd_Room_addRiskPoints_13 (by decide) ?_
          cases hR
          exact hN3 _ _ _ hP hD hS (lv_sub hl [0, 1] rfl)
  exact hL2 400 (0 : Int32) riskPoints_ _ _ _ hR hP hD hS (lv_sub hl [1, 0] rfl)
def rm_Room_hour : Room := { frames := 9, cells := 0, slots := 0, locals := 162 }
theorem kc_Room_hour : k_cal nY_Room_hour nC_Room_hour 4 (some .int) 3 := ⟨tt_447, tt_1, by decide +kernel⟩
theorem kv_Room_hour : k_vir nY_Room_hour := ⟨tt_445, tt_446⟩
set_option maxHeartbeats 4000000 in
set_option maxRecDepth 100000 in
theorem cn_Room_hour (l : Launch) (D : va_G) (ca : Nat → ClassId) (qa0 qhouse qtrial qrisks qriskPoints qrules qgauge qinside qwalls qgoods qmachines qheatBooks qwaterBooks qconductances qcapacities qheats qrows qlevels qamounts qlows qhighs qrates qtold qrunning qrisks0 qrisks1 qrisks2 qrisks3 qlevels2 qamounts2 qlevels3 qamounts3 qlevels4 qamounts4 qlevels5 qamounts5 qkinds qlevels6 qholds qalarmCounts qalarmHours qalarmHours0 qalarmHours1 qalarmHours2 qalarmHours3 : Nat) (hoursGone_ : Int32) (volume_ : Int32) (share_ : Int32) (heat_ : Int64) (water_ : Int64) (heatBooks_ : Nat → Int64) (waterBooks_ : Nat → Int64) (layers_ : Int32) (heats_ : Nat → Int64) (conductances_ : Nat → Int32) (capacities_ : Nat → Int32) (kilograms_ : Int32) (load_ : Int64) (size_ : Int32) (amounts_ : Nat → Int32) (levels_ : Nat → Int32) (told_ : Nat → Int32) (lows_ : Nat → Int32) (highs_ : Nat → Int32) (running_ : Nat → Int32) (rates_ : Nat → Int32) (riskPoints_ : Nat → Int32) (size_2 : Int32) (levels_2 : Nat → Int32) (amounts_2 : Nat → Int32) (size_3 : Int32) (levels_3 : Nat → Int32) (amounts_3 : Nat → Int32) (size_4 : Int32) (levels_4 : Nat → Int32) (amounts_4 : Nat → Int32) (size_5 : Int32) (levels_5 : Nat → Int32) (amounts_5 : Nat → Int32) (size_6 : Int32) (kinds_ : Nat → Int32) (levels_6 : Nat → Int32) (alarmCounts_ : Nat → Int32) (alarmHours0_ : Nat → Int32) (holds_ : Nat → Int32) (alarmHours1_ : Nat → Int32) (alarmHours2_ : Nat → Int32) (alarmHours3_ : Nat → Int32) (x1 : Int32) (x2 : Int32) (x3 : Int32) (R0 : Int32) (R1 : Int64) (R2 : Nat → Int64) (R3 : Int64) (R4 : Nat → Int64) (R5 : Nat → Int64) (R6 : Int64) (R7 : Nat → Int32) (R8 : Nat → Int32) (R9 : Nat → Int32) (R10 : Nat → Int32) (R11 : Nat → Int32) (R12 : Nat → Int32) (R13 : Nat → Int32) (R14 : Int32) (hR : fn_Room_hour hoursGone_ volume_ share_ heat_ water_ heatBooks_ waterBooks_ layers_ heats_ conductances_ capacities_ kilograms_ load_ size_ amounts_ levels_ told_ lows_ highs_ running_ rates_ riskPoints_ size_2 levels_2 amounts_2 size_3 levels_3 amounts_3 size_4 levels_4 amounts_4 size_5 levels_5 amounts_5 size_6 kinds_ levels_6 alarmCounts_ alarmHours0_ holds_ alarmHours1_ alarmHours2_ alarmHours3_ x1 x2 x3 = some (.inr (R0, R1, R2, R3, R4, R5, R6, R7, R8, R9, R10, R11, R12, R13, R14))) (sz : Nat) : Met l nY_Room_hour (Cond.code nY_Room_hour nC_Room_hour 4 (some .int) :: TT) rm_Room_hour (wr_P [.ref qa0, .int x1, .int x2, .int x3] D ca [oc_Room qa0 qhouse qtrial qrisks qriskPoints qrules qgauge hoursGone_, oc_House qhouse qinside qwalls qgoods qmachines, oc_Interior qinside qheatBooks qwaterBooks volume_ share_ heat_ water_, aJ qheatBooks ca 5 heatBooks_, aJ qwaterBooks ca 5 waterBooks_, oc_Walls qwalls qconductances qcapacities qheats layers_, aJ qheats ca 5 heats_, aI qconductances ca 5 conductances_, aI qcapacities ca 5 capacities_, oc_Goods qgoods qrows kilograms_ load_, oc_Steps qrows qlevels qamounts size_, aI qamounts ca 6 amounts_, aI qlevels ca 6 levels_, oc_Machines qmachines qlows qhighs qrates qtold qrunning, aZ qtold ca 4 told_, aI qlows ca 4 lows_, aI qhighs ca 4 highs_, aZ qrunning ca 4 running_, aI qrates ca 4 rates_, aI qriskPoints ca 4 riskPoints_, aS qrisks ca (rq4 qrisks0 qrisks1 qrisks2 qrisks3), oc_Steps qrisks0 qlevels2 qamounts2 size_2, aI qlevels2 ca 5 levels_2, aI qamounts2 ca 5 amounts_2, oc_Steps qrisks1 qlevels3 qamounts3 size_3, aI qlevels3 ca 5 levels_3, aI qamounts3 ca 5 amounts_3, oc_Steps qrisks2 qlevels4 qamounts4 size_4, aI qlevels4 ca 5 levels_4, aI qamounts4 ca 5 amounts_4, oc_Steps qrisks3 qlevels5 qamounts5 size_5, aI qlevels5 ca 5 levels_5, aI qamounts5 ca 5 amounts_5, oc_Rules qrules qkinds qlevels6 qholds qalarmCounts qalarmHours size_6, aI qkinds ca 4 kinds_, aI qlevels6 ca 4 levels_6, aI qalarmCounts ca 4 alarmCounts_, aG qalarmHours ca (rq4 qalarmHours0 qalarmHours1 qalarmHours2 qalarmHours3), aI qalarmHours0 ca 300 alarmHours0_, aI qholds ca 4 holds_, aI qalarmHours1 ca 300 alarmHours1_, aI qalarmHours2 ca 300 alarmHours2_, aI qalarmHours3 ca 300 alarmHours3_] sz) (va_Qi (fun x (_ : Unit) => x = R0) (wr_B D [oc_Room qa0 qhouse qtrial qrisks qriskPoints qrules qgauge hoursGone_, oc_House qhouse qinside qwalls qgoods qmachines, oc_Interior qinside qheatBooks qwaterBooks volume_ share_ heat_ water_, aJ qheatBooks ca 5 heatBooks_, aJ qwaterBooks ca 5 waterBooks_, oc_Walls qwalls qconductances qcapacities qheats layers_, aJ qheats ca 5 heats_, aI qconductances ca 5 conductances_, aI qcapacities ca 5 capacities_, oc_Goods qgoods qrows kilograms_ load_, oc_Steps qrows qlevels qamounts size_, aI qamounts ca 6 amounts_, aI qlevels ca 6 levels_, oc_Machines qmachines qlows qhighs qrates qtold qrunning, aZ qtold ca 4 told_, aI qlows ca 4 lows_, aI qhighs ca 4 highs_, aZ qrunning ca 4 running_, aI qrates ca 4 rates_, aI qriskPoints ca 4 riskPoints_, aS qrisks ca (rq4 qrisks0 qrisks1 qrisks2 qrisks3), oc_Steps qrisks0 qlevels2 qamounts2 size_2, aI qlevels2 ca 5 levels_2, aI qamounts2 ca 5 amounts_2, oc_Steps qrisks1 qlevels3 qamounts3 size_3, aI qlevels3 ca 5 levels_3, aI qamounts3 ca 5 amounts_3, oc_Steps qrisks2 qlevels4 qamounts4 size_4, aI qlevels4 ca 5 levels_4, aI qamounts4 ca 5 amounts_4, oc_Steps qrisks3 qlevels5 qamounts5 size_5, aI qlevels5 ca 5 levels_5, aI qamounts5 ca 5 amounts_5, oc_Rules qrules qkinds qlevels6 qholds qalarmCounts qalarmHours size_6, aI qkinds ca 4 kinds_, aI qlevels6 ca 4 levels_6, aI qalarmCounts ca 4 alarmCounts_, aG qalarmHours ca (rq4 qalarmHours0 qalarmHours1 qalarmHours2 qalarmHours3), aI qalarmHours0 ca 300 alarmHours0_, aI qholds ca 4 holds_, aI qalarmHours1 ca 300 alarmHours1_, aI qalarmHours2 ca 300 alarmHours2_, aI qalarmHours3 ca 300 alarmHours3_] sz [oc_Room qa0 qhouse qtrial qrisks qriskPoints qrules qgauge R14, oc_House qhouse qinside qwalls qgoods qmachines, oc_Interior qinside qheatBooks qwaterBooks volume_ share_ R1 R3, aJ qheatBooks ca 5 R2, aJ qwaterBooks ca 5 R4, oc_Walls qwalls qconductances qcapacities qheats layers_, aJ qheats ca 5 R5, aI qconductances ca 5 conductances_, aI qcapacities ca 5 capacities_, oc_Goods qgoods qrows kilograms_ R6, oc_Steps qrows qlevels qamounts size_, aI qamounts ca 6 amounts_, aI qlevels ca 6 levels_, oc_Machines qmachines qlows qhighs qrates qtold qrunning, aZ qtold ca 4 told_, aI qlows ca 4 lows_, aI qhighs ca 4 highs_, aZ qrunning ca 4 R7, aI qrates ca 4 rates_, aI qriskPoints ca 4 R8, aS qrisks ca (rq4 qrisks0 qrisks1 qrisks2 qrisks3), oc_Steps qrisks0 qlevels2 qamounts2 size_2, aI qlevels2 ca 5 levels_2, aI qamounts2 ca 5 amounts_2, oc_Steps qrisks1 qlevels3 qamounts3 size_3, aI qlevels3 ca 5 levels_3, aI qamounts3 ca 5 amounts_3, oc_Steps qrisks2 qlevels4 qamounts4 size_4, aI qlevels4 ca 5 levels_4, aI qamounts4 ca 5 amounts_4, oc_Steps qrisks3 qlevels5 qamounts5 size_5, aI qlevels5 ca 5 levels_5, aI qamounts5 ca 5 amounts_5, oc_Rules qrules qkinds qlevels6 qholds qalarmCounts qalarmHours size_6, aI qkinds ca 4 kinds_, aI qlevels6 ca 4 levels_6, aI qalarmCounts ca 4 R10, aG qalarmHours ca (rq4 qalarmHours0 qalarmHours1 qalarmHours2 qalarmHours3), aI qalarmHours0 ca 300 R9, aI qholds ca 4 holds_, aI qalarmHours1 ca 300 R11, aI qalarmHours2 ca 300 R12, aI qalarmHours3 ca 300 R13]) (va_A [oc_Room qa0 qhouse qtrial qrisks qriskPoints qrules qgauge hoursGone_, oc_House qhouse qinside qwalls qgoods qmachines, oc_Interior qinside qheatBooks qwaterBooks volume_ share_ heat_ water_, aJ qheatBooks ca 5 heatBooks_, aJ qwaterBooks ca 5 waterBooks_, oc_Walls qwalls qconductances qcapacities qheats layers_, aJ qheats ca 5 heats_, aI qconductances ca 5 conductances_, aI qcapacities ca 5 capacities_, oc_Goods qgoods qrows kilograms_ load_, oc_Steps qrows qlevels qamounts size_, aI qamounts ca 6 amounts_, aI qlevels ca 6 levels_, oc_Machines qmachines qlows qhighs qrates qtold qrunning, aZ qtold ca 4 told_, aI qlows ca 4 lows_, aI qhighs ca 4 highs_, aZ qrunning ca 4 running_, aI qrates ca 4 rates_, aI qriskPoints ca 4 riskPoints_, aS qrisks ca (rq4 qrisks0 qrisks1 qrisks2 qrisks3), oc_Steps qrisks0 qlevels2 qamounts2 size_2, aI qlevels2 ca 5 levels_2, aI qamounts2 ca 5 amounts_2, oc_Steps qrisks1 qlevels3 qamounts3 size_3, aI qlevels3 ca 5 levels_3, aI qamounts3 ca 5 amounts_3, oc_Steps qrisks2 qlevels4 qamounts4 size_4, aI qlevels4 ca 5 levels_4, aI qamounts4 ca 5 amounts_4, oc_Steps qrisks3 qlevels5 qamounts5 size_5, aI qlevels5 ca 5 levels_5, aI qamounts5 ca 5 amounts_5, oc_Rules qrules qkinds qlevels6 qholds qalarmCounts qalarmHours size_6, aI qkinds ca 4 kinds_, aI qlevels6 ca 4 levels_6, aI qalarmCounts ca 4 alarmCounts_, aG qalarmHours ca (rq4 qalarmHours0 qalarmHours1 qalarmHours2 qalarmHours3), aI qalarmHours0 ca 300 alarmHours0_, aI qholds ca 4 holds_, aI qalarmHours1 ca 300 alarmHours1_, aI qalarmHours2 ca 300 alarmHours2_, aI qalarmHours3 ca 300 alarmHours3_] sz)) 0 0 (va_A [oc_Room qa0 qhouse qtrial qrisks qriskPoints qrules qgauge hoursGone_, oc_House qhouse qinside qwalls qgoods qmachines, oc_Interior qinside qheatBooks qwaterBooks volume_ share_ heat_ water_, aJ qheatBooks ca 5 heatBooks_, aJ qwaterBooks ca 5 waterBooks_, oc_Walls qwalls qconductances qcapacities qheats layers_, aJ qheats ca 5 heats_, aI qconductances ca 5 conductances_, aI qcapacities ca 5 capacities_, oc_Goods qgoods qrows kilograms_ load_, oc_Steps qrows qlevels qamounts size_, aI qamounts ca 6 amounts_, aI qlevels ca 6 levels_, oc_Machines qmachines qlows qhighs qrates qtold qrunning, aZ qtold ca 4 told_, aI qlows ca 4 lows_, aI qhighs ca 4 highs_, aZ qrunning ca 4 running_, aI qrates ca 4 rates_, aI qriskPoints ca 4 riskPoints_, aS qrisks ca (rq4 qrisks0 qrisks1 qrisks2 qrisks3), oc_Steps qrisks0 qlevels2 qamounts2 size_2, aI qlevels2 ca 5 levels_2, aI qamounts2 ca 5 amounts_2, oc_Steps qrisks1 qlevels3 qamounts3 size_3, aI qlevels3 ca 5 levels_3, aI qamounts3 ca 5 amounts_3, oc_Steps qrisks2 qlevels4 qamounts4 size_4, aI qlevels4 ca 5 levels_4, aI qamounts4 ca 5 amounts_4, oc_Steps qrisks3 qlevels5 qamounts5 size_5, aI qlevels5 ca 5 levels_5, aI qamounts5 ca 5 amounts_5, oc_Rules qrules qkinds qlevels6 qholds qalarmCounts qalarmHours size_6, aI qkinds ca 4 kinds_, aI qlevels6 ca 4 levels_6, aI qalarmCounts ca 4 alarmCounts_, aG qalarmHours ca (rq4 qalarmHours0 qalarmHours1 qalarmHours2 qalarmHours3), aI qalarmHours0 ca 300 alarmHours0_, aI qholds ca 4 holds_, aI qalarmHours1 ca 300 alarmHours1_, aI qalarmHours2 ca 300 alarmHours2_, aI qalarmHours3 ca 300 alarmHours3_] sz) := by
  refine wr_ofI (R := (R0, R1, R2, R3, R4, R5, R6, R7, R8, R9, R10, R11, R12, R13, R14)) (val := fun r => r.1) (w1 := fun r : Int32 × Int64 × (Nat → Int64) × Int64 × (Nat → Int64) × (Nat → Int64) × Int64 × (Nat → Int32) × (Nat → Int32) × (Nat → Int32) × (Nat → Int32) × (Nat → Int32) × (Nat → Int32) × (Nat → Int32) × Int32 => [oc_Room qa0 qhouse qtrial qrisks qriskPoints qrules qgauge r.2.2.2.2.2.2.2.2.2.2.2.2.2.2, oc_House qhouse qinside qwalls qgoods qmachines, oc_Interior qinside qheatBooks qwaterBooks volume_ share_ r.2.1 r.2.2.2.1, aJ qheatBooks ca 5 r.2.2.1, aJ qwaterBooks ca 5 r.2.2.2.2.1, oc_Walls qwalls qconductances qcapacities qheats layers_, aJ qheats ca 5 r.2.2.2.2.2.1, aI qconductances ca 5 conductances_, aI qcapacities ca 5 capacities_, oc_Goods qgoods qrows kilograms_ r.2.2.2.2.2.2.1, oc_Steps qrows qlevels qamounts size_, aI qamounts ca 6 amounts_, aI qlevels ca 6 levels_, oc_Machines qmachines qlows qhighs qrates qtold qrunning, aZ qtold ca 4 told_, aI qlows ca 4 lows_, aI qhighs ca 4 highs_, aZ qrunning ca 4 r.2.2.2.2.2.2.2.1, aI qrates ca 4 rates_, aI qriskPoints ca 4 r.2.2.2.2.2.2.2.2.1, aS qrisks ca (rq4 qrisks0 qrisks1 qrisks2 qrisks3), oc_Steps qrisks0 qlevels2 qamounts2 size_2, aI qlevels2 ca 5 levels_2, aI qamounts2 ca 5 amounts_2, oc_Steps qrisks1 qlevels3 qamounts3 size_3, aI qlevels3 ca 5 levels_3, aI qamounts3 ca 5 amounts_3, oc_Steps qrisks2 qlevels4 qamounts4 size_4, aI qlevels4 ca 5 levels_4, aI qamounts4 ca 5 amounts_4, oc_Steps qrisks3 qlevels5 qamounts5 size_5, aI qlevels5 ca 5 levels_5, aI qamounts5 ca 5 amounts_5, oc_Rules qrules qkinds qlevels6 qholds qalarmCounts qalarmHours size_6, aI qkinds ca 4 kinds_, aI qlevels6 ca 4 levels_6, aI qalarmCounts ca 4 r.2.2.2.2.2.2.2.2.2.2.1, aG qalarmHours ca (rq4 qalarmHours0 qalarmHours1 qalarmHours2 qalarmHours3), aI qalarmHours0 ca 300 r.2.2.2.2.2.2.2.2.2.1, aI qholds ca 4 holds_, aI qalarmHours1 ca 300 r.2.2.2.2.2.2.2.2.2.2.2.1, aI qalarmHours2 ca 300 r.2.2.2.2.2.2.2.2.2.2.2.2.1, aI qalarmHours3 ca 300 r.2.2.2.2.2.2.2.2.2.2.2.2.2.1]) (by decide +kernel) (Nat.le_of_ble_eq_true rfl) ?_
  intro p e s m below meth c Q ar ls hx hb hml hts hown hP hK A hD hA hl hret
  have hS : va_S A s.heap s.heap [] := va_S.rf
  have hown : s.vm.findClass nR_Room = some m.cls := hown
  have hl : lv_has ls 4 [(0, .ref qa0), (1, .int x1), (2, .int x2), (3, .int x3)] := hl
  unfold fn_Room_hour at hR
  refine lv_aload_n hx hb nd_Room_hour_0 rfl (lv_at hl 0 rfl) ?_
  refine va_get (D := D) (ci := 8) (v := .int hoursGone_) (C := nR_Room) (T := nT_Room) (N := 7) hx hb hts ni_Room hown hK hP 0 rfl rfl 6 (by decide) (hts (.fieldLink nR_Room 48 "RoomClimate" "hoursGone" "I") tt_228) (fun _ h9 => h9) rfl nd_Room_hour_1 ?_
  refine lv_sipush (v := 300) hx hb nd_Room_hour_4 (by decide) ?_
  obtain ⟨e1, hR⟩ := q_xr hR
  refine k_rSV (As := [.int hoursGone_, .int (300 : Int32)]) (rest := []) hx hb hml hown hts (cn_Room_requireSpace l D ca hoursGone_ (300 : Int32) e1) kc_Room_requireSpace ks_Room_requireSpace tt_357 ⟨by decide, by decide⟩ rfl rfl hP hK [] rfl rfl hl.1 (Nat.le_of_ble_eq_true rfl) rfl nd_Room_hour_7 ⟨Nat.zero_le _, Nat.zero_le _⟩ ?_
  refine lv_iload_n hx hb nd_Room_hour_10 rfl (lv_at hl 1 rfl) ?_
  refine lv_ldc hx hb hown (hts _ tt_435) nd_Room_hour_11 ?_
  refine lv_ldc hx hb hown (hts _ tt_395) nd_Room_hour_13 ?_
  obtain ⟨e2, hR⟩ := q_xr hR
  refine k_rSV (As := [.int x1, .int (-60000 : Int32), .int (60000 : Int32)]) (rest := []) hx hb hml hown hts (cn_Room_requireWithin l D ca x1 (-60000 : Int32) (60000 : Int32) e2) kc_Room_requireWithin ks_Room_requireWithin tt_278 ⟨by decide, by decide⟩ rfl rfl hP hK [] rfl rfl hl.1 (Nat.le_of_ble_eq_true rfl) rfl nd_Room_hour_15 ⟨Nat.zero_le _, Nat.zero_le _⟩ ?_
  refine lv_iload_n hx hb nd_Room_hour_18 rfl (lv_at hl 2 rfl) ?_
  refine lv_iconst (v := 0) hx hb nd_Room_hour_19 (by decide) ?_
  refine lv_ldc hx hb hown (hts _ tt_395) nd_Room_hour_20 ?_
  obtain ⟨e3, hR⟩ := q_xr hR
  refine k_rSV (As := [.int x2, .int (0 : Int32), .int (60000 : Int32)]) (rest := []) hx hb hml hown hts (cn_Room_requireWithin l D ca x2 (0 : Int32) (60000 : Int32) e3) kc_Room_requireWithin ks_Room_requireWithin tt_278 ⟨by decide, by decide⟩ rfl rfl hP hK [] rfl rfl hl.1 (Nat.le_of_ble_eq_true rfl) rfl nd_Room_hour_22 ⟨Nat.zero_le _, Nat.zero_le _⟩ ?_
  refine lv_iload_n hx hb nd_Room_hour_25 rfl (lv_at hl 3 rfl) ?_
  refine lv_iconst (v := 0) hx hb nd_Room_hour_26 (by decide) ?_
  refine lv_bipush (v := 99) hx hb nd_Room_hour_27 (by decide) ?_
  obtain ⟨e4, hR⟩ := q_xr hR
  refine k_rSV (As := [.int x3, .int (0 : Int32), .int (99 : Int32)]) (rest := []) hx hb hml hown hts (cn_Room_requireWithin l D ca x3 (0 : Int32) (99 : Int32) e4) kc_Room_requireWithin ks_Room_requireWithin tt_278 ⟨by decide, by decide⟩ rfl rfl hP hK [] rfl rfl hl.1 (Nat.le_of_ble_eq_true rfl) rfl nd_Room_hour_29 ⟨Nat.zero_le _, Nat.zero_le _⟩ ?_
  replace hR := q_lr hR
  refine lv_aload_n hx hb nd_Room_hour_32 rfl (lv_at hl 0 rfl) ?_
  refine va_get (D := D) (ci := 8) (v := .ref qhouse) (C := nR_Room) (T := nT_Room) (N := 7) hx hb hts ni_Room hown hK hP 0 rfl rfl 0 (by decide) (hts (.fieldLink nR_Room 19 "RoomClimate" "house" "LRoomClimate$House;") tt_222) (fun _ h9 => h9) rfl nd_Room_hour_33 ?_
  refine lv_iload_n hx hb nd_Room_hour_36 rfl (lv_at hl 1 rfl) ?_
  refine lv_iload_n hx hb nd_Room_hour_37 rfl (lv_at hl 2 rfl) ?_
  refine lv_iload_n hx hb nd_Room_hour_38 rfl (lv_at hl 3 rfl) ?_
  obtain ⟨u5_0, u5_1, u5_2, u5_3, u5_4, u5_5, u5_6, e5, hR⟩ := q_b7 hR
  refine k_wVV (wr := [oc_Room qa0 qhouse qtrial qrisks qriskPoints qrules qgauge hoursGone_, aI qriskPoints ca 4 riskPoints_, aS qrisks ca (rq4 qrisks0 qrisks1 qrisks2 qrisks3), oc_Steps qrisks0 qlevels2 qamounts2 size_2, aI qlevels2 ca 5 levels_2, aI qamounts2 ca 5 amounts_2, oc_Steps qrisks1 qlevels3 qamounts3 size_3, aI qlevels3 ca 5 levels_3, aI qamounts3 ca 5 amounts_3, oc_Steps qrisks2 qlevels4 qamounts4 size_4, aI qlevels4 ca 5 levels_4, aI qamounts4 ca 5 amounts_4, oc_Steps qrisks3 qlevels5 qamounts5 size_5, aI qlevels5 ca 5 levels_5, aI qamounts5 ca 5 amounts_5, oc_Rules qrules qkinds qlevels6 qholds qalarmCounts qalarmHours size_6, aI qkinds ca 4 kinds_, aI qlevels6 ca 4 levels_6, aI qalarmCounts ca 4 alarmCounts_, aG qalarmHours ca (rq4 qalarmHours0 qalarmHours1 qalarmHours2 qalarmHours3), aI qalarmHours0 ca 300 alarmHours0_, aI qholds ca 4 holds_, aI qalarmHours1 ca 300 alarmHours1_, aI qalarmHours2 ca 300 alarmHours2_, aI qalarmHours3 ca 300 alarmHours3_]) (w2 := [oc_Room qa0 qhouse qtrial qrisks qriskPoints qrules qgauge hoursGone_, oc_House qhouse qinside qwalls qgoods qmachines, oc_Interior qinside qheatBooks qwaterBooks volume_ share_ u5_0 u5_2, aJ qheatBooks ca 5 u5_1, aJ qwaterBooks ca 5 u5_3, oc_Walls qwalls qconductances qcapacities qheats layers_, aJ qheats ca 5 u5_4, aI qconductances ca 5 conductances_, aI qcapacities ca 5 capacities_, oc_Goods qgoods qrows kilograms_ u5_5, oc_Steps qrows qlevels qamounts size_, aI qamounts ca 6 amounts_, aI qlevels ca 6 levels_, oc_Machines qmachines qlows qhighs qrates qtold qrunning, aZ qtold ca 4 told_, aI qlows ca 4 lows_, aI qhighs ca 4 highs_, aZ qrunning ca 4 u5_6, aI qrates ca 4 rates_, aI qriskPoints ca 4 riskPoints_, aS qrisks ca (rq4 qrisks0 qrisks1 qrisks2 qrisks3), oc_Steps qrisks0 qlevels2 qamounts2 size_2, aI qlevels2 ca 5 levels_2, aI qamounts2 ca 5 amounts_2, oc_Steps qrisks1 qlevels3 qamounts3 size_3, aI qlevels3 ca 5 levels_3, aI qamounts3 ca 5 amounts_3, oc_Steps qrisks2 qlevels4 qamounts4 size_4, aI qlevels4 ca 5 levels_4, aI qamounts4 ca 5 amounts_4, oc_Steps qrisks3 qlevels5 qamounts5 size_5, aI qlevels5 ca 5 levels_5, aI qamounts5 ca 5 amounts_5, oc_Rules qrules qkinds qlevels6 qholds qalarmCounts qalarmHours size_6, aI qkinds ca 4 kinds_, aI qlevels6 ca 4 levels_6, aI qalarmCounts ca 4 alarmCounts_, aG qalarmHours ca (rq4 qalarmHours0 qalarmHours1 qalarmHours2 qalarmHours3), aI qalarmHours0 ca 300 alarmHours0_, aI qholds ca 4 holds_, aI qalarmHours1 ca 300 alarmHours1_, aI qalarmHours2 ca 300 alarmHours2_, aI qalarmHours3 ca 300 alarmHours3_]) (As := [.int x1, .int x2, .int x3]) (rest := []) hx hb hml hown hts (cn_House_pass l D ca qhouse qinside qwalls qgoods qmachines qheatBooks qwaterBooks qconductances qcapacities qheats qrows qlevels qamounts qlows qhighs qrates qtold qrunning volume_ share_ heat_ water_ heatBooks_ waterBooks_ layers_ heats_ conductances_ capacities_ kilograms_ load_ size_ amounts_ levels_ told_ lows_ highs_ running_ rates_ 6 x1 x2 x3 u5_0 u5_1 u5_2 u5_3 u5_4 u5_5 u5_6 e5 _) kc_House_pass kv_House_pass tt_448 ⟨by decide, by decide⟩ rfl rfl hP hK hD hS hA [1, 2, 3, 4, 5, 6, 7, 8, 9, 10, 11, 12, 13, 14, 15, 16, 17, 18] [0, 19, 20, 21, 22, 23, 24, 25, 26, 27, 28, 29, 30, 31, 32, 33, 34, 35, 36, 37, 38, 39, 40, 41, 42] [0, 25, 26, 27, 28, 29, 30, 31, 32, 33, 34, 35, 36, 37, 38, 39, 40, 41, 42, 1, 2, 3, 4, 5, 6, 7, 8, 9, 10, 11, 12, 13, 14, 15, 16, 17, 18, 19, 20, 21, 22, 23, 24] rfl (by decide) rfl (by decide) (by decide) rfl (by decide) 0 rfl rfl rfl rfl hl.1 (Nat.le_of_ble_eq_true rfl) rfl nd_Room_hour_39 ⟨Nat.zero_le _, Nat.zero_le _⟩ (fun H locs hP hD hS => ?_)
  refine lv_aload_n hx hb nd_Room_hour_42 rfl (lv_at hl 0 rfl) ?_
  obtain ⟨u6_0, e6, hR⟩ := q_b1 hR
  refine k_wVV (wr := [aJ qheatBooks ca 5 u5_1, aJ qwaterBooks ca 5 u5_3, oc_Walls qwalls qconductances qcapacities qheats layers_, aJ qheats ca 5 u5_4, aI qconductances ca 5 conductances_, aI qcapacities ca 5 capacities_, oc_Goods qgoods qrows kilograms_ u5_5, oc_Steps qrows qlevels qamounts size_, aI qamounts ca 6 amounts_, aI qlevels ca 6 levels_, oc_Machines qmachines qlows qhighs qrates qtold qrunning, aZ qtold ca 4 told_, aI qlows ca 4 lows_, aI qhighs ca 4 highs_, aZ qrunning ca 4 u5_6, aI qrates ca 4 rates_, oc_Rules qrules qkinds qlevels6 qholds qalarmCounts qalarmHours size_6, aI qkinds ca 4 kinds_, aI qlevels6 ca 4 levels_6, aI qalarmCounts ca 4 alarmCounts_, aG qalarmHours ca (rq4 qalarmHours0 qalarmHours1 qalarmHours2 qalarmHours3), aI qalarmHours0 ca 300 alarmHours0_, aI qholds ca 4 holds_, aI qalarmHours1 ca 300 alarmHours1_, aI qalarmHours2 ca 300 alarmHours2_, aI qalarmHours3 ca 300 alarmHours3_]) (w2 := [oc_Room qa0 qhouse qtrial qrisks qriskPoints qrules qgauge hoursGone_, oc_House qhouse qinside qwalls qgoods qmachines, oc_Interior qinside qheatBooks qwaterBooks volume_ share_ u5_0 u5_2, aJ qheatBooks ca 5 u5_1, aJ qwaterBooks ca 5 u5_3, oc_Walls qwalls qconductances qcapacities qheats layers_, aJ qheats ca 5 u5_4, aI qconductances ca 5 conductances_, aI qcapacities ca 5 capacities_, oc_Goods qgoods qrows kilograms_ u5_5, oc_Steps qrows qlevels qamounts size_, aI qamounts ca 6 amounts_, aI qlevels ca 6 levels_, oc_Machines qmachines qlows qhighs qrates qtold qrunning, aZ qtold ca 4 told_, aI qlows ca 4 lows_, aI qhighs ca 4 highs_, aZ qrunning ca 4 u5_6, aI qrates ca 4 rates_, aI qriskPoints ca 4 u6_0, aS qrisks ca (rq4 qrisks0 qrisks1 qrisks2 qrisks3), oc_Steps qrisks0 qlevels2 qamounts2 size_2, aI qlevels2 ca 5 levels_2, aI qamounts2 ca 5 amounts_2, oc_Steps qrisks1 qlevels3 qamounts3 size_3, aI qlevels3 ca 5 levels_3, aI qamounts3 ca 5 amounts_3, oc_Steps qrisks2 qlevels4 qamounts4 size_4, aI qlevels4 ca 5 levels_4, aI qamounts4 ca 5 amounts_4, oc_Steps qrisks3 qlevels5 qamounts5 size_5, aI qlevels5 ca 5 levels_5, aI qamounts5 ca 5 amounts_5, oc_Rules qrules qkinds qlevels6 qholds qalarmCounts qalarmHours size_6, aI qkinds ca 4 kinds_, aI qlevels6 ca 4 levels_6, aI qalarmCounts ca 4 alarmCounts_, aG qalarmHours ca (rq4 qalarmHours0 qalarmHours1 qalarmHours2 qalarmHours3), aI qalarmHours0 ca 300 alarmHours0_, aI qholds ca 4 holds_, aI qalarmHours1 ca 300 alarmHours1_, aI qalarmHours2 ca 300 alarmHours2_, aI qalarmHours3 ca 300 alarmHours3_]) (As := []) (rest := []) hx hb hml hown hts (cn_Room_addRiskPoints l D ca qa0 qhouse qtrial qrisks qriskPoints qrules qgauge qinside qwalls qgoods qmachines qheatBooks qwaterBooks qrisks0 qrisks1 qrisks2 qrisks3 qlevels2 qamounts2 qlevels3 qamounts3 qlevels4 qamounts4 qlevels5 qamounts5 hoursGone_ volume_ share_ u5_0 u5_2 riskPoints_ size_2 levels_2 amounts_2 size_3 levels_3 amounts_3 size_4 levels_4 amounts_4 size_5 levels_5 amounts_5 u6_0 e6 _) kc_Room_addRiskPoints kv_Room_addRiskPoints tt_517 ⟨by decide, by decide⟩ rfl rfl hP hK hD hS hA [0, 1, 2, 19, 20, 21, 22, 23, 24, 25, 26, 27, 28, 29, 30, 31, 32] [3, 4, 5, 6, 7, 8, 9, 10, 11, 12, 13, 14, 15, 16, 17, 18, 33, 34, 35, 36, 37, 38, 39, 40, 41, 42] [26, 27, 28, 0, 1, 2, 3, 4, 5, 6, 7, 8, 9, 10, 11, 12, 13, 14, 15, 29, 30, 31, 32, 33, 34, 35, 36, 37, 38, 39, 40, 41, 42, 16, 17, 18, 19, 20, 21, 22, 23, 24, 25] rfl (by decide) rfl (by decide) (by decide) rfl (by decide) 0 rfl rfl rfl rfl hl.1 (Nat.le_of_ble_eq_true rfl) rfl nd_Room_hour_43 ⟨Nat.zero_le _, Nat.zero_le _⟩ (fun H locs hP hD hS => ?_)
  refine lv_aload_n hx hb nd_Room_hour_46 rfl (lv_at hl 0 rfl) ?_
  refine va_get (D := D) (ci := 8) (v := .ref qrules) (C := nR_Room) (T := nT_Room) (N := 7) hx hb hts ni_Room hown hK hP 0 rfl rfl 4 (by decide) (hts (.fieldLink nR_Room 37 "RoomClimate" "rules" "LRoomClimate$Rules;") tt_226) (fun _ h9 => h9) rfl nd_Room_hour_47 ?_
  refine lv_aload_n hx hb nd_Room_hour_50 rfl (lv_at hl 0 rfl) ?_
  refine va_get (D := D) (ci := 8) (v := .int hoursGone_) (C := nR_Room) (T := nT_Room) (N := 7) hx hb hts ni_Room hown hK hP 0 rfl rfl 6 (by decide) (hts (.fieldLink nR_Room 48 "RoomClimate" "hoursGone" "I") tt_228) (fun _ h9 => h9) rfl nd_Room_hour_51 ?_
  refine lv_aload_n hx hb nd_Room_hour_54 rfl (lv_at hl 0 rfl) ?_
  refine va_get (D := D) (ci := 8) (v := .ref qhouse) (C := nR_Room) (T := nT_Room) (N := 7) hx hb hts ni_Room hown hK hP 0 rfl rfl 0 (by decide) (hts (.fieldLink nR_Room 19 "RoomClimate" "house" "LRoomClimate$House;") tt_222) (fun _ h9 => h9) rfl nd_Room_hour_55 ?_
  refine va_getN (D := D) (ci := 2) (v := .ref qinside) (C := nR_House) (T := nT_House) (N := 4) hx hb hts ni_House hown hK hP 1 rfl rfl 0 (by decide) (hts (.fieldLinkNest nR_Room 56 "RoomClimate$House" "inside" "LRoomClimate$Interior;" "RoomClimate") tt_150) (fun _ h9 => h9) rfl nd_Room_hour_58 ?_
  obtain ⟨u7_0, u7_1, u7_2, u7_3, u7_4, e7, hR⟩ := q_b5 hR
  refine k_wVV (wr := [oc_Room qa0 qhouse qtrial qrisks qriskPoints qrules qgauge hoursGone_, oc_House qhouse qinside qwalls qgoods qmachines, aJ qheatBooks ca 5 u5_1, aJ qwaterBooks ca 5 u5_3, oc_Walls qwalls qconductances qcapacities qheats layers_, aJ qheats ca 5 u5_4, aI qconductances ca 5 conductances_, aI qcapacities ca 5 capacities_, oc_Goods qgoods qrows kilograms_ u5_5, oc_Steps qrows qlevels qamounts size_, aI qamounts ca 6 amounts_, aI qlevels ca 6 levels_, oc_Machines qmachines qlows qhighs qrates qtold qrunning, aZ qtold ca 4 told_, aI qlows ca 4 lows_, aI qhighs ca 4 highs_, aZ qrunning ca 4 u5_6, aI qrates ca 4 rates_, aI qriskPoints ca 4 u6_0, aS qrisks ca (rq4 qrisks0 qrisks1 qrisks2 qrisks3), oc_Steps qrisks0 qlevels2 qamounts2 size_2, aI qlevels2 ca 5 levels_2, aI qamounts2 ca 5 amounts_2, oc_Steps qrisks1 qlevels3 qamounts3 size_3, aI qlevels3 ca 5 levels_3, aI qamounts3 ca 5 amounts_3, oc_Steps qrisks2 qlevels4 qamounts4 size_4, aI qlevels4 ca 5 levels_4, aI qamounts4 ca 5 amounts_4, oc_Steps qrisks3 qlevels5 qamounts5 size_5, aI qlevels5 ca 5 levels_5, aI qamounts5 ca 5 amounts_5]) (w2 := [oc_Room qa0 qhouse qtrial qrisks qriskPoints qrules qgauge hoursGone_, oc_House qhouse qinside qwalls qgoods qmachines, oc_Interior qinside qheatBooks qwaterBooks volume_ share_ u5_0 u5_2, aJ qheatBooks ca 5 u5_1, aJ qwaterBooks ca 5 u5_3, oc_Walls qwalls qconductances qcapacities qheats layers_, aJ qheats ca 5 u5_4, aI qconductances ca 5 conductances_, aI qcapacities ca 5 capacities_, oc_Goods qgoods qrows kilograms_ u5_5, oc_Steps qrows qlevels qamounts size_, aI qamounts ca 6 amounts_, aI qlevels ca 6 levels_, oc_Machines qmachines qlows qhighs qrates qtold qrunning, aZ qtold ca 4 told_, aI qlows ca 4 lows_, aI qhighs ca 4 highs_, aZ qrunning ca 4 u5_6, aI qrates ca 4 rates_, aI qriskPoints ca 4 u6_0, aS qrisks ca (rq4 qrisks0 qrisks1 qrisks2 qrisks3), oc_Steps qrisks0 qlevels2 qamounts2 size_2, aI qlevels2 ca 5 levels_2, aI qamounts2 ca 5 amounts_2, oc_Steps qrisks1 qlevels3 qamounts3 size_3, aI qlevels3 ca 5 levels_3, aI qamounts3 ca 5 amounts_3, oc_Steps qrisks2 qlevels4 qamounts4 size_4, aI qlevels4 ca 5 levels_4, aI qamounts4 ca 5 amounts_4, oc_Steps qrisks3 qlevels5 qamounts5 size_5, aI qlevels5 ca 5 levels_5, aI qamounts5 ca 5 amounts_5, oc_Rules qrules qkinds qlevels6 qholds qalarmCounts qalarmHours size_6, aI qkinds ca 4 kinds_, aI qlevels6 ca 4 levels_6, aI qalarmCounts ca 4 u7_1, aG qalarmHours ca (rq4 qalarmHours0 qalarmHours1 qalarmHours2 qalarmHours3), aI qalarmHours0 ca 300 u7_0, aI qholds ca 4 holds_, aI qalarmHours1 ca 300 u7_2, aI qalarmHours2 ca 300 u7_3, aI qalarmHours3 ca 300 u7_4]) (As := [.int hoursGone_, .ref qinside]) (rest := []) hx hb hml hown hts (cn_Rules_tell l D ca qrules qkinds qlevels6 qholds qalarmCounts qalarmHours qinside qheatBooks qwaterBooks qalarmHours0 qalarmHours1 qalarmHours2 qalarmHours3 size_6 kinds_ volume_ share_ u5_0 u5_2 levels_6 alarmCounts_ alarmHours0_ holds_ alarmHours1_ alarmHours2_ alarmHours3_ hoursGone_ u7_0 u7_1 u7_2 u7_3 u7_4 e7 _) kc_Rules_tell kv_Rules_tell tt_525 ⟨by decide, by decide⟩ rfl rfl hP hK hD hS hA [33, 34, 2, 35, 36, 37, 38, 39, 40, 41, 42] [0, 1, 3, 4, 5, 6, 7, 8, 9, 10, 11, 12, 13, 14, 15, 16, 17, 18, 19, 20, 21, 22, 23, 24, 25, 26, 27, 28, 29, 30, 31, 32] [0, 1, 34, 2, 3, 4, 5, 6, 7, 8, 9, 10, 11, 12, 13, 14, 15, 16, 17, 18, 19, 20, 21, 22, 23, 24, 25, 26, 27, 28, 29, 30, 31, 32, 33, 35, 36, 37, 38, 39, 40, 41, 42] rfl (by decide) rfl (by decide) (by decide) rfl (by decide) 0 rfl rfl rfl rfl hl.1 (Nat.le_of_ble_eq_true rfl) rfl nd_Room_hour_61 ⟨Nat.zero_le _, Nat.zero_le _⟩ (fun H locs hP hD hS => ?_)
  refine lv_aload_n hx hb nd_Room_hour_64 rfl (lv_at hl 0 rfl) ?_
  refine lv_dup hx hb nd_Room_hour_65 rfl ?_
  refine va_get (D := D) (ci := 8) (v := .int hoursGone_) (C := nR_Room) (T := nT_Room) (N := 7) hx hb hts ni_Room hown hK hP 0 rfl rfl 6 (by decide) (hts (.fieldLink nR_Room 48 "RoomClimate" "hoursGone" "I") tt_228) (fun _ h9 => h9) rfl nd_Room_hour_66 ?_
  refine lv_iconst (v := 1) hx hb nd_Room_hour_69 (by decide) ?_
  refine lv_iadd hx hb nd_Room_hour_70 ?_
  refine va_put (D := D) (ci := 8) (v := .int (hoursGone_ + (1 : Int32))) (ty := .int) (C := nR_Room) (T := nT_Room) (N := 7) hx hb hts ni_Room nt_Room nt_Room_ok nn_Room hown hK hP hD hS 0 rfl rfl 6 (by decide) (hts (.fieldLink nR_Room 48 "RoomClimate" "hoursGone" "I") tt_228) (fun _ h9 => h9) rfl (by decide +kernel) rfl rfl (Nat.le_of_ble_eq_true rfl) nd_Room_hour_71 (fun H locs hP hD hS => ?_)
  have hP : va_P D vwCl [oc_Room qa0 qhouse qtrial qrisks qriskPoints qrules qgauge (hoursGone_ + (1 : Int32)), oc_House qhouse qinside qwalls qgoods qmachines, oc_Interior qinside qheatBooks qwaterBooks volume_ share_ u5_0 u5_2, aJ qheatBooks ca 5 u5_1, aJ qwaterBooks ca 5 u5_3, oc_Walls qwalls qconductances qcapacities qheats layers_, aJ qheats ca 5 u5_4, aI qconductances ca 5 conductances_, aI qcapacities ca 5 capacities_, oc_Goods qgoods qrows kilograms_ u5_5, oc_Steps qrows qlevels qamounts size_, aI qamounts ca 6 amounts_, aI qlevels ca 6 levels_, oc_Machines qmachines qlows qhighs qrates qtold qrunning, aZ qtold ca 4 told_, aI qlows ca 4 lows_, aI qhighs ca 4 highs_, aZ qrunning ca 4 u5_6, aI qrates ca 4 rates_, aI qriskPoints ca 4 u6_0, aS qrisks ca (rq4 qrisks0 qrisks1 qrisks2 qrisks3), oc_Steps qrisks0 qlevels2 qamounts2 size_2, aI qlevels2 ca 5 levels_2, aI qamounts2 ca 5 amounts_2, oc_Steps qrisks1 qlevels3 qamounts3 size_3, aI qlevels3 ca 5 levels_3, aI qamounts3 ca 5 amounts_3, oc_Steps qrisks2 qlevels4 qamounts4 size_4, aI qlevels4 ca 5 levels_4, aI qamounts4 ca 5 amounts_4, oc_Steps qrisks3 qlevels5 qamounts5 size_5, aI qlevels5 ca 5 levels_5, aI qamounts5 ca 5 amounts_5, oc_Rules qrules qkinds qlevels6 qholds qalarmCounts qalarmHours size_6, aI qkinds ca 4 kinds_, aI qlevels6 ca 4 levels_6, aI qalarmCounts ca 4 u7_1, aG qalarmHours ca (rq4 qalarmHours0 qalarmHours1 qalarmHours2 qalarmHours3), aI qalarmHours0 ca 300 u7_0, aI qholds ca 4 holds_, aI qalarmHours1 ca 300 u7_2, aI qalarmHours2 ca 300 u7_3, aI qalarmHours3 ca 300 u7_4] H := hP
  have hD : va_D A [oc_Room qa0 qhouse qtrial qrisks qriskPoints qrules qgauge (hoursGone_ + (1 : Int32)), oc_House qhouse qinside qwalls qgoods qmachines, oc_Interior qinside qheatBooks qwaterBooks volume_ share_ u5_0 u5_2, aJ qheatBooks ca 5 u5_1, aJ qwaterBooks ca 5 u5_3, oc_Walls qwalls qconductances qcapacities qheats layers_, aJ qheats ca 5 u5_4, aI qconductances ca 5 conductances_, aI qcapacities ca 5 capacities_, oc_Goods qgoods qrows kilograms_ u5_5, oc_Steps qrows qlevels qamounts size_, aI qamounts ca 6 amounts_, aI qlevels ca 6 levels_, oc_Machines qmachines qlows qhighs qrates qtold qrunning, aZ qtold ca 4 told_, aI qlows ca 4 lows_, aI qhighs ca 4 highs_, aZ qrunning ca 4 u5_6, aI qrates ca 4 rates_, aI qriskPoints ca 4 u6_0, aS qrisks ca (rq4 qrisks0 qrisks1 qrisks2 qrisks3), oc_Steps qrisks0 qlevels2 qamounts2 size_2, aI qlevels2 ca 5 levels_2, aI qamounts2 ca 5 amounts_2, oc_Steps qrisks1 qlevels3 qamounts3 size_3, aI qlevels3 ca 5 levels_3, aI qamounts3 ca 5 amounts_3, oc_Steps qrisks2 qlevels4 qamounts4 size_4, aI qlevels4 ca 5 levels_4, aI qamounts4 ca 5 amounts_4, oc_Steps qrisks3 qlevels5 qamounts5 size_5, aI qlevels5 ca 5 levels_5, aI qamounts5 ca 5 amounts_5, oc_Rules qrules qkinds qlevels6 qholds qalarmCounts qalarmHours size_6, aI qkinds ca 4 kinds_, aI qlevels6 ca 4 levels_6, aI qalarmCounts ca 4 u7_1, aG qalarmHours ca (rq4 qalarmHours0 qalarmHours1 qalarmHours2 qalarmHours3), aI qalarmHours0 ca 300 u7_0, aI qholds ca 4 holds_, aI qalarmHours1 ca 300 u7_2, aI qalarmHours2 ca 300 u7_3, aI qalarmHours3 ca 300 u7_4] := hD
  refine lv_aload_n hx hb nd_Room_hour_74 rfl (lv_at hl 0 rfl) ?_
  refine va_get (D := D) (ci := 8) (v := .int (hoursGone_ + (1 : Int32))) (C := nR_Room) (T := nT_Room) (N := 7) hx hb hts ni_Room hown hK hP 0 rfl rfl 6 (by decide) (hts (.fieldLink nR_Room 48 "RoomClimate" "hoursGone" "I") tt_228) (fun _ h9 => h9) rfl nd_Room_hour_75 ?_
  refine lv_iconst (v := 1) hx hb nd_Room_hour_78 (by decide) ?_
  refine lv_isub hx hb nd_Room_hour_79 ?_
  exact hret ((hoursGone_ + (1 : Int32)) - (1 : Int32), u5_0, u5_1, u5_2, u5_3, u5_4, u5_5, u5_6, u6_0, u7_0, u7_1, u7_2, u7_3, u7_4, hoursGone_ + (1 : Int32)) _ _ _ _ nd_Room_hour_80 hR hP hD hS
def rm_Room_degrees : Room := { frames := 3, cells := 0, slots := 0, locals := 68 }
theorem kc_Room_degrees : k_cal nY_Room_degrees nC_Room_degrees 1 (some .int) 0 := ⟨tt_247, tt_1, by decide +kernel⟩
theorem kv_Room_degrees : k_vir nY_Room_degrees := ⟨tt_245, tt_246⟩
set_option maxHeartbeats 4000000 in
set_option maxRecDepth 100000 in
theorem cn_Room_degrees (l : Launch) (D : va_G) (ca : Nat → ClassId) (qa0 qhouse qtrial qrisks qriskPoints qrules qgauge qinside qwalls qgoods qmachines qheatBooks qwaterBooks : Nat) (hoursGone_ : Int32) (volume_ : Int32) (share_ : Int32) (heat_ : Int64) (water_ : Int64) (R0 : Int32) (hR : fn_Room_degrees volume_ heat_ = some R0) : Met l nY_Room_degrees (Cond.code nY_Room_degrees nC_Room_degrees 1 (some .int) :: TT) rm_Room_degrees (rd_P [.ref qa0] D ca [oc_Room qa0 qhouse qtrial qrisks qriskPoints qrules qgauge hoursGone_, oc_House qhouse qinside qwalls qgoods qmachines, oc_Interior qinside qheatBooks qwaterBooks volume_ share_ heat_ water_]) (vp_Si (fun x => x = R0)) 0 0 (fun _ => False) := by
  refine rd_ofI (by decide +kernel) (Nat.le_of_ble_eq_true rfl) ?_
  intro p e s m below meth c Q ar ls hx hb hml hts hown hP hK hl hret
  have hown : s.vm.findClass nR_Room = some m.cls := hown
  have hl : lv_has ls 1 [(0, .ref qa0)] := hl
  unfold fn_Room_degrees at hR
  refine lv_aload_n hx hb nd_Room_degrees_0 rfl (lv_at hl 0 rfl) ?_
  refine va_get (D := D) (ci := 8) (v := .ref qhouse) (C := nR_Room) (T := nT_Room) (N := 7) hx hb hts ni_Room hown hK hP 0 rfl rfl 0 (by decide) (hts (.fieldLink nR_Room 19 "RoomClimate" "house" "LRoomClimate$House;") tt_222) (fun _ h9 => h9) rfl nd_Room_degrees_1 ?_
  refine va_getN (D := D) (ci := 2) (v := .ref qinside) (C := nR_House) (T := nT_House) (N := 4) hx hb hts ni_House hown hK hP 1 rfl rfl 0 (by decide) (hts (.fieldLinkNest nR_Room 56 "RoomClimate$House" "inside" "LRoomClimate$Interior;" "RoomClimate") tt_150) (fun _ h9 => h9) rfl nd_Room_degrees_4 ?_
  obtain ⟨r1, e1, hR⟩ := q_b1 hR
  refine k_rVJ (As := []) (rest := []) (r := r1) hx hb hml hown hts (cn_Interior_warmth l D ca qinside qheatBooks qwaterBooks volume_ share_ heat_ water_ r1 e1) kc_Interior_warmth kv_Interior_warmth tt_248 ⟨by decide, by decide⟩ rfl rfl hP hK [2] rfl 0 rfl rfl rfl rfl hl.1 (Nat.le_of_ble_eq_true rfl) rfl nd_Room_degrees_7 ⟨Nat.zero_le _, Nat.zero_le _⟩ ?_
  refine lv_l2i hx hb nd_Room_degrees_10 rfl ?_
  exact hret _ _ _ nd_Room_degrees_11 (Option.some.inj hR)
def rm_Room_damp : Room := { frames := 3, cells := 0, slots := 0, locals := 68 }
theorem kc_Room_damp : k_cal nY_Room_damp nC_Room_damp 1 (some .int) 0 := ⟨tt_261, tt_1, by decide +kernel⟩
theorem kv_Room_damp : k_vir nY_Room_damp := ⟨tt_259, tt_260⟩
set_option maxHeartbeats 4000000 in
set_option maxRecDepth 100000 in
theorem cn_Room_damp (l : Launch) (D : va_G) (ca : Nat → ClassId) (qa0 qhouse qtrial qrisks qriskPoints qrules qgauge qinside qwalls qgoods qmachines qheatBooks qwaterBooks : Nat) (hoursGone_ : Int32) (volume_ : Int32) (share_ : Int32) (heat_ : Int64) (water_ : Int64) (R0 : Int32) (hR : fn_Room_damp volume_ water_ = some R0) : Met l nY_Room_damp (Cond.code nY_Room_damp nC_Room_damp 1 (some .int) :: TT) rm_Room_damp (rd_P [.ref qa0] D ca [oc_Room qa0 qhouse qtrial qrisks qriskPoints qrules qgauge hoursGone_, oc_House qhouse qinside qwalls qgoods qmachines, oc_Interior qinside qheatBooks qwaterBooks volume_ share_ heat_ water_]) (vp_Si (fun x => x = R0)) 0 0 (fun _ => False) := by
  refine rd_ofI (by decide +kernel) (Nat.le_of_ble_eq_true rfl) ?_
  intro p e s m below meth c Q ar ls hx hb hml hts hown hP hK hl hret
  have hown : s.vm.findClass nR_Room = some m.cls := hown
  have hl : lv_has ls 1 [(0, .ref qa0)] := hl
  unfold fn_Room_damp at hR
  refine lv_aload_n hx hb nd_Room_damp_0 rfl (lv_at hl 0 rfl) ?_
  refine va_get (D := D) (ci := 8) (v := .ref qhouse) (C := nR_Room) (T := nT_Room) (N := 7) hx hb hts ni_Room hown hK hP 0 rfl rfl 0 (by decide) (hts (.fieldLink nR_Room 19 "RoomClimate" "house" "LRoomClimate$House;") tt_222) (fun _ h9 => h9) rfl nd_Room_damp_1 ?_
  refine va_getN (D := D) (ci := 2) (v := .ref qinside) (C := nR_House) (T := nT_House) (N := 4) hx hb hts ni_House hown hK hP 1 rfl rfl 0 (by decide) (hts (.fieldLinkNest nR_Room 56 "RoomClimate$House" "inside" "LRoomClimate$Interior;" "RoomClimate") tt_150) (fun _ h9 => h9) rfl nd_Room_damp_4 ?_
  obtain ⟨r1, e1, hR⟩ := q_b1 hR
  refine k_rVJ (As := []) (rest := []) (r := r1) hx hb hml hown hts (cn_Interior_moisture l D ca qinside qheatBooks qwaterBooks volume_ share_ heat_ water_ r1 e1) kc_Interior_moisture kv_Interior_moisture tt_262 ⟨by decide, by decide⟩ rfl rfl hP hK [2] rfl 0 rfl rfl rfl rfl hl.1 (Nat.le_of_ble_eq_true rfl) rfl nd_Room_damp_7 ⟨Nat.zero_le _, Nat.zero_le _⟩ ?_
  refine lv_l2i hx hb nd_Room_damp_10 rfl ?_
  exact hret _ _ _ nd_Room_damp_11 (Option.some.inj hR)
def rm_Room_layer : Room := { frames := 9, cells := 0, slots := 0, locals := 161 }
theorem kc_Room_layer : k_cal nY_Room_layer nC_Room_layer 2 (some .int) 1 := ⟨tt_545, tt_1, by decide +kernel⟩
theorem kv_Room_layer : k_vir nY_Room_layer := ⟨tt_543, tt_544⟩
set_option maxHeartbeats 4000000 in
set_option maxRecDepth 100000 in
theorem cn_Room_layer (l : Launch) (D : va_G) (ca : Nat → ClassId) (qa0 qhouse qtrial qrisks qriskPoints qrules qgauge qinside qwalls qgoods qmachines qconductances qcapacities qheats : Nat) (hoursGone_ : Int32) (layers_ : Int32) (heats_ : Nat → Int64) (capacities_ : Nat → Int32) (x1 : Int32) (R0 : Int32) (hR : fn_Room_layer layers_ heats_ capacities_ x1 = some (.inr R0)) : Met l nY_Room_layer (Cond.code nY_Room_layer nC_Room_layer 2 (some .int) :: TT) rm_Room_layer (rd_P [.ref qa0, .int x1] D ca [oc_Room qa0 qhouse qtrial qrisks qriskPoints qrules qgauge hoursGone_, oc_House qhouse qinside qwalls qgoods qmachines, oc_Walls qwalls qconductances qcapacities qheats layers_, aJ qheats ca 5 heats_, aI qcapacities ca 5 capacities_]) (vp_Si (fun x => x = R0)) 0 0 (fun _ => False) := by
  refine rd_ofI (by decide +kernel) (Nat.le_of_ble_eq_true rfl) ?_
  intro p e s m below meth c Q ar ls hx hb hml hts hown hP hK hl hret
  have hown : s.vm.findClass nR_Room = some m.cls := hown
  have hl : lv_has ls 2 [(0, .ref qa0), (1, .int x1)] := hl
  unfold fn_Room_layer at hR
  refine lv_iload_n hx hb nd_Room_layer_0 rfl (lv_at hl 1 rfl) ?_
  refine lv_aload_n hx hb nd_Room_layer_1 rfl (lv_at hl 0 rfl) ?_
  refine va_get (D := D) (ci := 8) (v := .ref qhouse) (C := nR_Room) (T := nT_Room) (N := 7) hx hb hts ni_Room hown hK hP 0 rfl rfl 0 (by decide) (hts (.fieldLink nR_Room 19 "RoomClimate" "house" "LRoomClimate$House;") tt_222) (fun _ h9 => h9) rfl nd_Room_layer_2 ?_
  refine va_getN (D := D) (ci := 2) (v := .ref qwalls) (C := nR_House) (T := nT_House) (N := 4) hx hb hts ni_House hown hK hP 1 rfl rfl 1 (by decide) (hts (.fieldLinkNest nR_Room 68 "RoomClimate$House" "walls" "LRoomClimate$Walls;" "RoomClimate") tt_152) (fun _ h9 => h9) rfl nd_Room_layer_5 ?_
  refine va_getN (D := D) (ci := 7) (v := .int layers_) (C := nR_Walls) (T := nT_Walls) (N := 4) hx hb hts ni_Walls hown hK hP 2 rfl rfl 3 (by decide) (hts (.fieldLinkNest nR_Room 72 "RoomClimate$Walls" "layers" "I" "RoomClimate") tt_96) (fun _ h9 => h9) rfl nd_Room_layer_8 ?_
  obtain ⟨e1, hR⟩ := q_xr hR
  refine k_rSV (As := [.int x1, .int layers_]) (rest := []) hx hb hml hown hts (cn_Room_requireIndex l D ca x1 layers_ e1) kc_Room_requireIndex ks_Room_requireIndex tt_416 ⟨by decide, by decide⟩ rfl rfl hP hK [] rfl rfl hl.1 (Nat.le_of_ble_eq_true rfl) rfl nd_Room_layer_11 ⟨Nat.zero_le _, Nat.zero_le _⟩ ?_
  replace hR := q_lr hR
  refine lv_aload_n hx hb nd_Room_layer_14 rfl (lv_at hl 0 rfl) ?_
  refine va_get (D := D) (ci := 8) (v := .ref qhouse) (C := nR_Room) (T := nT_Room) (N := 7) hx hb hts ni_Room hown hK hP 0 rfl rfl 0 (by decide) (hts (.fieldLink nR_Room 19 "RoomClimate" "house" "LRoomClimate$House;") tt_222) (fun _ h9 => h9) rfl nd_Room_layer_15 ?_
  refine va_getN (D := D) (ci := 2) (v := .ref qwalls) (C := nR_House) (T := nT_House) (N := 4) hx hb hts ni_House hown hK hP 1 rfl rfl 1 (by decide) (hts (.fieldLinkNest nR_Room 68 "RoomClimate$House" "walls" "LRoomClimate$Walls;" "RoomClimate") tt_152) (fun _ h9 => h9) rfl nd_Room_layer_18 ?_
  refine lv_iload_n hx hb nd_Room_layer_21 rfl (lv_at hl 1 rfl) ?_
  obtain ⟨r2, e2, hR⟩ := q_b1 hR
  refine k_rVJ (As := [.int x1]) (rest := []) (r := r2) hx hb hml hown hts (cn_Walls_warmth l D ca qwalls qconductances qcapacities qheats layers_ heats_ capacities_ x1 r2 e2) kc_Walls_warmth kv_Walls_warmth tt_546 ⟨by decide, by decide⟩ rfl rfl hP hK [2, 3, 4] rfl 0 rfl rfl rfl rfl hl.1 (Nat.le_of_ble_eq_true rfl) rfl nd_Room_layer_22 ⟨Nat.zero_le _, Nat.zero_le _⟩ ?_
  refine lv_l2i hx hb nd_Room_layer_25 rfl ?_
  exact hret _ _ _ nd_Room_layer_26 (Option.some.inj hR)
def rm_Room_held : Room := { frames := 0, cells := 0, slots := 0, locals := 0 }
theorem kc_Room_held : k_cal nY_Room_held nC_Room_held 1 (some .int) 0 := ⟨tt_269, tt_1, by decide +kernel⟩
theorem kv_Room_held : k_vir nY_Room_held := ⟨tt_267, tt_268⟩
set_option maxHeartbeats 4000000 in
set_option maxRecDepth 100000 in
theorem cn_Room_held (l : Launch) (D : va_G) (ca : Nat → ClassId) (qa0 qhouse qtrial qrisks qriskPoints qrules qgauge qinside qwalls qgoods qmachines qrows : Nat) (hoursGone_ : Int32) (kilograms_ : Int32) (load_ : Int64) (R0 : Int32) (hR : fn_Room_held load_ = some R0) : Met l nY_Room_held (Cond.code nY_Room_held nC_Room_held 1 (some .int) :: TT) rm_Room_held (rd_P [.ref qa0] D ca [oc_Room qa0 qhouse qtrial qrisks qriskPoints qrules qgauge hoursGone_, oc_House qhouse qinside qwalls qgoods qmachines, oc_Goods qgoods qrows kilograms_ load_]) (vp_Si (fun x => x = R0)) 0 0 (fun _ => False) := by
  refine rd_ofI (by decide +kernel) (Nat.le_of_ble_eq_true rfl) ?_
  intro p e s m below meth c Q ar ls hx hb hml hts hown hP hK hl hret
  have hown : s.vm.findClass nR_Room = some m.cls := hown
  have hl : lv_has ls 1 [(0, .ref qa0)] := hl
  unfold fn_Room_held at hR
  refine lv_aload_n hx hb nd_Room_held_0 rfl (lv_at hl 0 rfl) ?_
  refine va_get (D := D) (ci := 8) (v := .ref qhouse) (C := nR_Room) (T := nT_Room) (N := 7) hx hb hts ni_Room hown hK hP 0 rfl rfl 0 (by decide) (hts (.fieldLink nR_Room 19 "RoomClimate" "house" "LRoomClimate$House;") tt_222) (fun _ h9 => h9) rfl nd_Room_held_1 ?_
  refine va_getN (D := D) (ci := 2) (v := .ref qgoods) (C := nR_House) (T := nT_House) (N := 4) hx hb hts ni_House hown hK hP 1 rfl rfl 2 (by decide) (hts (.fieldLinkNest nR_Room 85 "RoomClimate$House" "goods" "LRoomClimate$Goods;" "RoomClimate") tt_154) (fun _ h9 => h9) rfl nd_Room_held_4 ?_
  refine va_getN (D := D) (ci := 1) (v := .long load_) (C := nR_Goods) (T := nT_Goods) (N := 3) hx hb hts ni_Goods hown hK hP 2 rfl rfl 2 (by decide) (hts (.fieldLinkNest nR_Room 142 "RoomClimate$Goods" "load" "J" "RoomClimate") tt_141) (fun _ h9 => h9) rfl nd_Room_held_7 ?_
  refine lv_l2i hx hb nd_Room_held_10 rfl ?_
  exact hret _ _ _ nd_Room_held_11 (Option.some.inj hR)
def rm_Room_on : Room := { frames := 9, cells := 0, slots := 0, locals := 161 }
theorem kc_Room_on : k_cal nY_Room_on nC_Room_on 2 (some .boolean) 1 := ⟨tt_553, tt_1, by decide +kernel⟩
theorem kv_Room_on : k_vir nY_Room_on := ⟨tt_551, tt_552⟩
set_option maxHeartbeats 4000000 in
set_option maxRecDepth 100000 in
theorem cn_Room_on (l : Launch) (D : va_G) (ca : Nat → ClassId) (qa0 qhouse qtrial qrisks qriskPoints qrules qgauge qinside qwalls qgoods qmachines qlows qhighs qrates qtold qrunning : Nat) (hoursGone_ : Int32) (running_ : Nat → Int32) (x1 : Int32) (R0 : Int32) (hR : fn_Room_on running_ x1 = some (.inr R0)) : Met l nY_Room_on (Cond.code nY_Room_on nC_Room_on 2 (some .boolean) :: TT) rm_Room_on (rd_P [.ref qa0, .int x1] D ca [oc_Room qa0 qhouse qtrial qrisks qriskPoints qrules qgauge hoursGone_, oc_House qhouse qinside qwalls qgoods qmachines, oc_Machines qmachines qlows qhighs qrates qtold qrunning, aZ qrunning ca 4 running_]) (vp_Si (fun x => x = R0)) 0 0 (fun _ => False) := by
  refine rd_ofZ (by decide +kernel) (Nat.le_of_ble_eq_true rfl) ?_
  intro p e s m below meth c Q ar ls hx hb hml hts hown hP hK hl hret
  have hown : s.vm.findClass nR_Room = some m.cls := hown
  have hl : lv_has ls 2 [(0, .ref qa0), (1, .int x1)] := hl
  unfold fn_Room_on at hR
  refine lv_iload_n hx hb nd_Room_on_0 rfl (lv_at hl 1 rfl) ?_
  refine lv_iconst (v := 4) hx hb nd_Room_on_1 (by decide) ?_
  obtain ⟨e1, hR⟩ := q_xr hR
  refine k_rSV (As := [.int x1, .int (4 : Int32)]) (rest := []) hx hb hml hown hts (cn_Room_requireIndex l D ca x1 (4 : Int32) e1) kc_Room_requireIndex ks_Room_requireIndex tt_416 ⟨by decide, by decide⟩ rfl rfl hP hK [] rfl rfl hl.1 (Nat.le_of_ble_eq_true rfl) rfl nd_Room_on_2 ⟨Nat.zero_le _, Nat.zero_le _⟩ ?_
  replace hR := q_lr hR
  refine lv_aload_n hx hb nd_Room_on_5 rfl (lv_at hl 0 rfl) ?_
  refine va_get (D := D) (ci := 8) (v := .ref qhouse) (C := nR_Room) (T := nT_Room) (N := 7) hx hb hts ni_Room hown hK hP 0 rfl rfl 0 (by decide) (hts (.fieldLink nR_Room 19 "RoomClimate" "house" "LRoomClimate$House;") tt_222) (fun _ h9 => h9) rfl nd_Room_on_6 ?_
  refine va_getN (D := D) (ci := 2) (v := .ref qmachines) (C := nR_House) (T := nT_House) (N := 4) hx hb hts ni_House hown hK hP 1 rfl rfl 3 (by decide) (hts (.fieldLinkNest nR_Room 112 "RoomClimate$House" "machines" "LRoomClimate$Machines;" "RoomClimate") tt_156) (fun _ h9 => h9) rfl nd_Room_on_9 ?_
  refine va_getN (D := D) (ci := 4) (v := .ref qrunning) (C := nR_Machines) (T := nT_Machines) (N := 5) hx hb hts ni_Machines hown hK hP 2 rfl rfl 4 (by decide) (hts (.fieldLinkNest nR_Room 146 "RoomClimate$Machines" "running" "[Z" "RoomClimate") tt_117) (fun _ h9 => h9) rfl nd_Room_on_12 ?_
  refine lv_iload_n hx hb nd_Room_on_15 rfl (lv_at hl 1 rfl) ?_
  obtain ⟨h2, hR⟩ := q_ix hR
  refine va_zald hx hb hK hP 3 2 rfl rfl h2 nd_Room_on_16 ?_
  obtain ⟨h3, hR⟩ := q_bz hR
  exact hret _ _ _ nd_Room_on_17 h3 (Option.some.inj hR)
def rm_Room_book : Room := { frames := 9, cells := 0, slots := 0, locals := 161 }
theorem kc_Room_book : k_cal nY_Room_book nC_Room_book 3 (some .long) 2 := ⟨tt_560, tt_1, by decide +kernel⟩
theorem kv_Room_book : k_vir nY_Room_book := ⟨tt_558, tt_559⟩
set_option maxHeartbeats 4000000 in
set_option maxRecDepth 100000 in
theorem cn_Room_book (l : Launch) (D : va_G) (ca : Nat → ClassId) (qa0 qhouse qtrial qrisks qriskPoints qrules qgauge qinside qwalls qgoods qmachines qheatBooks qwaterBooks : Nat) (hoursGone_ : Int32) (volume_ : Int32) (share_ : Int32) (heat_ : Int64) (water_ : Int64) (waterBooks_ : Nat → Int64) (heatBooks_ : Nat → Int64) (x1 : Int32) (x2 : Int32) (R0 : Int64) (hR : fn_Room_book heat_ water_ waterBooks_ heatBooks_ x1 x2 = some (.inr R0)) : Met l nY_Room_book (Cond.code nY_Room_book nC_Room_book 3 (some .long) :: TT) rm_Room_book (rd_P [.ref qa0, .int x1, .int x2] D ca [oc_Room qa0 qhouse qtrial qrisks qriskPoints qrules qgauge hoursGone_, oc_House qhouse qinside qwalls qgoods qmachines, oc_Interior qinside qheatBooks qwaterBooks volume_ share_ heat_ water_, aJ qwaterBooks ca 5 waterBooks_, aJ qheatBooks ca 5 heatBooks_]) (vp_Sl (fun x => x = R0)) 0 0 (fun _ => False) := by
  refine rd_ofJ (by decide +kernel) (Nat.le_of_ble_eq_true rfl) ?_
  intro p e s m below meth c Q ar ls hx hb hml hts hown hP hK hl hret
  have hown : s.vm.findClass nR_Room = some m.cls := hown
  have hl : lv_has ls 3 [(0, .ref qa0), (1, .int x1), (2, .int x2)] := hl
  unfold fn_Room_book at hR
  refine lv_iload_n hx hb nd_Room_book_0 rfl (lv_at hl 2 rfl) ?_
  refine lv_iconst (v := 2) hx hb nd_Room_book_1 (by decide) ?_
  obtain ⟨e1, hR⟩ := q_xr hR
  refine k_rSV (As := [.int x2, .int (2 : Int32)]) (rest := []) hx hb hml hown hts (cn_Room_requireIndex l D ca x2 (2 : Int32) e1) kc_Room_requireIndex ks_Room_requireIndex tt_416 ⟨by decide, by decide⟩ rfl rfl hP hK [] rfl rfl hl.1 (Nat.le_of_ble_eq_true rfl) rfl nd_Room_book_2 ⟨Nat.zero_le _, Nat.zero_le _⟩ ?_
  refine lv_iload_n hx hb nd_Room_book_5 rfl (lv_at hl 1 rfl) ?_
  refine lv_iconst (v := -1) hx hb nd_Room_book_6 (by decide) ?_
  refine lv_icmp_ne (tgt := 38) hx hb nd_Room_book_7 (by decide) (fun c2 => ?_) (fun c2 => ?_)
  · replace hR := q_n c2 hR
    refine lv_iload_n hx hb nd_Room_book_38 rfl (lv_at hl 1 rfl) ?_
    refine lv_iconst (v := 5) hx hb nd_Room_book_39 (by decide) ?_
    obtain ⟨e3, hR⟩ := q_xr hR
    refine k_rSV (As := [.int x1, .int (5 : Int32)]) (rest := []) hx hb hml hown hts (cn_Room_requireIndex l D ca x1 (5 : Int32) e3) kc_Room_requireIndex ks_Room_requireIndex tt_416 ⟨by decide, by decide⟩ rfl rfl hP hK [] rfl rfl hl.1 (Nat.le_of_ble_eq_true rfl) rfl nd_Room_book_40 ⟨Nat.zero_le _, Nat.zero_le _⟩ ?_
    replace hR := q_lr hR
    refine lv_iload_n hx hb nd_Room_book_43 rfl (lv_at hl 2 rfl) ?_
    obtain ⟨j5_0, hJ5, hR⟩ := q_b1 hR
    have hN5 : ∀ (ls : Array Slot), lv_has ls 3 [(0, .ref qa0), (1, .int x1), (2, .int x2)] → W p l e rm_Room_book s m ar below meth c s.heap [] 0 0 Q (F0 m 74 ls [.long j5_0]) := by
      intro ls  hl
      exact hret _ _ _ nd_Room_book_74 (Option.some.inj hR)
    refine lv_if_ne (tgt := 62) hx hb nd_Room_book_44 (by decide) (fun c4 => ?_) (fun c4 => ?_)
    · have hR := q_n c4 hJ5
      refine lv_aload_n hx hb nd_Room_book_62 rfl (lv_at hl 0 rfl) ?_
      refine va_get (D := D) (ci := 8) (v := .ref qhouse) (C := nR_Room) (T := nT_Room) (N := 7) hx hb hts ni_Room hown hK hP 0 rfl rfl 0 (by decide) (hts (.fieldLink nR_Room 19 "RoomClimate" "house" "LRoomClimate$House;") tt_222) (fun _ h9 => h9) rfl nd_Room_book_63 ?_
      refine va_getN (D := D) (ci := 2) (v := .ref qinside) (C := nR_House) (T := nT_House) (N := 4) hx hb hts ni_House hown hK hP 1 rfl rfl 0 (by decide) (hts (.fieldLinkNest nR_Room 56 "RoomClimate$House" "inside" "LRoomClimate$Interior;" "RoomClimate") tt_150) (fun _ h9 => h9) rfl nd_Room_book_66 ?_
      refine va_getN (D := D) (ci := 3) (v := .ref qwaterBooks) (C := nR_Interior) (T := nT_Interior) (N := 6) hx hb hts ni_Interior hown hK hP 2 rfl rfl 1 (by decide) (hts (.fieldLinkNest nR_Room 160 "RoomClimate$Interior" "waterBooks" "[J" "RoomClimate") tt_61) (fun _ h9 => h9) rfl nd_Room_book_69 ?_
      refine lv_iload_n hx hb nd_Room_book_72 rfl (lv_at hl 1 rfl) ?_
      obtain ⟨h6, hR⟩ := q_ix hR
      refine va_lald hx hb hK hP 3 1 rfl rfl h6 nd_Room_book_73 ?_
      cases hR
      exact hN5 _  (lv_sub hl [0, 1, 2] rfl)
    · have hR := q_p c4 hJ5
      refine lv_aload_n hx hb nd_Room_book_47 rfl (lv_at hl 0 rfl) ?_
      refine va_get (D := D) (ci := 8) (v := .ref qhouse) (C := nR_Room) (T := nT_Room) (N := 7) hx hb hts ni_Room hown hK hP 0 rfl rfl 0 (by decide) (hts (.fieldLink nR_Room 19 "RoomClimate" "house" "LRoomClimate$House;") tt_222) (fun _ h9 => h9) rfl nd_Room_book_48 ?_
      refine va_getN (D := D) (ci := 2) (v := .ref qinside) (C := nR_House) (T := nT_House) (N := 4) hx hb hts ni_House hown hK hP 1 rfl rfl 0 (by decide) (hts (.fieldLinkNest nR_Room 56 "RoomClimate$House" "inside" "LRoomClimate$Interior;" "RoomClimate") tt_150) (fun _ h9 => h9) rfl nd_Room_book_51 ?_
      refine va_getN (D := D) (ci := 3) (v := .ref qheatBooks) (C := nR_Interior) (T := nT_Interior) (N := 6) hx hb hts ni_Interior hown hK hP 2 rfl rfl 0 (by decide) (hts (.fieldLinkNest nR_Room 156 "RoomClimate$Interior" "heatBooks" "[J" "RoomClimate") tt_59) (fun _ h9 => h9) rfl nd_Room_book_54 ?_
      refine lv_iload_n hx hb nd_Room_book_57 rfl (lv_at hl 1 rfl) ?_
      obtain ⟨h7, hR⟩ := q_ix hR
      refine va_lald hx hb hK hP 4 1 rfl rfl h7 nd_Room_book_58 ?_
      refine lv_goto (tgt := 74) hx hb nd_Room_book_59 (by decide) ?_
      cases hR
      exact hN5 _  (lv_sub hl [0, 1, 2] rfl)
  · replace hR := q_p c2 hR
    replace hR := q_lr hR
    refine lv_iload_n hx hb nd_Room_book_10 rfl (lv_at hl 2 rfl) ?_
    obtain ⟨j9_0, hJ9, hR⟩ := q_b1 hR
    have hN9 : ∀ (ls : Array Slot), lv_has ls 3 [(0, .ref qa0), (1, .int x1), (2, .int x2)] → W p l e rm_Room_book s m ar below meth c s.heap [] 0 0 Q (F0 m 37 ls [.long j9_0]) := by
      intro ls  hl
      exact hret _ _ _ nd_Room_book_37 (Option.some.inj hR)
    refine lv_if_ne (tgt := 27) hx hb nd_Room_book_11 (by decide) (fun c8 => ?_) (fun c8 => ?_)
    · have hR := q_n c8 hJ9
      refine lv_aload_n hx hb nd_Room_book_27 rfl (lv_at hl 0 rfl) ?_
      refine va_get (D := D) (ci := 8) (v := .ref qhouse) (C := nR_Room) (T := nT_Room) (N := 7) hx hb hts ni_Room hown hK hP 0 rfl rfl 0 (by decide) (hts (.fieldLink nR_Room 19 "RoomClimate" "house" "LRoomClimate$House;") tt_222) (fun _ h9 => h9) rfl nd_Room_book_28 ?_
      refine va_getN (D := D) (ci := 2) (v := .ref qinside) (C := nR_House) (T := nT_House) (N := 4) hx hb hts ni_House hown hK hP 1 rfl rfl 0 (by decide) (hts (.fieldLinkNest nR_Room 56 "RoomClimate$House" "inside" "LRoomClimate$Interior;" "RoomClimate") tt_150) (fun _ h9 => h9) rfl nd_Room_book_31 ?_
      refine va_getN (D := D) (ci := 3) (v := .long water_) (C := nR_Interior) (T := nT_Interior) (N := 6) hx hb hts ni_Interior hown hK hP 2 rfl rfl 5 (by decide) (hts (.fieldLinkNest nR_Room 153 "RoomClimate$Interior" "water" "J" "RoomClimate") tt_71) (fun _ h9 => h9) rfl nd_Room_book_34 ?_
      cases hR
      exact hN9 _  (lv_sub hl [0, 1, 2] rfl)
    · have hR := q_p c8 hJ9
      refine lv_aload_n hx hb nd_Room_book_14 rfl (lv_at hl 0 rfl) ?_
      refine va_get (D := D) (ci := 8) (v := .ref qhouse) (C := nR_Room) (T := nT_Room) (N := 7) hx hb hts ni_Room hown hK hP 0 rfl rfl 0 (by decide) (hts (.fieldLink nR_Room 19 "RoomClimate" "house" "LRoomClimate$House;") tt_222) (fun _ h9 => h9) rfl nd_Room_book_15 ?_
      refine va_getN (D := D) (ci := 2) (v := .ref qinside) (C := nR_House) (T := nT_House) (N := 4) hx hb hts ni_House hown hK hP 1 rfl rfl 0 (by decide) (hts (.fieldLinkNest nR_Room 56 "RoomClimate$House" "inside" "LRoomClimate$Interior;" "RoomClimate") tt_150) (fun _ h9 => h9) rfl nd_Room_book_18 ?_
      refine va_getN (D := D) (ci := 3) (v := .long heat_) (C := nR_Interior) (T := nT_Interior) (N := 6) hx hb hts ni_Interior hown hK hP 2 rfl rfl 4 (by decide) (hts (.fieldLinkNest nR_Room 150 "RoomClimate$Interior" "heat" "J" "RoomClimate") tt_67) (fun _ h9 => h9) rfl nd_Room_book_21 ?_
      refine lv_goto (tgt := 37) hx hb nd_Room_book_24 (by decide) ?_
      cases hR
      exact hN9 _  (lv_sub hl [0, 1, 2] rfl)
def rm_Room_dew : Room := { frames := 9, cells := 0, slots := 0, locals := 161 }
theorem kc_Room_dew : k_cal nY_Room_dew nC_Room_dew 2 (some .boolean) 1 := ⟨tt_567, tt_1, by decide +kernel⟩
theorem kv_Room_dew : k_vir nY_Room_dew := ⟨tt_565, tt_566⟩
set_option maxHeartbeats 4000000 in
set_option maxRecDepth 100000 in
theorem cn_Room_dew (l : Launch) (D : va_G) (ca : Nat → ClassId) (qa0 qhouse qtrial qrisks qriskPoints qrules qgauge qinside qwalls qgoods qmachines qconductances qcapacities qheats qheatBooks qwaterBooks : Nat) (hoursGone_ : Int32) (layers_ : Int32) (volume_ : Int32) (share_ : Int32) (heat_ : Int64) (water_ : Int64) (heats_ : Nat → Int64) (capacities_ : Nat → Int32) (x1 : Int32) (R0 : Int32) (hR : fn_Room_dew layers_ volume_ water_ heats_ capacities_ x1 = some (.inr R0)) : Met l nY_Room_dew (Cond.code nY_Room_dew nC_Room_dew 2 (some .boolean) :: TT) rm_Room_dew (rd_P [.ref qa0, .int x1] D ca [oc_Room qa0 qhouse qtrial qrisks qriskPoints qrules qgauge hoursGone_, oc_House qhouse qinside qwalls qgoods qmachines, oc_Walls qwalls qconductances qcapacities qheats layers_, oc_Interior qinside qheatBooks qwaterBooks volume_ share_ heat_ water_, aJ qheats ca 5 heats_, aI qcapacities ca 5 capacities_]) (vp_Si (fun x => x = R0)) 0 0 (fun _ => False) := by
  refine rd_ofZ (by decide +kernel) (Nat.le_of_ble_eq_true rfl) ?_
  intro p e s m below meth c Q ar ls hx hb hml hts hown hP hK hl hret
  have hown : s.vm.findClass nR_Room = some m.cls := hown
  have hl : lv_has ls 2 [(0, .ref qa0), (1, .int x1)] := hl
  unfold fn_Room_dew at hR
  refine lv_iload_n hx hb nd_Room_dew_0 rfl (lv_at hl 1 rfl) ?_
  refine lv_aload_n hx hb nd_Room_dew_1 rfl (lv_at hl 0 rfl) ?_
  refine va_get (D := D) (ci := 8) (v := .ref qhouse) (C := nR_Room) (T := nT_Room) (N := 7) hx hb hts ni_Room hown hK hP 0 rfl rfl 0 (by decide) (hts (.fieldLink nR_Room 19 "RoomClimate" "house" "LRoomClimate$House;") tt_222) (fun _ h9 => h9) rfl nd_Room_dew_2 ?_
  refine va_getN (D := D) (ci := 2) (v := .ref qwalls) (C := nR_House) (T := nT_House) (N := 4) hx hb hts ni_House hown hK hP 1 rfl rfl 1 (by decide) (hts (.fieldLinkNest nR_Room 68 "RoomClimate$House" "walls" "LRoomClimate$Walls;" "RoomClimate") tt_152) (fun _ h9 => h9) rfl nd_Room_dew_5 ?_
  refine va_getN (D := D) (ci := 7) (v := .int layers_) (C := nR_Walls) (T := nT_Walls) (N := 4) hx hb hts ni_Walls hown hK hP 2 rfl rfl 3 (by decide) (hts (.fieldLinkNest nR_Room 72 "RoomClimate$Walls" "layers" "I" "RoomClimate") tt_96) (fun _ h9 => h9) rfl nd_Room_dew_8 ?_
  obtain ⟨e1, hR⟩ := q_xr hR
  refine k_rSV (As := [.int x1, .int layers_]) (rest := []) hx hb hml hown hts (cn_Room_requireIndex l D ca x1 layers_ e1) kc_Room_requireIndex ks_Room_requireIndex tt_416 ⟨by decide, by decide⟩ rfl rfl hP hK [] rfl rfl hl.1 (Nat.le_of_ble_eq_true rfl) rfl nd_Room_dew_11 ⟨Nat.zero_le _, Nat.zero_le _⟩ ?_
  replace hR := q_lr hR
  refine lv_aload_n hx hb nd_Room_dew_14 rfl (lv_at hl 0 rfl) ?_
  refine va_get (D := D) (ci := 8) (v := .ref qhouse) (C := nR_Room) (T := nT_Room) (N := 7) hx hb hts ni_Room hown hK hP 0 rfl rfl 0 (by decide) (hts (.fieldLink nR_Room 19 "RoomClimate" "house" "LRoomClimate$House;") tt_222) (fun _ h9 => h9) rfl nd_Room_dew_15 ?_
  refine va_getN (D := D) (ci := 2) (v := .ref qinside) (C := nR_House) (T := nT_House) (N := 4) hx hb hts ni_House hown hK hP 1 rfl rfl 0 (by decide) (hts (.fieldLinkNest nR_Room 56 "RoomClimate$House" "inside" "LRoomClimate$Interior;" "RoomClimate") tt_150) (fun _ h9 => h9) rfl nd_Room_dew_18 ?_
  obtain ⟨r2, e2, hR⟩ := q_b1 hR
  refine k_rVJ (As := []) (rest := []) (r := r2) hx hb hml hown hts (cn_Interior_moisture l D ca qinside qheatBooks qwaterBooks volume_ share_ heat_ water_ r2 e2) kc_Interior_moisture kv_Interior_moisture tt_262 ⟨by decide, by decide⟩ rfl rfl hP hK [3] rfl 0 rfl rfl rfl rfl hl.1 (Nat.le_of_ble_eq_true rfl) rfl nd_Room_dew_21 ⟨Nat.zero_le _, Nat.zero_le _⟩ ?_
  refine lv_aload_n hx hb nd_Room_dew_24 rfl (lv_at hl 0 rfl) ?_
  refine va_get (D := D) (ci := 8) (v := .ref qhouse) (C := nR_Room) (T := nT_Room) (N := 7) hx hb hts ni_Room hown hK hP 0 rfl rfl 0 (by decide) (hts (.fieldLink nR_Room 19 "RoomClimate" "house" "LRoomClimate$House;") tt_222) (fun _ h9 => h9) rfl nd_Room_dew_25 ?_
  refine va_getN (D := D) (ci := 2) (v := .ref qwalls) (C := nR_House) (T := nT_House) (N := 4) hx hb hts ni_House hown hK hP 1 rfl rfl 1 (by decide) (hts (.fieldLinkNest nR_Room 68 "RoomClimate$House" "walls" "LRoomClimate$Walls;" "RoomClimate") tt_152) (fun _ h9 => h9) rfl nd_Room_dew_28 ?_
  refine lv_iload_n hx hb nd_Room_dew_31 rfl (lv_at hl 1 rfl) ?_
  obtain ⟨r3, e3, hR⟩ := q_b1 hR
  refine k_rVJ (As := [.int x1]) (rest := [.long r2]) (r := r3) hx hb hml hown hts (cn_Walls_warmth l D ca qwalls qconductances qcapacities qheats layers_ heats_ capacities_ x1 r3 e3) kc_Walls_warmth kv_Walls_warmth tt_546 ⟨by decide, by decide⟩ rfl rfl hP hK [2, 4, 5] rfl 0 rfl rfl rfl rfl hl.1 (Nat.le_of_ble_eq_true rfl) rfl nd_Room_dew_32 ⟨Nat.zero_le _, Nat.zero_le _⟩ ?_
  refine lv_lconst (v := 0) hx hb nd_Room_dew_35 (by decide) ?_
  refine va_mmax_long hx hb (hml.trans hl.1.symm) hown (hts _ tt_568) (hts _ tt_569) (hts _ tt_17) (hts _ tt_570) (by decide) (Nat.le_of_ble_eq_true rfl) (Nat.zero_le _) (Nat.zero_le _) nd_Room_dew_36 ?_
  refine W.lcmp hx hb nd_Room_dew_39 ?_
  obtain ⟨j5_0, hJ5, hR⟩ := q_b1 hR
  have hN5 : ∀ (ls : Array Slot), lv_has ls 2 [(0, .ref qa0), (1, .int x1)] → W p l e rm_Room_dew s m ar below meth c s.heap [] 0 0 Q (F0 m 48 ls [.int j5_0]) := by
    intro ls  hl
    obtain ⟨h6, hR⟩ := q_bz hR
    exact hret _ _ _ nd_Room_dew_48 h6 (Option.some.inj hR)
  refine lv_if_le (tgt := 47) hx hb nd_Room_dew_40 (by decide) (fun c4 => ?_) (fun c4 => ?_)
  · have hR := q_p c4 hJ5
    refine lv_iconst (v := 0) hx hb nd_Room_dew_47 (by decide) ?_
    cases hR
    exact hN5 _  (lv_sub hl [0, 1] rfl)
  · have hR := q_n c4 hJ5
    refine lv_iconst (v := 1) hx hb nd_Room_dew_43 (by decide) ?_
    refine lv_goto (tgt := 48) hx hb nd_Room_dew_44 (by decide) ?_
    cases hR
    exact hN5 _  (lv_sub hl [0, 1] rfl)
def rm_Room_risk : Room := { frames := 9, cells := 0, slots := 0, locals := 162 }
theorem kc_Room_risk : k_cal nY_Room_risk nC_Room_risk 4 (some .int) 3 := ⟨tt_577, tt_1, by decide +kernel⟩
theorem kv_Room_risk : k_vir nY_Room_risk := ⟨tt_575, tt_576⟩
set_option maxHeartbeats 4000000 in
set_option maxRecDepth 100000 in
theorem cn_Room_risk (l : Launch) (D : va_G) (ca : Nat → ClassId) (qa0 qhouse qtrial qrisks qriskPoints qrules qgauge qrisks0 qrisks1 qrisks2 qrisks3 qlevels qamounts qlevels2 qamounts2 qlevels3 qamounts3 qlevels4 qamounts4 : Nat) (hoursGone_ : Int32) (size_ : Int32) (levels_ : Nat → Int32) (amounts_ : Nat → Int32) (size_2 : Int32) (levels_2 : Nat → Int32) (amounts_2 : Nat → Int32) (size_3 : Int32) (levels_3 : Nat → Int32) (amounts_3 : Nat → Int32) (size_4 : Int32) (levels_4 : Nat → Int32) (amounts_4 : Nat → Int32) (x1 : Int32) (x2 : Int32) (x3 : Int32) (R0 : Int32) (R1 : Nat → Int32) (R2 : Nat → Int32) (R3 : Int32) (R4 : Nat → Int32) (R5 : Nat → Int32) (R6 : Int32) (R7 : Nat → Int32) (R8 : Nat → Int32) (R9 : Int32) (R10 : Nat → Int32) (R11 : Nat → Int32) (R12 : Int32) (hR : fn_Room_risk size_ levels_ amounts_ size_2 levels_2 amounts_2 size_3 levels_3 amounts_3 size_4 levels_4 amounts_4 x1 x2 x3 = some (.inr (R0, R1, R2, R3, R4, R5, R6, R7, R8, R9, R10, R11, R12))) (sz : Nat) : Met l nY_Room_risk (Cond.code nY_Room_risk nC_Room_risk 4 (some .int) :: TT) rm_Room_risk (wr_P [.ref qa0, .int x1, .int x2, .int x3] D ca [oc_Room qa0 qhouse qtrial qrisks qriskPoints qrules qgauge hoursGone_, aS qrisks ca (rq4 qrisks0 qrisks1 qrisks2 qrisks3), oc_Steps qrisks0 qlevels qamounts size_, aI qlevels ca 5 levels_, aI qamounts ca 5 amounts_, oc_Steps qrisks1 qlevels2 qamounts2 size_2, aI qlevels2 ca 5 levels_2, aI qamounts2 ca 5 amounts_2, oc_Steps qrisks2 qlevels3 qamounts3 size_3, aI qlevels3 ca 5 levels_3, aI qamounts3 ca 5 amounts_3, oc_Steps qrisks3 qlevels4 qamounts4 size_4, aI qlevels4 ca 5 levels_4, aI qamounts4 ca 5 amounts_4] sz) (va_Qi (fun x (_ : Unit) => x = R0) (wr_B D [oc_Room qa0 qhouse qtrial qrisks qriskPoints qrules qgauge hoursGone_, aS qrisks ca (rq4 qrisks0 qrisks1 qrisks2 qrisks3), oc_Steps qrisks0 qlevels qamounts size_, aI qlevels ca 5 levels_, aI qamounts ca 5 amounts_, oc_Steps qrisks1 qlevels2 qamounts2 size_2, aI qlevels2 ca 5 levels_2, aI qamounts2 ca 5 amounts_2, oc_Steps qrisks2 qlevels3 qamounts3 size_3, aI qlevels3 ca 5 levels_3, aI qamounts3 ca 5 amounts_3, oc_Steps qrisks3 qlevels4 qamounts4 size_4, aI qlevels4 ca 5 levels_4, aI qamounts4 ca 5 amounts_4] sz [oc_Room qa0 qhouse qtrial qrisks qriskPoints qrules qgauge hoursGone_, aS qrisks ca (rq4 qrisks0 qrisks1 qrisks2 qrisks3), oc_Steps qrisks0 qlevels qamounts R3, aI qlevels ca 5 R1, aI qamounts ca 5 R2, oc_Steps qrisks1 qlevels2 qamounts2 R6, aI qlevels2 ca 5 R4, aI qamounts2 ca 5 R5, oc_Steps qrisks2 qlevels3 qamounts3 R9, aI qlevels3 ca 5 R7, aI qamounts3 ca 5 R8, oc_Steps qrisks3 qlevels4 qamounts4 R12, aI qlevels4 ca 5 R10, aI qamounts4 ca 5 R11]) (va_A [oc_Room qa0 qhouse qtrial qrisks qriskPoints qrules qgauge hoursGone_, aS qrisks ca (rq4 qrisks0 qrisks1 qrisks2 qrisks3), oc_Steps qrisks0 qlevels qamounts size_, aI qlevels ca 5 levels_, aI qamounts ca 5 amounts_, oc_Steps qrisks1 qlevels2 qamounts2 size_2, aI qlevels2 ca 5 levels_2, aI qamounts2 ca 5 amounts_2, oc_Steps qrisks2 qlevels3 qamounts3 size_3, aI qlevels3 ca 5 levels_3, aI qamounts3 ca 5 amounts_3, oc_Steps qrisks3 qlevels4 qamounts4 size_4, aI qlevels4 ca 5 levels_4, aI qamounts4 ca 5 amounts_4] sz)) 0 0 (va_A [oc_Room qa0 qhouse qtrial qrisks qriskPoints qrules qgauge hoursGone_, aS qrisks ca (rq4 qrisks0 qrisks1 qrisks2 qrisks3), oc_Steps qrisks0 qlevels qamounts size_, aI qlevels ca 5 levels_, aI qamounts ca 5 amounts_, oc_Steps qrisks1 qlevels2 qamounts2 size_2, aI qlevels2 ca 5 levels_2, aI qamounts2 ca 5 amounts_2, oc_Steps qrisks2 qlevels3 qamounts3 size_3, aI qlevels3 ca 5 levels_3, aI qamounts3 ca 5 amounts_3, oc_Steps qrisks3 qlevels4 qamounts4 size_4, aI qlevels4 ca 5 levels_4, aI qamounts4 ca 5 amounts_4] sz) := by
  refine wr_ofI (R := (R0, R1, R2, R3, R4, R5, R6, R7, R8, R9, R10, R11, R12)) (val := fun r => r.1) (w1 := fun r : Int32 × (Nat → Int32) × (Nat → Int32) × Int32 × (Nat → Int32) × (Nat → Int32) × Int32 × (Nat → Int32) × (Nat → Int32) × Int32 × (Nat → Int32) × (Nat → Int32) × Int32 => [oc_Room qa0 qhouse qtrial qrisks qriskPoints qrules qgauge hoursGone_, aS qrisks ca (rq4 qrisks0 qrisks1 qrisks2 qrisks3), oc_Steps qrisks0 qlevels qamounts r.2.2.2.1, aI qlevels ca 5 r.2.1, aI qamounts ca 5 r.2.2.1, oc_Steps qrisks1 qlevels2 qamounts2 r.2.2.2.2.2.2.1, aI qlevels2 ca 5 r.2.2.2.2.1, aI qamounts2 ca 5 r.2.2.2.2.2.1, oc_Steps qrisks2 qlevels3 qamounts3 r.2.2.2.2.2.2.2.2.2.1, aI qlevels3 ca 5 r.2.2.2.2.2.2.2.1, aI qamounts3 ca 5 r.2.2.2.2.2.2.2.2.1, oc_Steps qrisks3 qlevels4 qamounts4 r.2.2.2.2.2.2.2.2.2.2.2.2, aI qlevels4 ca 5 r.2.2.2.2.2.2.2.2.2.2.1, aI qamounts4 ca 5 r.2.2.2.2.2.2.2.2.2.2.2.1]) (by decide +kernel) (Nat.le_of_ble_eq_true rfl) ?_
  intro p e s m below meth c Q ar ls hx hb hml hts hown hP hK A hD hA hl hret
  have hS : va_S A s.heap s.heap [] := va_S.rf
  have hown : s.vm.findClass nR_Room = some m.cls := hown
  have hl : lv_has ls 4 [(0, .ref qa0), (1, .int x1), (2, .int x2), (3, .int x3)] := hl
  unfold fn_Room_risk at hR
  refine lv_iload_n hx hb nd_Room_risk_0 rfl (lv_at hl 1 rfl) ?_
  refine lv_iconst (v := 4) hx hb nd_Room_risk_1 (by decide) ?_
  obtain ⟨e1, hR⟩ := q_xr hR
  refine k_rSV (As := [.int x1, .int (4 : Int32)]) (rest := []) hx hb hml hown hts (cn_Room_requireIndex l D ca x1 (4 : Int32) e1) kc_Room_requireIndex ks_Room_requireIndex tt_416 ⟨by decide, by decide⟩ rfl rfl hP hK [] rfl rfl hl.1 (Nat.le_of_ble_eq_true rfl) rfl nd_Room_risk_2 ⟨Nat.zero_le _, Nat.zero_le _⟩ ?_
  refine lv_aload_n hx hb nd_Room_risk_5 rfl (lv_at hl 0 rfl) ?_
  refine va_get (D := D) (ci := 8) (v := .ref qrisks) (C := nR_Room) (T := nT_Room) (N := 7) hx hb hts ni_Room hown hK hP 0 rfl rfl 2 (by decide) (hts (.fieldLink nR_Room 26 "RoomClimate" "risks" "[LRoomClimate$Steps;") tt_224) (fun _ h9 => h9) rfl nd_Room_risk_6 ?_
  refine lv_iload_n hx hb nd_Room_risk_9 rfl (lv_at hl 1 rfl) ?_
  by_cases c2 : x1 = 0
  · replace hR := q_p c2 hR
    refine k_aldq (k := 0) hx hb hK hP 1 3 rfl rfl c2 (by decide) (by decide) rfl nd_Room_risk_10 ?_
    refine va_getN (D := D) (ci := 6) (v := .int size_) (C := nR_Steps) (T := nT_Steps) (N := 3) hx hb hts ni_Steps hown hK hP 2 rfl rfl 2 (by decide) (hts (.fieldLinkNest nR_Room 98 "RoomClimate$Steps" "size" "I" "RoomClimate") tt_35) (fun _ h9 => h9) rfl nd_Room_risk_11 ?_
    refine lv_iconst (v := 5) hx hb nd_Room_risk_14 (by decide) ?_
    obtain ⟨e3, hR⟩ := q_xr hR
    refine k_rSV (As := [.int size_, .int (5 : Int32)]) (rest := []) hx hb hml hown hts (cn_Room_requireSpace l D ca size_ (5 : Int32) e3) kc_Room_requireSpace ks_Room_requireSpace tt_357 ⟨by decide, by decide⟩ rfl rfl hP hK [] rfl rfl hl.1 (Nat.le_of_ble_eq_true rfl) rfl nd_Room_risk_15 ⟨Nat.zero_le _, Nat.zero_le _⟩ ?_
    refine lv_iload_n hx hb nd_Room_risk_18 rfl (lv_at hl 2 rfl) ?_
    refine lv_ldc hx hb hown (hts _ tt_435) nd_Room_risk_19 ?_
    refine lv_ldc hx hb hown (hts _ tt_395) nd_Room_risk_21 ?_
    obtain ⟨e4, hR⟩ := q_xr hR
    refine k_rSV (As := [.int x2, .int (-60000 : Int32), .int (60000 : Int32)]) (rest := []) hx hb hml hown hts (cn_Room_requireWithin l D ca x2 (-60000 : Int32) (60000 : Int32) e4) kc_Room_requireWithin ks_Room_requireWithin tt_278 ⟨by decide, by decide⟩ rfl rfl hP hK [] rfl rfl hl.1 (Nat.le_of_ble_eq_true rfl) rfl nd_Room_risk_23 ⟨Nat.zero_le _, Nat.zero_le _⟩ ?_
    refine lv_aload_n hx hb nd_Room_risk_26 rfl (lv_at hl 0 rfl) ?_
    refine va_get (D := D) (ci := 8) (v := .ref qrisks) (C := nR_Room) (T := nT_Room) (N := 7) hx hb hts ni_Room hown hK hP 0 rfl rfl 2 (by decide) (hts (.fieldLink nR_Room 26 "RoomClimate" "risks" "[LRoomClimate$Steps;") tt_224) (fun _ h9 => h9) rfl nd_Room_risk_27 ?_
    refine lv_iload_n hx hb nd_Room_risk_30 rfl (lv_at hl 1 rfl) ?_
    refine k_aldq (k := 0) hx hb hK hP 1 3 rfl rfl c2 (by decide) (by decide) rfl nd_Room_risk_31 ?_
    refine lv_iload_n hx hb nd_Room_risk_32 rfl (lv_at hl 2 rfl) ?_
    obtain ⟨e5, hR⟩ := q_xr hR
    refine k_rSV (As := [.ref qrisks0, .int x2]) (rest := []) hx hb hml hown hts (cn_Room_requireRise l D ca qrisks0 qlevels qamounts size_ levels_ 5 x2 e5) kc_Room_requireRise ks_Room_requireRise tt_396 ⟨by decide, by decide⟩ rfl rfl hP hK [2, 3] rfl rfl hl.1 (Nat.le_of_ble_eq_true rfl) rfl nd_Room_risk_33 ⟨Nat.zero_le _, Nat.zero_le _⟩ ?_
    refine lv_iload_n hx hb nd_Room_risk_36 rfl (lv_at hl 3 rfl) ?_
    refine lv_iconst (v := 0) hx hb nd_Room_risk_37 (by decide) ?_
    refine lv_sipush (v := 1000) hx hb nd_Room_risk_38 (by decide) ?_
    obtain ⟨e6, hR⟩ := q_xr hR
    refine k_rSV (As := [.int x3, .int (0 : Int32), .int (1000 : Int32)]) (rest := []) hx hb hml hown hts (cn_Room_requireWithin l D ca x3 (0 : Int32) (1000 : Int32) e6) kc_Room_requireWithin ks_Room_requireWithin tt_278 ⟨by decide, by decide⟩ rfl rfl hP hK [] rfl rfl hl.1 (Nat.le_of_ble_eq_true rfl) rfl nd_Room_risk_41 ⟨Nat.zero_le _, Nat.zero_le _⟩ ?_
    replace hR := q_lr hR
    refine lv_aload_n hx hb nd_Room_risk_44 rfl (lv_at hl 0 rfl) ?_
    refine va_get (D := D) (ci := 8) (v := .ref qrisks) (C := nR_Room) (T := nT_Room) (N := 7) hx hb hts ni_Room hown hK hP 0 rfl rfl 2 (by decide) (hts (.fieldLink nR_Room 26 "RoomClimate" "risks" "[LRoomClimate$Steps;") tt_224) (fun _ h9 => h9) rfl nd_Room_risk_45 ?_
    refine lv_iload_n hx hb nd_Room_risk_48 rfl (lv_at hl 1 rfl) ?_
    refine k_aldq (k := 0) hx hb hK hP 1 3 rfl rfl c2 (by decide) (by decide) rfl nd_Room_risk_49 ?_
    refine lv_iload_n hx hb nd_Room_risk_50 rfl (lv_at hl 2 rfl) ?_
    refine lv_iload_n hx hb nd_Room_risk_51 rfl (lv_at hl 3 rfl) ?_
    obtain ⟨r7, u7_0, u7_1, u7_2, e7, hR⟩ := q_b4 hR
    refine k_wVI (wr := [oc_Room qa0 qhouse qtrial qrisks qriskPoints qrules qgauge hoursGone_, aS qrisks ca (rq4 qrisks0 qrisks1 qrisks2 qrisks3), oc_Steps qrisks1 qlevels2 qamounts2 size_2, aI qlevels2 ca 5 levels_2, aI qamounts2 ca 5 amounts_2, oc_Steps qrisks2 qlevels3 qamounts3 size_3, aI qlevels3 ca 5 levels_3, aI qamounts3 ca 5 amounts_3, oc_Steps qrisks3 qlevels4 qamounts4 size_4, aI qlevels4 ca 5 levels_4, aI qamounts4 ca 5 amounts_4]) (w2 := [oc_Room qa0 qhouse qtrial qrisks qriskPoints qrules qgauge hoursGone_, aS qrisks ca (rq4 qrisks0 qrisks1 qrisks2 qrisks3), oc_Steps qrisks0 qlevels qamounts u7_2, aI qlevels ca 5 u7_0, aI qamounts ca 5 u7_1, oc_Steps qrisks1 qlevels2 qamounts2 size_2, aI qlevels2 ca 5 levels_2, aI qamounts2 ca 5 amounts_2, oc_Steps qrisks2 qlevels3 qamounts3 size_3, aI qlevels3 ca 5 levels_3, aI qamounts3 ca 5 amounts_3, oc_Steps qrisks3 qlevels4 qamounts4 size_4, aI qlevels4 ca 5 levels_4, aI qamounts4 ca 5 amounts_4]) (As := [.int x2, .int x3]) (rest := []) (r := r7) hx hb hml hown hts (cn_Steps_append l D ca qrisks0 qlevels qamounts size_ levels_ amounts_ 5 x2 x3 r7 u7_0 u7_1 u7_2 e7 _) kc_Steps_append kv_Steps_append tt_404 ⟨by decide, by decide⟩ rfl rfl hP hK hD hS hA [2, 3, 4] [0, 1, 5, 6, 7, 8, 9, 10, 11, 12, 13] [0, 1, 11, 12, 13, 2, 3, 4, 5, 6, 7, 8, 9, 10] rfl (by decide) rfl (by decide) (by decide) rfl (by decide) 0 rfl rfl rfl rfl hl.1 (Nat.le_of_ble_eq_true rfl) rfl nd_Room_risk_52 ⟨Nat.zero_le _, Nat.zero_le _⟩ (fun H locs hP hD hS => ?_)
    exact hret (r7, u7_0, u7_1, u7_2, levels_2, amounts_2, size_2, levels_3, amounts_3, size_3, levels_4, amounts_4, size_4) _ _ _ _ nd_Room_risk_55 hR hP hD hS
  replace hR := q_n c2 hR
  by_cases c8 : x1 = 1
  · replace hR := q_p c8 hR
    refine k_aldq (k := 1) hx hb hK hP 1 3 rfl rfl c8 (by decide) (by decide) rfl nd_Room_risk_10 ?_
    refine va_getN (D := D) (ci := 6) (v := .int size_2) (C := nR_Steps) (T := nT_Steps) (N := 3) hx hb hts ni_Steps hown hK hP 5 rfl rfl 2 (by decide) (hts (.fieldLinkNest nR_Room 98 "RoomClimate$Steps" "size" "I" "RoomClimate") tt_35) (fun _ h9 => h9) rfl nd_Room_risk_11 ?_
    refine lv_iconst (v := 5) hx hb nd_Room_risk_14 (by decide) ?_
    obtain ⟨e9, hR⟩ := q_xr hR
    refine k_rSV (As := [.int size_2, .int (5 : Int32)]) (rest := []) hx hb hml hown hts (cn_Room_requireSpace l D ca size_2 (5 : Int32) e9) kc_Room_requireSpace ks_Room_requireSpace tt_357 ⟨by decide, by decide⟩ rfl rfl hP hK [] rfl rfl hl.1 (Nat.le_of_ble_eq_true rfl) rfl nd_Room_risk_15 ⟨Nat.zero_le _, Nat.zero_le _⟩ ?_
    refine lv_iload_n hx hb nd_Room_risk_18 rfl (lv_at hl 2 rfl) ?_
    refine lv_ldc hx hb hown (hts _ tt_435) nd_Room_risk_19 ?_
    refine lv_ldc hx hb hown (hts _ tt_395) nd_Room_risk_21 ?_
    obtain ⟨e10, hR⟩ := q_xr hR
    refine k_rSV (As := [.int x2, .int (-60000 : Int32), .int (60000 : Int32)]) (rest := []) hx hb hml hown hts (cn_Room_requireWithin l D ca x2 (-60000 : Int32) (60000 : Int32) e10) kc_Room_requireWithin ks_Room_requireWithin tt_278 ⟨by decide, by decide⟩ rfl rfl hP hK [] rfl rfl hl.1 (Nat.le_of_ble_eq_true rfl) rfl nd_Room_risk_23 ⟨Nat.zero_le _, Nat.zero_le _⟩ ?_
    refine lv_aload_n hx hb nd_Room_risk_26 rfl (lv_at hl 0 rfl) ?_
    refine va_get (D := D) (ci := 8) (v := .ref qrisks) (C := nR_Room) (T := nT_Room) (N := 7) hx hb hts ni_Room hown hK hP 0 rfl rfl 2 (by decide) (hts (.fieldLink nR_Room 26 "RoomClimate" "risks" "[LRoomClimate$Steps;") tt_224) (fun _ h9 => h9) rfl nd_Room_risk_27 ?_
    refine lv_iload_n hx hb nd_Room_risk_30 rfl (lv_at hl 1 rfl) ?_
    refine k_aldq (k := 1) hx hb hK hP 1 3 rfl rfl c8 (by decide) (by decide) rfl nd_Room_risk_31 ?_
    refine lv_iload_n hx hb nd_Room_risk_32 rfl (lv_at hl 2 rfl) ?_
    obtain ⟨e11, hR⟩ := q_xr hR
    refine k_rSV (As := [.ref qrisks1, .int x2]) (rest := []) hx hb hml hown hts (cn_Room_requireRise l D ca qrisks1 qlevels2 qamounts2 size_2 levels_2 5 x2 e11) kc_Room_requireRise ks_Room_requireRise tt_396 ⟨by decide, by decide⟩ rfl rfl hP hK [5, 6] rfl rfl hl.1 (Nat.le_of_ble_eq_true rfl) rfl nd_Room_risk_33 ⟨Nat.zero_le _, Nat.zero_le _⟩ ?_
    refine lv_iload_n hx hb nd_Room_risk_36 rfl (lv_at hl 3 rfl) ?_
    refine lv_iconst (v := 0) hx hb nd_Room_risk_37 (by decide) ?_
    refine lv_sipush (v := 1000) hx hb nd_Room_risk_38 (by decide) ?_
    obtain ⟨e12, hR⟩ := q_xr hR
    refine k_rSV (As := [.int x3, .int (0 : Int32), .int (1000 : Int32)]) (rest := []) hx hb hml hown hts (cn_Room_requireWithin l D ca x3 (0 : Int32) (1000 : Int32) e12) kc_Room_requireWithin ks_Room_requireWithin tt_278 ⟨by decide, by decide⟩ rfl rfl hP hK [] rfl rfl hl.1 (Nat.le_of_ble_eq_true rfl) rfl nd_Room_risk_41 ⟨Nat.zero_le _, Nat.zero_le _⟩ ?_
    replace hR := q_lr hR
    refine lv_aload_n hx hb nd_Room_risk_44 rfl (lv_at hl 0 rfl) ?_
    refine va_get (D := D) (ci := 8) (v := .ref qrisks) (C := nR_Room) (T := nT_Room) (N := 7) hx hb hts ni_Room hown hK hP 0 rfl rfl 2 (by decide) (hts (.fieldLink nR_Room 26 "RoomClimate" "risks" "[LRoomClimate$Steps;") tt_224) (fun _ h9 => h9) rfl nd_Room_risk_45 ?_
    refine lv_iload_n hx hb nd_Room_risk_48 rfl (lv_at hl 1 rfl) ?_
    refine k_aldq (k := 1) hx hb hK hP 1 3 rfl rfl c8 (by decide) (by decide) rfl nd_Room_risk_49 ?_
    refine lv_iload_n hx hb nd_Room_risk_50 rfl (lv_at hl 2 rfl) ?_
    refine lv_iload_n hx hb nd_Room_risk_51 rfl (lv_at hl 3 rfl) ?_
    obtain ⟨r13, u13_0, u13_1, u13_2, e13, hR⟩ := q_b4 hR
    refine k_wVI (wr := [oc_Room qa0 qhouse qtrial qrisks qriskPoints qrules qgauge hoursGone_, aS qrisks ca (rq4 qrisks0 qrisks1 qrisks2 qrisks3), oc_Steps qrisks0 qlevels qamounts size_, aI qlevels ca 5 levels_, aI qamounts ca 5 amounts_, oc_Steps qrisks2 qlevels3 qamounts3 size_3, aI qlevels3 ca 5 levels_3, aI qamounts3 ca 5 amounts_3, oc_Steps qrisks3 qlevels4 qamounts4 size_4, aI qlevels4 ca 5 levels_4, aI qamounts4 ca 5 amounts_4]) (w2 := [oc_Room qa0 qhouse qtrial qrisks qriskPoints qrules qgauge hoursGone_, aS qrisks ca (rq4 qrisks0 qrisks1 qrisks2 qrisks3), oc_Steps qrisks0 qlevels qamounts size_, aI qlevels ca 5 levels_, aI qamounts ca 5 amounts_, oc_Steps qrisks1 qlevels2 qamounts2 u13_2, aI qlevels2 ca 5 u13_0, aI qamounts2 ca 5 u13_1, oc_Steps qrisks2 qlevels3 qamounts3 size_3, aI qlevels3 ca 5 levels_3, aI qamounts3 ca 5 amounts_3, oc_Steps qrisks3 qlevels4 qamounts4 size_4, aI qlevels4 ca 5 levels_4, aI qamounts4 ca 5 amounts_4]) (As := [.int x2, .int x3]) (rest := []) (r := r13) hx hb hml hown hts (cn_Steps_append l D ca qrisks1 qlevels2 qamounts2 size_2 levels_2 amounts_2 5 x2 x3 r13 u13_0 u13_1 u13_2 e13 _) kc_Steps_append kv_Steps_append tt_404 ⟨by decide, by decide⟩ rfl rfl hP hK hD hS hA [5, 6, 7] [0, 1, 2, 3, 4, 8, 9, 10, 11, 12, 13] [0, 1, 2, 3, 4, 11, 12, 13, 5, 6, 7, 8, 9, 10] rfl (by decide) rfl (by decide) (by decide) rfl (by decide) 0 rfl rfl rfl rfl hl.1 (Nat.le_of_ble_eq_true rfl) rfl nd_Room_risk_52 ⟨Nat.zero_le _, Nat.zero_le _⟩ (fun H locs hP hD hS => ?_)
    exact hret (r13, levels_, amounts_, size_, u13_0, u13_1, u13_2, levels_3, amounts_3, size_3, levels_4, amounts_4, size_4) _ _ _ _ nd_Room_risk_55 hR hP hD hS
  replace hR := q_n c8 hR
  by_cases c14 : x1 = 2
  · replace hR := q_p c14 hR
    refine k_aldq (k := 2) hx hb hK hP 1 3 rfl rfl c14 (by decide) (by decide) rfl nd_Room_risk_10 ?_
    refine va_getN (D := D) (ci := 6) (v := .int size_3) (C := nR_Steps) (T := nT_Steps) (N := 3) hx hb hts ni_Steps hown hK hP 8 rfl rfl 2 (by decide) (hts (.fieldLinkNest nR_Room 98 "RoomClimate$Steps" "size" "I" "RoomClimate") tt_35) (fun _ h9 => h9) rfl nd_Room_risk_11 ?_
    refine lv_iconst (v := 5) hx hb nd_Room_risk_14 (by decide) ?_
    obtain ⟨e15, hR⟩ := q_xr hR
    refine k_rSV (As := [.int size_3, .int (5 : Int32)]) (rest := []) hx hb hml hown hts (cn_Room_requireSpace l D ca size_3 (5 : Int32) e15) kc_Room_requireSpace ks_Room_requireSpace tt_357 ⟨by decide, by decide⟩ rfl rfl hP hK [] rfl rfl hl.1 (Nat.le_of_ble_eq_true rfl) rfl nd_Room_risk_15 ⟨Nat.zero_le _, Nat.zero_le _⟩ ?_
    refine lv_iload_n hx hb nd_Room_risk_18 rfl (lv_at hl 2 rfl) ?_
    refine lv_ldc hx hb hown (hts _ tt_435) nd_Room_risk_19 ?_
    refine lv_ldc hx hb hown (hts _ tt_395) nd_Room_risk_21 ?_
    obtain ⟨e16, hR⟩ := q_xr hR
    refine k_rSV (As := [.int x2, .int (-60000 : Int32), .int (60000 : Int32)]) (rest := []) hx hb hml hown hts (cn_Room_requireWithin l D ca x2 (-60000 : Int32) (60000 : Int32) e16) kc_Room_requireWithin ks_Room_requireWithin tt_278 ⟨by decide, by decide⟩ rfl rfl hP hK [] rfl rfl hl.1 (Nat.le_of_ble_eq_true rfl) rfl nd_Room_risk_23 ⟨Nat.zero_le _, Nat.zero_le _⟩ ?_
    refine lv_aload_n hx hb nd_Room_risk_26 rfl (lv_at hl 0 rfl) ?_
    refine va_get (D := D) (ci := 8) (v := .ref qrisks) (C := nR_Room) (T := nT_Room) (N := 7) hx hb hts ni_Room hown hK hP 0 rfl rfl 2 (by decide) (hts (.fieldLink nR_Room 26 "RoomClimate" "risks" "[LRoomClimate$Steps;") tt_224) (fun _ h9 => h9) rfl nd_Room_risk_27 ?_
    refine lv_iload_n hx hb nd_Room_risk_30 rfl (lv_at hl 1 rfl) ?_
    refine k_aldq (k := 2) hx hb hK hP 1 3 rfl rfl c14 (by decide) (by decide) rfl nd_Room_risk_31 ?_
    refine lv_iload_n hx hb nd_Room_risk_32 rfl (lv_at hl 2 rfl) ?_
    obtain ⟨e17, hR⟩ := q_xr hR
    refine k_rSV (As := [.ref qrisks2, .int x2]) (rest := []) hx hb hml hown hts (cn_Room_requireRise l D ca qrisks2 qlevels3 qamounts3 size_3 levels_3 5 x2 e17) kc_Room_requireRise ks_Room_requireRise tt_396 ⟨by decide, by decide⟩ rfl rfl hP hK [8, 9] rfl rfl hl.1 (Nat.le_of_ble_eq_true rfl) rfl nd_Room_risk_33 ⟨Nat.zero_le _, Nat.zero_le _⟩ ?_
    refine lv_iload_n hx hb nd_Room_risk_36 rfl (lv_at hl 3 rfl) ?_
    refine lv_iconst (v := 0) hx hb nd_Room_risk_37 (by decide) ?_
    refine lv_sipush (v := 1000) hx hb nd_Room_risk_38 (by decide) ?_
    obtain ⟨e18, hR⟩ := q_xr hR
    refine k_rSV (As := [.int x3, .int (0 : Int32), .int (1000 : Int32)]) (rest := []) hx hb hml hown hts (cn_Room_requireWithin l D ca x3 (0 : Int32) (1000 : Int32) e18) kc_Room_requireWithin ks_Room_requireWithin tt_278 ⟨by decide, by decide⟩ rfl rfl hP hK [] rfl rfl hl.1 (Nat.le_of_ble_eq_true rfl) rfl nd_Room_risk_41 ⟨Nat.zero_le _, Nat.zero_le _⟩ ?_
    replace hR := q_lr hR
    refine lv_aload_n hx hb nd_Room_risk_44 rfl (lv_at hl 0 rfl) ?_
    refine va_get (D := D) (ci := 8) (v := .ref qrisks) (C := nR_Room) (T := nT_Room) (N := 7) hx hb hts ni_Room hown hK hP 0 rfl rfl 2 (by decide) (hts (.fieldLink nR_Room 26 "RoomClimate" "risks" "[LRoomClimate$Steps;") tt_224) (fun _ h9 => h9) rfl nd_Room_risk_45 ?_
    refine lv_iload_n hx hb nd_Room_risk_48 rfl (lv_at hl 1 rfl) ?_
    refine k_aldq (k := 2) hx hb hK hP 1 3 rfl rfl c14 (by decide) (by decide) rfl nd_Room_risk_49 ?_
    refine lv_iload_n hx hb nd_Room_risk_50 rfl (lv_at hl 2 rfl) ?_
    refine lv_iload_n hx hb nd_Room_risk_51 rfl (lv_at hl 3 rfl) ?_
    obtain ⟨r19, u19_0, u19_1, u19_2, e19, hR⟩ := q_b4 hR
    refine k_wVI (wr := [oc_Room qa0 qhouse qtrial qrisks qriskPoints qrules qgauge hoursGone_, aS qrisks ca (rq4 qrisks0 qrisks1 qrisks2 qrisks3), oc_Steps qrisks0 qlevels qamounts size_, aI qlevels ca 5 levels_, aI qamounts ca 5 amounts_, oc_Steps qrisks1 qlevels2 qamounts2 size_2, aI qlevels2 ca 5 levels_2, aI qamounts2 ca 5 amounts_2, oc_Steps qrisks3 qlevels4 qamounts4 size_4, aI qlevels4 ca 5 levels_4, aI qamounts4 ca 5 amounts_4]) (w2 := [oc_Room qa0 qhouse qtrial qrisks qriskPoints qrules qgauge hoursGone_, aS qrisks ca (rq4 qrisks0 qrisks1 qrisks2 qrisks3), oc_Steps qrisks0 qlevels qamounts size_, aI qlevels ca 5 levels_, aI qamounts ca 5 amounts_, oc_Steps qrisks1 qlevels2 qamounts2 size_2, aI qlevels2 ca 5 levels_2, aI qamounts2 ca 5 amounts_2, oc_Steps qrisks2 qlevels3 qamounts3 u19_2, aI qlevels3 ca 5 u19_0, aI qamounts3 ca 5 u19_1, oc_Steps qrisks3 qlevels4 qamounts4 size_4, aI qlevels4 ca 5 levels_4, aI qamounts4 ca 5 amounts_4]) (As := [.int x2, .int x3]) (rest := []) (r := r19) hx hb hml hown hts (cn_Steps_append l D ca qrisks2 qlevels3 qamounts3 size_3 levels_3 amounts_3 5 x2 x3 r19 u19_0 u19_1 u19_2 e19 _) kc_Steps_append kv_Steps_append tt_404 ⟨by decide, by decide⟩ rfl rfl hP hK hD hS hA [8, 9, 10] [0, 1, 2, 3, 4, 5, 6, 7, 11, 12, 13] [0, 1, 2, 3, 4, 5, 6, 7, 11, 12, 13, 8, 9, 10] rfl (by decide) rfl (by decide) (by decide) rfl (by decide) 0 rfl rfl rfl rfl hl.1 (Nat.le_of_ble_eq_true rfl) rfl nd_Room_risk_52 ⟨Nat.zero_le _, Nat.zero_le _⟩ (fun H locs hP hD hS => ?_)
    exact hret (r19, levels_, amounts_, size_, levels_2, amounts_2, size_2, u19_0, u19_1, u19_2, levels_4, amounts_4, size_4) _ _ _ _ nd_Room_risk_55 hR hP hD hS
  replace hR := q_n c14 hR
  by_cases c20 : x1 = 3
  · replace hR := q_p c20 hR
    refine k_aldq (k := 3) hx hb hK hP 1 3 rfl rfl c20 (by decide) (by decide) rfl nd_Room_risk_10 ?_
    refine va_getN (D := D) (ci := 6) (v := .int size_4) (C := nR_Steps) (T := nT_Steps) (N := 3) hx hb hts ni_Steps hown hK hP 11 rfl rfl 2 (by decide) (hts (.fieldLinkNest nR_Room 98 "RoomClimate$Steps" "size" "I" "RoomClimate") tt_35) (fun _ h9 => h9) rfl nd_Room_risk_11 ?_
    refine lv_iconst (v := 5) hx hb nd_Room_risk_14 (by decide) ?_
    obtain ⟨e21, hR⟩ := q_xr hR
    refine k_rSV (As := [.int size_4, .int (5 : Int32)]) (rest := []) hx hb hml hown hts (cn_Room_requireSpace l D ca size_4 (5 : Int32) e21) kc_Room_requireSpace ks_Room_requireSpace tt_357 ⟨by decide, by decide⟩ rfl rfl hP hK [] rfl rfl hl.1 (Nat.le_of_ble_eq_true rfl) rfl nd_Room_risk_15 ⟨Nat.zero_le _, Nat.zero_le _⟩ ?_
    refine lv_iload_n hx hb nd_Room_risk_18 rfl (lv_at hl 2 rfl) ?_
    refine lv_ldc hx hb hown (hts _ tt_435) nd_Room_risk_19 ?_
    refine lv_ldc hx hb hown (hts _ tt_395) nd_Room_risk_21 ?_
    obtain ⟨e22, hR⟩ := q_xr hR
    refine k_rSV (As := [.int x2, .int (-60000 : Int32), .int (60000 : Int32)]) (rest := []) hx hb hml hown hts (cn_Room_requireWithin l D ca x2 (-60000 : Int32) (60000 : Int32) e22) kc_Room_requireWithin ks_Room_requireWithin tt_278 ⟨by decide, by decide⟩ rfl rfl hP hK [] rfl rfl hl.1 (Nat.le_of_ble_eq_true rfl) rfl nd_Room_risk_23 ⟨Nat.zero_le _, Nat.zero_le _⟩ ?_
    refine lv_aload_n hx hb nd_Room_risk_26 rfl (lv_at hl 0 rfl) ?_
    refine va_get (D := D) (ci := 8) (v := .ref qrisks) (C := nR_Room) (T := nT_Room) (N := 7) hx hb hts ni_Room hown hK hP 0 rfl rfl 2 (by decide) (hts (.fieldLink nR_Room 26 "RoomClimate" "risks" "[LRoomClimate$Steps;") tt_224) (fun _ h9 => h9) rfl nd_Room_risk_27 ?_
    refine lv_iload_n hx hb nd_Room_risk_30 rfl (lv_at hl 1 rfl) ?_
    refine k_aldq (k := 3) hx hb hK hP 1 3 rfl rfl c20 (by decide) (by decide) rfl nd_Room_risk_31 ?_
    refine lv_iload_n hx hb nd_Room_risk_32 rfl (lv_at hl 2 rfl) ?_
    obtain ⟨e23, hR⟩ := q_xr hR
    refine k_rSV (As := [.ref qrisks3, .int x2]) (rest := []) hx hb hml hown hts (cn_Room_requireRise l D ca qrisks3 qlevels4 qamounts4 size_4 levels_4 5 x2 e23) kc_Room_requireRise ks_Room_requireRise tt_396 ⟨by decide, by decide⟩ rfl rfl hP hK [11, 12] rfl rfl hl.1 (Nat.le_of_ble_eq_true rfl) rfl nd_Room_risk_33 ⟨Nat.zero_le _, Nat.zero_le _⟩ ?_
    refine lv_iload_n hx hb nd_Room_risk_36 rfl (lv_at hl 3 rfl) ?_
    refine lv_iconst (v := 0) hx hb nd_Room_risk_37 (by decide) ?_
    refine lv_sipush (v := 1000) hx hb nd_Room_risk_38 (by decide) ?_
    obtain ⟨e24, hR⟩ := q_xr hR
    refine k_rSV (As := [.int x3, .int (0 : Int32), .int (1000 : Int32)]) (rest := []) hx hb hml hown hts (cn_Room_requireWithin l D ca x3 (0 : Int32) (1000 : Int32) e24) kc_Room_requireWithin ks_Room_requireWithin tt_278 ⟨by decide, by decide⟩ rfl rfl hP hK [] rfl rfl hl.1 (Nat.le_of_ble_eq_true rfl) rfl nd_Room_risk_41 ⟨Nat.zero_le _, Nat.zero_le _⟩ ?_
    replace hR := q_lr hR
    refine lv_aload_n hx hb nd_Room_risk_44 rfl (lv_at hl 0 rfl) ?_
    refine va_get (D := D) (ci := 8) (v := .ref qrisks) (C := nR_Room) (T := nT_Room) (N := 7) hx hb hts ni_Room hown hK hP 0 rfl rfl 2 (by decide) (hts (.fieldLink nR_Room 26 "RoomClimate" "risks" "[LRoomClimate$Steps;") tt_224) (fun _ h9 => h9) rfl nd_Room_risk_45 ?_
    refine lv_iload_n hx hb nd_Room_risk_48 rfl (lv_at hl 1 rfl) ?_
    refine k_aldq (k := 3) hx hb hK hP 1 3 rfl rfl c20 (by decide) (by decide) rfl nd_Room_risk_49 ?_
    refine lv_iload_n hx hb nd_Room_risk_50 rfl (lv_at hl 2 rfl) ?_
    refine lv_iload_n hx hb nd_Room_risk_51 rfl (lv_at hl 3 rfl) ?_
    obtain ⟨r25, u25_0, u25_1, u25_2, e25, hR⟩ := q_b4 hR
    refine k_wVI (wr := [oc_Room qa0 qhouse qtrial qrisks qriskPoints qrules qgauge hoursGone_, aS qrisks ca (rq4 qrisks0 qrisks1 qrisks2 qrisks3), oc_Steps qrisks0 qlevels qamounts size_, aI qlevels ca 5 levels_, aI qamounts ca 5 amounts_, oc_Steps qrisks1 qlevels2 qamounts2 size_2, aI qlevels2 ca 5 levels_2, aI qamounts2 ca 5 amounts_2, oc_Steps qrisks2 qlevels3 qamounts3 size_3, aI qlevels3 ca 5 levels_3, aI qamounts3 ca 5 amounts_3]) (w2 := [oc_Room qa0 qhouse qtrial qrisks qriskPoints qrules qgauge hoursGone_, aS qrisks ca (rq4 qrisks0 qrisks1 qrisks2 qrisks3), oc_Steps qrisks0 qlevels qamounts size_, aI qlevels ca 5 levels_, aI qamounts ca 5 amounts_, oc_Steps qrisks1 qlevels2 qamounts2 size_2, aI qlevels2 ca 5 levels_2, aI qamounts2 ca 5 amounts_2, oc_Steps qrisks2 qlevels3 qamounts3 size_3, aI qlevels3 ca 5 levels_3, aI qamounts3 ca 5 amounts_3, oc_Steps qrisks3 qlevels4 qamounts4 u25_2, aI qlevels4 ca 5 u25_0, aI qamounts4 ca 5 u25_1]) (As := [.int x2, .int x3]) (rest := []) (r := r25) hx hb hml hown hts (cn_Steps_append l D ca qrisks3 qlevels4 qamounts4 size_4 levels_4 amounts_4 5 x2 x3 r25 u25_0 u25_1 u25_2 e25 _) kc_Steps_append kv_Steps_append tt_404 ⟨by decide, by decide⟩ rfl rfl hP hK hD hS hA [11, 12, 13] [0, 1, 2, 3, 4, 5, 6, 7, 8, 9, 10] [0, 1, 2, 3, 4, 5, 6, 7, 8, 9, 10, 11, 12, 13] rfl (by decide) rfl (by decide) (by decide) rfl (by decide) 0 rfl rfl rfl rfl hl.1 (Nat.le_of_ble_eq_true rfl) rfl nd_Room_risk_52 ⟨Nat.zero_le _, Nat.zero_le _⟩ (fun H locs hP hD hS => ?_)
    exact hret (r25, levels_, amounts_, size_, levels_2, amounts_2, size_2, levels_3, amounts_3, size_3, u25_0, u25_1, u25_2) _ _ _ _ nd_Room_risk_55 hR hP hD hS
  replace hR := q_n c20 hR
  exact nomatch hR
def rm_Room_points : Room := { frames := 9, cells := 0, slots := 0, locals := 161 }
theorem kc_Room_points : k_cal nY_Room_points nC_Room_points 2 (some .int) 1 := ⟨tt_584, tt_1, by decide +kernel⟩
theorem kv_Room_points : k_vir nY_Room_points := ⟨tt_582, tt_583⟩
set_option maxHeartbeats 4000000 in
set_option maxRecDepth 100000 in
theorem cn_Room_points (l : Launch) (D : va_G) (ca : Nat → ClassId) (qa0 qhouse qtrial qrisks qriskPoints qrules qgauge : Nat) (hoursGone_ : Int32) (riskPoints_ : Nat → Int32) (x1 : Int32) (R0 : Int32) (hR : fn_Room_points riskPoints_ x1 = some (.inr R0)) : Met l nY_Room_points (Cond.code nY_Room_points nC_Room_points 2 (some .int) :: TT) rm_Room_points (rd_P [.ref qa0, .int x1] D ca [oc_Room qa0 qhouse qtrial qrisks qriskPoints qrules qgauge hoursGone_, aI qriskPoints ca 4 riskPoints_]) (vp_Si (fun x => x = R0)) 0 0 (fun _ => False) := by
  refine rd_ofI (by decide +kernel) (Nat.le_of_ble_eq_true rfl) ?_
  intro p e s m below meth c Q ar ls hx hb hml hts hown hP hK hl hret
  have hown : s.vm.findClass nR_Room = some m.cls := hown
  have hl : lv_has ls 2 [(0, .ref qa0), (1, .int x1)] := hl
  unfold fn_Room_points at hR
  refine lv_iload_n hx hb nd_Room_points_0 rfl (lv_at hl 1 rfl) ?_
  refine lv_iconst (v := 4) hx hb nd_Room_points_1 (by decide) ?_
  obtain ⟨e1, hR⟩ := q_xr hR
  refine k_rSV (As := [.int x1, .int (4 : Int32)]) (rest := []) hx hb hml hown hts (cn_Room_requireIndex l D ca x1 (4 : Int32) e1) kc_Room_requireIndex ks_Room_requireIndex tt_416 ⟨by decide, by decide⟩ rfl rfl hP hK [] rfl rfl hl.1 (Nat.le_of_ble_eq_true rfl) rfl nd_Room_points_2 ⟨Nat.zero_le _, Nat.zero_le _⟩ ?_
  replace hR := q_lr hR
  refine lv_aload_n hx hb nd_Room_points_5 rfl (lv_at hl 0 rfl) ?_
  refine va_get (D := D) (ci := 8) (v := .ref qriskPoints) (C := nR_Room) (T := nT_Room) (N := 7) hx hb hts ni_Room hown hK hP 0 rfl rfl 3 (by decide) (hts (.fieldLink nR_Room 30 "RoomClimate" "riskPoints" "[I") tt_225) (fun _ h9 => h9) rfl nd_Room_points_6 ?_
  refine lv_iload_n hx hb nd_Room_points_9 rfl (lv_at hl 1 rfl) ?_
  obtain ⟨h2, hR⟩ := q_ix hR
  refine va_iald hx hb hK hP 1 0 rfl rfl h2 nd_Room_points_10 ?_
  exact hret _ _ _ nd_Room_points_11 (Option.some.inj hR)
def rm_Room_rule : Room := { frames := 9, cells := 0, slots := 0, locals := 162 }
theorem kc_Room_rule : k_cal nY_Room_rule nC_Room_rule 4 (some .int) 3 := ⟨tt_591, tt_1, by decide +kernel⟩
theorem kv_Room_rule : k_vir nY_Room_rule := ⟨tt_589, tt_590⟩
set_option maxHeartbeats 4000000 in
set_option maxRecDepth 100000 in
theorem cn_Room_rule (l : Launch) (D : va_G) (ca : Nat → ClassId) (qa0 qhouse qtrial qrisks qriskPoints qrules qgauge qkinds qlevels qholds qalarmCounts qalarmHours : Nat) (hoursGone_ : Int32) (size_ : Int32) (kinds_ : Nat → Int32) (levels_ : Nat → Int32) (holds_ : Nat → Int32) (x1 : Int32) (x2 : Int32) (x3 : Int32) (R0 : Int32) (R1 : Nat → Int32) (R2 : Nat → Int32) (R3 : Nat → Int32) (R4 : Int32) (hR : fn_Room_rule size_ kinds_ levels_ holds_ x1 x2 x3 = some (.inr (R0, R1, R2, R3, R4))) (sz : Nat) : Met l nY_Room_rule (Cond.code nY_Room_rule nC_Room_rule 4 (some .int) :: TT) rm_Room_rule (wr_P [.ref qa0, .int x1, .int x2, .int x3] D ca [oc_Room qa0 qhouse qtrial qrisks qriskPoints qrules qgauge hoursGone_, oc_Rules qrules qkinds qlevels qholds qalarmCounts qalarmHours size_, aI qkinds ca 4 kinds_, aI qlevels ca 4 levels_, aI qholds ca 4 holds_] sz) (va_Qi (fun x (_ : Unit) => x = R0) (wr_B D [oc_Room qa0 qhouse qtrial qrisks qriskPoints qrules qgauge hoursGone_, oc_Rules qrules qkinds qlevels qholds qalarmCounts qalarmHours size_, aI qkinds ca 4 kinds_, aI qlevels ca 4 levels_, aI qholds ca 4 holds_] sz [oc_Room qa0 qhouse qtrial qrisks qriskPoints qrules qgauge hoursGone_, oc_Rules qrules qkinds qlevels qholds qalarmCounts qalarmHours R4, aI qkinds ca 4 R1, aI qlevels ca 4 R2, aI qholds ca 4 R3]) (va_A [oc_Room qa0 qhouse qtrial qrisks qriskPoints qrules qgauge hoursGone_, oc_Rules qrules qkinds qlevels qholds qalarmCounts qalarmHours size_, aI qkinds ca 4 kinds_, aI qlevels ca 4 levels_, aI qholds ca 4 holds_] sz)) 0 0 (va_A [oc_Room qa0 qhouse qtrial qrisks qriskPoints qrules qgauge hoursGone_, oc_Rules qrules qkinds qlevels qholds qalarmCounts qalarmHours size_, aI qkinds ca 4 kinds_, aI qlevels ca 4 levels_, aI qholds ca 4 holds_] sz) := by
  refine wr_ofI (R := (R0, R1, R2, R3, R4)) (val := fun r => r.1) (w1 := fun r : Int32 × (Nat → Int32) × (Nat → Int32) × (Nat → Int32) × Int32 => [oc_Room qa0 qhouse qtrial qrisks qriskPoints qrules qgauge hoursGone_, oc_Rules qrules qkinds qlevels qholds qalarmCounts qalarmHours r.2.2.2.2, aI qkinds ca 4 r.2.1, aI qlevels ca 4 r.2.2.1, aI qholds ca 4 r.2.2.2.1]) (by decide +kernel) (Nat.le_of_ble_eq_true rfl) ?_
  intro p e s m below meth c Q ar ls hx hb hml hts hown hP hK A hD hA hl hret
  have hS : va_S A s.heap s.heap [] := va_S.rf
  have hown : s.vm.findClass nR_Room = some m.cls := hown
  have hl : lv_has ls 4 [(0, .ref qa0), (1, .int x1), (2, .int x2), (3, .int x3)] := hl
  unfold fn_Room_rule at hR
  refine lv_aload_n hx hb nd_Room_rule_0 rfl (lv_at hl 0 rfl) ?_
  refine va_get (D := D) (ci := 8) (v := .ref qrules) (C := nR_Room) (T := nT_Room) (N := 7) hx hb hts ni_Room hown hK hP 0 rfl rfl 4 (by decide) (hts (.fieldLink nR_Room 37 "RoomClimate" "rules" "LRoomClimate$Rules;") tt_226) (fun _ h9 => h9) rfl nd_Room_rule_1 ?_
  refine va_getN (D := D) (ci := 5) (v := .int size_) (C := nR_Rules) (T := nT_Rules) (N := 6) hx hb hts ni_Rules hown hK hP 1 rfl rfl 5 (by decide) (hts (.fieldLinkNest nR_Room 169 "RoomClimate$Rules" "size" "I" "RoomClimate") tt_183) (fun _ h9 => h9) rfl nd_Room_rule_4 ?_
  refine lv_iconst (v := 4) hx hb nd_Room_rule_7 (by decide) ?_
  obtain ⟨e1, hR⟩ := q_xr hR
  refine k_rSV (As := [.int size_, .int (4 : Int32)]) (rest := []) hx hb hml hown hts (cn_Room_requireSpace l D ca size_ (4 : Int32) e1) kc_Room_requireSpace ks_Room_requireSpace tt_357 ⟨by decide, by decide⟩ rfl rfl hP hK [] rfl rfl hl.1 (Nat.le_of_ble_eq_true rfl) rfl nd_Room_rule_8 ⟨Nat.zero_le _, Nat.zero_le _⟩ ?_
  refine lv_iload_n hx hb nd_Room_rule_11 rfl (lv_at hl 1 rfl) ?_
  refine lv_iconst (v := 0) hx hb nd_Room_rule_12 (by decide) ?_
  refine lv_iconst (v := 3) hx hb nd_Room_rule_13 (by decide) ?_
  obtain ⟨e2, hR⟩ := q_xr hR
  refine k_rSV (As := [.int x1, .int (0 : Int32), .int (3 : Int32)]) (rest := []) hx hb hml hown hts (cn_Room_requireWithin l D ca x1 (0 : Int32) (3 : Int32) e2) kc_Room_requireWithin ks_Room_requireWithin tt_278 ⟨by decide, by decide⟩ rfl rfl hP hK [] rfl rfl hl.1 (Nat.le_of_ble_eq_true rfl) rfl nd_Room_rule_14 ⟨Nat.zero_le _, Nat.zero_le _⟩ ?_
  refine lv_iload_n hx hb nd_Room_rule_17 rfl (lv_at hl 2 rfl) ?_
  refine lv_ldc hx hb hown (hts _ tt_435) nd_Room_rule_18 ?_
  refine lv_ldc hx hb hown (hts _ tt_395) nd_Room_rule_20 ?_
  obtain ⟨e3, hR⟩ := q_xr hR
  refine k_rSV (As := [.int x2, .int (-60000 : Int32), .int (60000 : Int32)]) (rest := []) hx hb hml hown hts (cn_Room_requireWithin l D ca x2 (-60000 : Int32) (60000 : Int32) e3) kc_Room_requireWithin ks_Room_requireWithin tt_278 ⟨by decide, by decide⟩ rfl rfl hP hK [] rfl rfl hl.1 (Nat.le_of_ble_eq_true rfl) rfl nd_Room_rule_22 ⟨Nat.zero_le _, Nat.zero_le _⟩ ?_
  refine lv_iload_n hx hb nd_Room_rule_25 rfl (lv_at hl 3 rfl) ?_
  refine lv_iconst (v := 1) hx hb nd_Room_rule_26 (by decide) ?_
  refine lv_bipush (v := 99) hx hb nd_Room_rule_27 (by decide) ?_
  obtain ⟨e4, hR⟩ := q_xr hR
  refine k_rSV (As := [.int x3, .int (1 : Int32), .int (99 : Int32)]) (rest := []) hx hb hml hown hts (cn_Room_requireWithin l D ca x3 (1 : Int32) (99 : Int32) e4) kc_Room_requireWithin ks_Room_requireWithin tt_278 ⟨by decide, by decide⟩ rfl rfl hP hK [] rfl rfl hl.1 (Nat.le_of_ble_eq_true rfl) rfl nd_Room_rule_29 ⟨Nat.zero_le _, Nat.zero_le _⟩ ?_
  replace hR := q_lr hR
  refine lv_aload_n hx hb nd_Room_rule_32 rfl (lv_at hl 0 rfl) ?_
  refine va_get (D := D) (ci := 8) (v := .ref qrules) (C := nR_Room) (T := nT_Room) (N := 7) hx hb hts ni_Room hown hK hP 0 rfl rfl 4 (by decide) (hts (.fieldLink nR_Room 37 "RoomClimate" "rules" "LRoomClimate$Rules;") tt_226) (fun _ h9 => h9) rfl nd_Room_rule_33 ?_
  refine lv_iload_n hx hb nd_Room_rule_36 rfl (lv_at hl 1 rfl) ?_
  refine lv_iload_n hx hb nd_Room_rule_37 rfl (lv_at hl 2 rfl) ?_
  refine lv_iload_n hx hb nd_Room_rule_38 rfl (lv_at hl 3 rfl) ?_
  obtain ⟨r5, u5_0, u5_1, u5_2, u5_3, e5, hR⟩ := q_b5 hR
  refine k_wVI (wr := [oc_Room qa0 qhouse qtrial qrisks qriskPoints qrules qgauge hoursGone_]) (w2 := [oc_Room qa0 qhouse qtrial qrisks qriskPoints qrules qgauge hoursGone_, oc_Rules qrules qkinds qlevels qholds qalarmCounts qalarmHours u5_3, aI qkinds ca 4 u5_0, aI qlevels ca 4 u5_1, aI qholds ca 4 u5_2]) (As := [.int x1, .int x2, .int x3]) (rest := []) (r := r5) hx hb hml hown hts (cn_Rules_append l D ca qrules qkinds qlevels qholds qalarmCounts qalarmHours size_ kinds_ levels_ holds_ x1 x2 x3 r5 u5_0 u5_1 u5_2 u5_3 e5 _) kc_Rules_append kv_Rules_append tt_592 ⟨by decide, by decide⟩ rfl rfl hP hK hD hS hA [1, 2, 3, 4] [0] [0, 1, 2, 3, 4] rfl (by decide) rfl (by decide) (by decide) rfl (by decide) 0 rfl rfl rfl rfl hl.1 (Nat.le_of_ble_eq_true rfl) rfl nd_Room_rule_39 ⟨Nat.zero_le _, Nat.zero_le _⟩ (fun H locs hP hD hS => ?_)
  exact hret (r5, u5_0, u5_1, u5_2, u5_3) _ _ _ _ nd_Room_rule_42 hR hP hD hS
def rm_Room_alarm : Room := { frames := 9, cells := 0, slots := 0, locals := 161 }
theorem kc_Room_alarm : k_cal nY_Room_alarm nC_Room_alarm 4 (some .int) 2 := ⟨tt_602, tt_1, by decide +kernel⟩
theorem kv_Room_alarm : k_vir nY_Room_alarm := ⟨tt_600, tt_601⟩
set_option maxHeartbeats 4000000 in
set_option maxRecDepth 100000 in
theorem cn_Room_alarm (l : Launch) (D : va_G) (ca : Nat → ClassId) (qa0 qhouse qtrial qrisks qriskPoints qrules qgauge qkinds qlevels qholds qalarmCounts qalarmHours qalarmHours0 qalarmHours1 qalarmHours2 qalarmHours3 : Nat) (hoursGone_ : Int32) (size_ : Int32) (alarmCounts_ : Nat → Int32) (alarmHours0_ : Nat → Int32) (alarmHours1_ : Nat → Int32) (alarmHours2_ : Nat → Int32) (alarmHours3_ : Nat → Int32) (x1 : Int32) (x2 : Int32) (R0 : Int32) (hR : fn_Room_alarm size_ alarmCounts_ alarmHours0_ alarmHours1_ alarmHours2_ alarmHours3_ x1 x2 = some (.inr R0)) : Met l nY_Room_alarm (Cond.code nY_Room_alarm nC_Room_alarm 4 (some .int) :: TT) rm_Room_alarm (rd_P [.ref qa0, .int x1, .int x2] D ca [oc_Room qa0 qhouse qtrial qrisks qriskPoints qrules qgauge hoursGone_, oc_Rules qrules qkinds qlevels qholds qalarmCounts qalarmHours size_, aI qalarmCounts ca 4 alarmCounts_, aG qalarmHours ca (rq4 qalarmHours0 qalarmHours1 qalarmHours2 qalarmHours3), aI qalarmHours0 ca 300 alarmHours0_, aI qalarmHours1 ca 300 alarmHours1_, aI qalarmHours2 ca 300 alarmHours2_, aI qalarmHours3 ca 300 alarmHours3_]) (vp_Si (fun x => x = R0)) 0 0 (fun _ => False) := by
  refine rd_ofI (by decide +kernel) (Nat.le_of_ble_eq_true rfl) ?_
  intro p e s m below meth c Q ar ls hx hb hml hts hown hP hK hl hret
  have hown : s.vm.findClass nR_Room = some m.cls := hown
  have hl : lv_has ls 4 [(0, .ref qa0), (1, .int x1), (2, .int x2)] := hl
  unfold fn_Room_alarm at hR
  refine lv_iload_n hx hb nd_Room_alarm_0 rfl (lv_at hl 1 rfl) ?_
  refine lv_aload_n hx hb nd_Room_alarm_1 rfl (lv_at hl 0 rfl) ?_
  refine va_get (D := D) (ci := 8) (v := .ref qrules) (C := nR_Room) (T := nT_Room) (N := 7) hx hb hts ni_Room hown hK hP 0 rfl rfl 4 (by decide) (hts (.fieldLink nR_Room 37 "RoomClimate" "rules" "LRoomClimate$Rules;") tt_226) (fun _ h9 => h9) rfl nd_Room_alarm_2 ?_
  refine va_getN (D := D) (ci := 5) (v := .int size_) (C := nR_Rules) (T := nT_Rules) (N := 6) hx hb hts ni_Rules hown hK hP 1 rfl rfl 5 (by decide) (hts (.fieldLinkNest nR_Room 169 "RoomClimate$Rules" "size" "I" "RoomClimate") tt_183) (fun _ h9 => h9) rfl nd_Room_alarm_5 ?_
  obtain ⟨e1, hR⟩ := q_xr hR
  refine k_rSV (As := [.int x1, .int size_]) (rest := []) hx hb hml hown hts (cn_Room_requireIndex l D ca x1 size_ e1) kc_Room_requireIndex ks_Room_requireIndex tt_416 ⟨by decide, by decide⟩ rfl rfl hP hK [] rfl rfl hl.1 (Nat.le_of_ble_eq_true rfl) rfl nd_Room_alarm_8 ⟨Nat.zero_le _, Nat.zero_le _⟩ ?_
  refine lv_iload_n hx hb nd_Room_alarm_11 rfl (lv_at hl 2 rfl) ?_
  refine lv_iconst (v := -1) hx hb nd_Room_alarm_12 (by decide) ?_
  refine lv_icmp_ge (tgt := 26) hx hb nd_Room_alarm_13 (by decide) (fun c2 => ?_) (fun c2 => ?_)
  · replace hR := q_p c2 hR
    replace hR := q_lr hR
    refine lv_aload_n hx hb nd_Room_alarm_26 rfl (lv_at hl 0 rfl) ?_
    refine va_get (D := D) (ci := 8) (v := .ref qrules) (C := nR_Room) (T := nT_Room) (N := 7) hx hb hts ni_Room hown hK hP 0 rfl rfl 4 (by decide) (hts (.fieldLink nR_Room 37 "RoomClimate" "rules" "LRoomClimate$Rules;") tt_226) (fun _ h9 => h9) rfl nd_Room_alarm_27 ?_
    refine va_getN (D := D) (ci := 5) (v := .ref qalarmCounts) (C := nR_Rules) (T := nT_Rules) (N := 6) hx hb hts ni_Rules hown hK hP 1 rfl rfl 3 (by decide) (hts (.fieldLinkNest nR_Room 180 "RoomClimate$Rules" "alarmCounts" "[I" "RoomClimate") tt_179) (fun _ h9 => h9) rfl nd_Room_alarm_30 ?_
    refine lv_iload_n hx hb nd_Room_alarm_33 rfl (lv_at hl 1 rfl) ?_
    obtain ⟨h3, hR⟩ := q_ix hR
    refine va_iald hx hb hK hP 2 0 rfl rfl h3 nd_Room_alarm_34 ?_
    refine lv_istore_n (lv' := [(3, .int (alarmCounts_ x1.toNatClampNeg)), (0, .ref qa0), (1, .int x1), (2, .int x2)]) hx hb nd_Room_alarm_35 rfl hl (by decide) rfl (fun ls hl => ?_)
    refine lv_iload_n hx hb nd_Room_alarm_36 rfl (lv_at hl 3 rfl) ?_
    refine lv_iconst (v := -1) hx hb nd_Room_alarm_37 (by decide) ?_
    refine lv_icmp_ne (tgt := 43) hx hb nd_Room_alarm_38 (by decide) (fun c4 => ?_) (fun c4 => ?_)
    · replace hR := q_n c4 hR
      refine lv_iload_n hx hb nd_Room_alarm_43 rfl (lv_at hl 3 rfl) ?_
      refine lv_iload_n hx hb nd_Room_alarm_44 rfl (lv_at hl 0 rfl) ?_
      refine lv_icmp_ge (tgt := 62) hx hb nd_Room_alarm_45 (by decide) (fun c5 => ?_) (fun c5 => ?_)
      · replace hR := q_p c5 hR
        refine lv_iconst (v := -1) hx hb nd_Room_alarm_62 (by decide) ?_
        exact hret _ _ _ nd_Room_alarm_63 (Option.some.inj hR)
      · replace hR := q_n c5 hR
        refine lv_aload_n hx hb nd_Room_alarm_48 rfl (lv_at hl 1 rfl) ?_
        refine va_get (D := D) (ci := 8) (v := .ref qrules) (C := nR_Room) (T := nT_Room) (N := 7) hx hb hts ni_Room hown hK hP 0 rfl rfl 4 (by decide) (hts (.fieldLink nR_Room 37 "RoomClimate" "rules" "LRoomClimate$Rules;") tt_226) (fun _ h9 => h9) rfl nd_Room_alarm_49 ?_
        refine va_getN (D := D) (ci := 5) (v := .ref qalarmHours) (C := nR_Rules) (T := nT_Rules) (N := 6) hx hb hts ni_Rules hown hK hP 1 rfl rfl 4 (by decide) (hts (.fieldLinkNest nR_Room 183 "RoomClimate$Rules" "alarmHours" "[[I" "RoomClimate") tt_181) (fun _ h9 => h9) rfl nd_Room_alarm_52 ?_
        refine lv_iload_n hx hb nd_Room_alarm_55 rfl (lv_at hl 2 rfl) ?_
        by_cases c6 : x1 = 0
        · replace hR := q_p c6 hR
          refine k_aldqA (k := 0) hx hb hK hP 3 4 rfl rfl c6 (by decide) (by decide) rfl nd_Room_alarm_56 ?_
          refine lv_iload_n hx hb nd_Room_alarm_57 rfl (lv_at hl 3 rfl) ?_
          obtain ⟨h7, hR⟩ := q_ix hR
          refine va_iald hx hb hK hP 4 0 rfl rfl h7 nd_Room_alarm_58 ?_
          refine lv_goto (tgt := 63) hx hb nd_Room_alarm_59 (by decide) ?_
          exact hret _ _ _ nd_Room_alarm_63 (Option.some.inj hR)
        replace hR := q_n c6 hR
        by_cases c8 : x1 = 1
        · replace hR := q_p c8 hR
          refine k_aldqA (k := 1) hx hb hK hP 3 4 rfl rfl c8 (by decide) (by decide) rfl nd_Room_alarm_56 ?_
          refine lv_iload_n hx hb nd_Room_alarm_57 rfl (lv_at hl 3 rfl) ?_
          obtain ⟨h9, hR⟩ := q_ix hR
          refine va_iald hx hb hK hP 5 0 rfl rfl h9 nd_Room_alarm_58 ?_
          refine lv_goto (tgt := 63) hx hb nd_Room_alarm_59 (by decide) ?_
          exact hret _ _ _ nd_Room_alarm_63 (Option.some.inj hR)
        replace hR := q_n c8 hR
        by_cases c10 : x1 = 2
        · replace hR := q_p c10 hR
          refine k_aldqA (k := 2) hx hb hK hP 3 4 rfl rfl c10 (by decide) (by decide) rfl nd_Room_alarm_56 ?_
          refine lv_iload_n hx hb nd_Room_alarm_57 rfl (lv_at hl 3 rfl) ?_
          obtain ⟨h11, hR⟩ := q_ix hR
          refine va_iald hx hb hK hP 6 0 rfl rfl h11 nd_Room_alarm_58 ?_
          refine lv_goto (tgt := 63) hx hb nd_Room_alarm_59 (by decide) ?_
          exact hret _ _ _ nd_Room_alarm_63 (Option.some.inj hR)
        replace hR := q_n c10 hR
        by_cases c12 : x1 = 3
        · replace hR := q_p c12 hR
          refine k_aldqA (k := 3) hx hb hK hP 3 4 rfl rfl c12 (by decide) (by decide) rfl nd_Room_alarm_56 ?_
          refine lv_iload_n hx hb nd_Room_alarm_57 rfl (lv_at hl 3 rfl) ?_
          obtain ⟨h13, hR⟩ := q_ix hR
          refine va_iald hx hb hK hP 7 0 rfl rfl h13 nd_Room_alarm_58 ?_
          refine lv_goto (tgt := 63) hx hb nd_Room_alarm_59 (by decide) ?_
          exact hret _ _ _ nd_Room_alarm_63 (Option.some.inj hR)
        replace hR := q_n c12 hR
        exact nomatch hR
    · replace hR := q_p c4 hR
      refine lv_iload_n hx hb nd_Room_alarm_41 rfl (lv_at hl 0 rfl) ?_
      exact hret _ _ _ nd_Room_alarm_42 (Option.some.inj hR)
  · replace hR := q_n c2 hR
    exact nomatch (Option.some.inj hR)
def rm_Room_sensor : Room := { frames := 9, cells := 0, slots := 0, locals := 162 }
theorem kc_Room_sensor : k_cal nY_Room_sensor nC_Room_sensor 3 none 2 := ⟨tt_610, tt_1, by decide +kernel⟩
theorem kv_Room_sensor : k_vir nY_Room_sensor := ⟨tt_608, tt_609⟩
set_option maxHeartbeats 4000000 in
set_option maxRecDepth 100000 in
theorem cn_Room_sensor (l : Launch) (D : va_G) (ca : Nat → ClassId) (qa0 qhouse qtrial qrisks qriskPoints qrules qgauge qvalues qsensed qrights qchecked : Nat) (hoursGone_ : Int32) (checks_ : Int32) (values_ : Nat → Int32) (sensed_ : Nat → Int32) (x1 : Int32) (x2 : Int32) (R0 : Nat → Int32) (R1 : Nat → Int32) (hR : fn_Room_sensor hoursGone_ values_ sensed_ x1 x2 = some (.inr (R0, R1))) (sz : Nat) : Met l nY_Room_sensor (Cond.code nY_Room_sensor nC_Room_sensor 3 none :: TT) rm_Room_sensor (wr_P [.ref qa0, .int x1, .int x2] D ca [oc_Room qa0 qhouse qtrial qrisks qriskPoints qrules qgauge hoursGone_, oc_Gauge qgauge qvalues qsensed qrights qchecked checks_, aI qvalues ca 300 values_, aZ qsensed ca 300 sensed_] sz) (va_Qv (fun (_ : Unit) => True) (wr_B D [oc_Room qa0 qhouse qtrial qrisks qriskPoints qrules qgauge hoursGone_, oc_Gauge qgauge qvalues qsensed qrights qchecked checks_, aI qvalues ca 300 values_, aZ qsensed ca 300 sensed_] sz [oc_Room qa0 qhouse qtrial qrisks qriskPoints qrules qgauge hoursGone_, oc_Gauge qgauge qvalues qsensed qrights qchecked checks_, aI qvalues ca 300 R0, aZ qsensed ca 300 R1]) (va_A [oc_Room qa0 qhouse qtrial qrisks qriskPoints qrules qgauge hoursGone_, oc_Gauge qgauge qvalues qsensed qrights qchecked checks_, aI qvalues ca 300 values_, aZ qsensed ca 300 sensed_] sz)) 0 0 (va_A [oc_Room qa0 qhouse qtrial qrisks qriskPoints qrules qgauge hoursGone_, oc_Gauge qgauge qvalues qsensed qrights qchecked checks_, aI qvalues ca 300 values_, aZ qsensed ca 300 sensed_] sz) := by
  refine wr_ofV (R := (R0, R1)) (w1 := fun r : (Nat → Int32) × (Nat → Int32) => [oc_Room qa0 qhouse qtrial qrisks qriskPoints qrules qgauge hoursGone_, oc_Gauge qgauge qvalues qsensed qrights qchecked checks_, aI qvalues ca 300 r.1, aZ qsensed ca 300 r.2]) (by decide +kernel) (Nat.le_of_ble_eq_true rfl) ?_
  intro p e s m below meth c Q ar ls hx hb hml hts hown hP hK A hD hA hl hret
  have hS : va_S A s.heap s.heap [] := va_S.rf
  have hown : s.vm.findClass nR_Room = some m.cls := hown
  have hl : lv_has ls 3 [(0, .ref qa0), (1, .int x1), (2, .int x2)] := hl
  unfold fn_Room_sensor at hR
  refine lv_iload_n hx hb nd_Room_sensor_0 rfl (lv_at hl 1 rfl) ?_
  refine lv_aload_n hx hb nd_Room_sensor_1 rfl (lv_at hl 0 rfl) ?_
  refine va_get (D := D) (ci := 8) (v := .int hoursGone_) (C := nR_Room) (T := nT_Room) (N := 7) hx hb hts ni_Room hown hK hP 0 rfl rfl 6 (by decide) (hts (.fieldLink nR_Room 48 "RoomClimate" "hoursGone" "I") tt_228) (fun _ h9 => h9) rfl nd_Room_sensor_2 ?_
  obtain ⟨e1, hR⟩ := q_xr hR
  refine k_rSV (As := [.int x1, .int hoursGone_]) (rest := []) hx hb hml hown hts (cn_Room_requireIndex l D ca x1 hoursGone_ e1) kc_Room_requireIndex ks_Room_requireIndex tt_416 ⟨by decide, by decide⟩ rfl rfl hP hK [] rfl rfl hl.1 (Nat.le_of_ble_eq_true rfl) rfl nd_Room_sensor_5 ⟨Nat.zero_le _, Nat.zero_le _⟩ ?_
  refine lv_iload_n hx hb nd_Room_sensor_8 rfl (lv_at hl 2 rfl) ?_
  refine lv_ldc hx hb hown (hts _ tt_611) nd_Room_sensor_9 ?_
  refine lv_ldc hx hb hown (hts _ tt_436) nd_Room_sensor_11 ?_
  obtain ⟨e2, hR⟩ := q_xr hR
  refine k_rSV (As := [.int x2, .int (-100000 : Int32), .int (100000 : Int32)]) (rest := []) hx hb hml hown hts (cn_Room_requireWithin l D ca x2 (-100000 : Int32) (100000 : Int32) e2) kc_Room_requireWithin ks_Room_requireWithin tt_278 ⟨by decide, by decide⟩ rfl rfl hP hK [] rfl rfl hl.1 (Nat.le_of_ble_eq_true rfl) rfl nd_Room_sensor_13 ⟨Nat.zero_le _, Nat.zero_le _⟩ ?_
  replace hR := q_lr hR
  refine lv_aload_n hx hb nd_Room_sensor_16 rfl (lv_at hl 0 rfl) ?_
  refine va_get (D := D) (ci := 8) (v := .ref qgauge) (C := nR_Room) (T := nT_Room) (N := 7) hx hb hts ni_Room hown hK hP 0 rfl rfl 5 (by decide) (hts (.fieldLink nR_Room 44 "RoomClimate" "gauge" "LRoomClimate$Gauge;") tt_227) (fun _ h9 => h9) rfl nd_Room_sensor_17 ?_
  refine lv_iload_n hx hb nd_Room_sensor_20 rfl (lv_at hl 1 rfl) ?_
  refine lv_iload_n hx hb nd_Room_sensor_21 rfl (lv_at hl 2 rfl) ?_
  obtain ⟨u3_0, u3_1, e3, hR⟩ := q_b2 hR
  refine k_wVV (wr := [oc_Room qa0 qhouse qtrial qrisks qriskPoints qrules qgauge hoursGone_]) (w2 := [oc_Room qa0 qhouse qtrial qrisks qriskPoints qrules qgauge hoursGone_, oc_Gauge qgauge qvalues qsensed qrights qchecked checks_, aI qvalues ca 300 u3_0, aZ qsensed ca 300 u3_1]) (As := [.int x1, .int x2]) (rest := []) hx hb hml hown hts (cn_Gauge_sense l D ca qgauge qvalues qsensed qrights qchecked checks_ values_ sensed_ x1 x2 u3_0 u3_1 e3 _) kc_Gauge_sense kv_Gauge_sense tt_612 ⟨by decide, by decide⟩ rfl rfl hP hK hD hS hA [1, 2, 3] [0] [0, 1, 2, 3] rfl (by decide) rfl (by decide) (by decide) rfl (by decide) 0 rfl rfl rfl rfl hl.1 (Nat.le_of_ble_eq_true rfl) rfl nd_Room_sensor_22 ⟨Nat.zero_le _, Nat.zero_le _⟩ (fun H locs hP hD hS => ?_)
  exact hret (u3_0, u3_1) _ _ _ _ nd_Room_sensor_25 hR hP hD hS
def rm_Room_check : Room := { frames := 9, cells := 0, slots := 0, locals := 162 }
theorem kc_Room_check : k_cal nY_Room_check nC_Room_check 3 none 2 := ⟨tt_622, tt_1, by decide +kernel⟩
theorem kv_Room_check : k_vir nY_Room_check := ⟨tt_620, tt_621⟩
set_option maxHeartbeats 4000000 in
set_option maxRecDepth 100000 in
theorem cn_Room_check (l : Launch) (D : va_G) (ca : Nat → ClassId) (qa0 qhouse qtrial qrisks qriskPoints qrules qgauge qvalues qsensed qrights qchecked : Nat) (hoursGone_ : Int32) (checks_ : Int32) (sensed_ : Nat → Int32) (checked_ : Nat → Int32) (rights_ : Nat → Int32) (x1 : Int32) (x2 : Int32) (R0 : Int32) (R1 : Nat → Int32) (R2 : Nat → Int32) (hR : fn_Room_check hoursGone_ checks_ sensed_ checked_ rights_ x1 x2 = some (.inr (R0, R1, R2))) (sz : Nat) : Met l nY_Room_check (Cond.code nY_Room_check nC_Room_check 3 none :: TT) rm_Room_check (wr_P [.ref qa0, .int x1, .int x2] D ca [oc_Room qa0 qhouse qtrial qrisks qriskPoints qrules qgauge hoursGone_, oc_Gauge qgauge qvalues qsensed qrights qchecked checks_, aZ qsensed ca 300 sensed_, aZ qchecked ca 300 checked_, aI qrights ca 300 rights_] sz) (va_Qv (fun (_ : Unit) => True) (wr_B D [oc_Room qa0 qhouse qtrial qrisks qriskPoints qrules qgauge hoursGone_, oc_Gauge qgauge qvalues qsensed qrights qchecked checks_, aZ qsensed ca 300 sensed_, aZ qchecked ca 300 checked_, aI qrights ca 300 rights_] sz [oc_Room qa0 qhouse qtrial qrisks qriskPoints qrules qgauge hoursGone_, oc_Gauge qgauge qvalues qsensed qrights qchecked R0, aZ qsensed ca 300 sensed_, aZ qchecked ca 300 R2, aI qrights ca 300 R1]) (va_A [oc_Room qa0 qhouse qtrial qrisks qriskPoints qrules qgauge hoursGone_, oc_Gauge qgauge qvalues qsensed qrights qchecked checks_, aZ qsensed ca 300 sensed_, aZ qchecked ca 300 checked_, aI qrights ca 300 rights_] sz)) 0 0 (va_A [oc_Room qa0 qhouse qtrial qrisks qriskPoints qrules qgauge hoursGone_, oc_Gauge qgauge qvalues qsensed qrights qchecked checks_, aZ qsensed ca 300 sensed_, aZ qchecked ca 300 checked_, aI qrights ca 300 rights_] sz) := by
  refine wr_ofV (R := (R0, R1, R2)) (w1 := fun r : Int32 × (Nat → Int32) × (Nat → Int32) => [oc_Room qa0 qhouse qtrial qrisks qriskPoints qrules qgauge hoursGone_, oc_Gauge qgauge qvalues qsensed qrights qchecked r.1, aZ qsensed ca 300 sensed_, aZ qchecked ca 300 r.2.2, aI qrights ca 300 r.2.1]) (by decide +kernel) (Nat.le_of_ble_eq_true rfl) ?_
  intro p e s m below meth c Q ar ls hx hb hml hts hown hP hK A hD hA hl hret
  have hS : va_S A s.heap s.heap [] := va_S.rf
  have hown : s.vm.findClass nR_Room = some m.cls := hown
  have hl : lv_has ls 3 [(0, .ref qa0), (1, .int x1), (2, .int x2)] := hl
  unfold fn_Room_check at hR
  refine lv_iload_n hx hb nd_Room_check_0 rfl (lv_at hl 1 rfl) ?_
  refine lv_aload_n hx hb nd_Room_check_1 rfl (lv_at hl 0 rfl) ?_
  refine va_get (D := D) (ci := 8) (v := .int hoursGone_) (C := nR_Room) (T := nT_Room) (N := 7) hx hb hts ni_Room hown hK hP 0 rfl rfl 6 (by decide) (hts (.fieldLink nR_Room 48 "RoomClimate" "hoursGone" "I") tt_228) (fun _ h9 => h9) rfl nd_Room_check_2 ?_
  obtain ⟨e1, hR⟩ := q_xr hR
  refine k_rSV (As := [.int x1, .int hoursGone_]) (rest := []) hx hb hml hown hts (cn_Room_requireIndex l D ca x1 hoursGone_ e1) kc_Room_requireIndex ks_Room_requireIndex tt_416 ⟨by decide, by decide⟩ rfl rfl hP hK [] rfl rfl hl.1 (Nat.le_of_ble_eq_true rfl) rfl nd_Room_check_5 ⟨Nat.zero_le _, Nat.zero_le _⟩ ?_
  refine lv_aload_n hx hb nd_Room_check_8 rfl (lv_at hl 0 rfl) ?_
  refine va_get (D := D) (ci := 8) (v := .ref qgauge) (C := nR_Room) (T := nT_Room) (N := 7) hx hb hts ni_Room hown hK hP 0 rfl rfl 5 (by decide) (hts (.fieldLink nR_Room 44 "RoomClimate" "gauge" "LRoomClimate$Gauge;") tt_227) (fun _ h9 => h9) rfl nd_Room_check_9 ?_
  refine va_getN (D := D) (ci := 0) (v := .ref qsensed) (C := nR_Gauge) (T := nT_Gauge) (N := 5) hx hb hts ni_Gauge hown hK hP 1 rfl rfl 1 (by decide) (hts (.fieldLinkNest nR_Room 191 "RoomClimate$Gauge" "sensed" "[Z" "RoomClimate") tt_206) (fun _ h9 => h9) rfl nd_Room_check_12 ?_
  refine lv_iload_n hx hb nd_Room_check_15 rfl (lv_at hl 1 rfl) ?_
  obtain ⟨h2, hR⟩ := q_ix hR
  refine va_zald hx hb hK hP 2 2 rfl rfl h2 nd_Room_check_16 ?_
  refine lv_if_ne (tgt := 30) hx hb nd_Room_check_17 (by decide) (fun c3 => ?_) (fun c3 => ?_)
  · replace hR := q_n c3 hR
    refine lv_iload_n hx hb nd_Room_check_30 rfl (lv_at hl 2 rfl) ?_
    refine lv_ldc hx hb hown (hts _ tt_611) nd_Room_check_31 ?_
    refine lv_ldc hx hb hown (hts _ tt_436) nd_Room_check_33 ?_
    obtain ⟨e4, hR⟩ := q_xr hR
    refine k_rSV (As := [.int x2, .int (-100000 : Int32), .int (100000 : Int32)]) (rest := []) hx hb hml hown hts (cn_Room_requireWithin l D ca x2 (-100000 : Int32) (100000 : Int32) e4) kc_Room_requireWithin ks_Room_requireWithin tt_278 ⟨by decide, by decide⟩ rfl rfl hP hK [] rfl rfl hl.1 (Nat.le_of_ble_eq_true rfl) rfl nd_Room_check_35 ⟨Nat.zero_le _, Nat.zero_le _⟩ ?_
    replace hR := q_lr hR
    refine lv_aload_n hx hb nd_Room_check_38 rfl (lv_at hl 0 rfl) ?_
    refine va_get (D := D) (ci := 8) (v := .ref qgauge) (C := nR_Room) (T := nT_Room) (N := 7) hx hb hts ni_Room hown hK hP 0 rfl rfl 5 (by decide) (hts (.fieldLink nR_Room 44 "RoomClimate" "gauge" "LRoomClimate$Gauge;") tt_227) (fun _ h9 => h9) rfl nd_Room_check_39 ?_
    refine lv_iload_n hx hb nd_Room_check_42 rfl (lv_at hl 1 rfl) ?_
    refine lv_iload_n hx hb nd_Room_check_43 rfl (lv_at hl 2 rfl) ?_
    obtain ⟨u5_0, u5_1, u5_2, e5, hR⟩ := q_b3 hR
    refine k_wVV (wr := [oc_Room qa0 qhouse qtrial qrisks qriskPoints qrules qgauge hoursGone_, aZ qsensed ca 300 sensed_]) (w2 := [oc_Room qa0 qhouse qtrial qrisks qriskPoints qrules qgauge hoursGone_, oc_Gauge qgauge qvalues qsensed qrights qchecked u5_0, aZ qsensed ca 300 sensed_, aZ qchecked ca 300 u5_2, aI qrights ca 300 u5_1]) (As := [.int x1, .int x2]) (rest := []) hx hb hml hown hts (cn_Gauge_compare l D ca qgauge qvalues qsensed qrights qchecked checks_ checked_ rights_ x1 x2 u5_0 u5_1 u5_2 e5 _) kc_Gauge_compare kv_Gauge_compare tt_624 ⟨by decide, by decide⟩ rfl rfl hP hK hD hS hA [1, 3, 4] [0, 2] [0, 2, 1, 3, 4] rfl (by decide) rfl (by decide) (by decide) rfl (by decide) 0 rfl rfl rfl rfl hl.1 (Nat.le_of_ble_eq_true rfl) rfl nd_Room_check_44 ⟨Nat.zero_le _, Nat.zero_le _⟩ (fun H locs hP hD hS => ?_)
    exact hret (u5_0, u5_1, u5_2) _ _ _ _ nd_Room_check_47 hR hP hD hS
  · replace hR := q_p c3 hR
    exact nomatch (Option.some.inj hR)
def rm_Room_corrected : Room := { frames := 9, cells := 0, slots := 0, locals := 161 }
theorem kc_Room_corrected : k_cal nY_Room_corrected nC_Room_corrected 2 (some .int) 1 := ⟨tt_634, tt_1, by decide +kernel⟩
theorem kv_Room_corrected : k_vir nY_Room_corrected := ⟨tt_632, tt_633⟩
set_option maxHeartbeats 4000000 in
set_option maxRecDepth 100000 in
theorem cn_Room_corrected (l : Launch) (D : va_G) (ca : Nat → ClassId) (qa0 qhouse qtrial qrisks qriskPoints qrules qgauge qvalues qsensed qrights qchecked : Nat) (hoursGone_ : Int32) (checks_ : Int32) (sensed_ : Nat → Int32) (values_ : Nat → Int32) (checked_ : Nat → Int32) (rights_ : Nat → Int32) (x1 : Int32) (R0 : Int32) (hR : fn_Room_corrected hoursGone_ sensed_ values_ checked_ rights_ x1 = some (.inr R0)) : Met l nY_Room_corrected (Cond.code nY_Room_corrected nC_Room_corrected 2 (some .int) :: TT) rm_Room_corrected (rd_P [.ref qa0, .int x1] D ca [oc_Room qa0 qhouse qtrial qrisks qriskPoints qrules qgauge hoursGone_, oc_Gauge qgauge qvalues qsensed qrights qchecked checks_, aZ qsensed ca 300 sensed_, aI qvalues ca 300 values_, aZ qchecked ca 300 checked_, aI qrights ca 300 rights_]) (vp_Si (fun x => x = R0)) 0 0 (fun _ => False) := by
  refine rd_ofI (by decide +kernel) (Nat.le_of_ble_eq_true rfl) ?_
  intro p e s m below meth c Q ar ls hx hb hml hts hown hP hK hl hret
  have hown : s.vm.findClass nR_Room = some m.cls := hown
  have hl : lv_has ls 2 [(0, .ref qa0), (1, .int x1)] := hl
  unfold fn_Room_corrected at hR
  refine lv_iload_n hx hb nd_Room_corrected_0 rfl (lv_at hl 1 rfl) ?_
  refine lv_aload_n hx hb nd_Room_corrected_1 rfl (lv_at hl 0 rfl) ?_
  refine va_get (D := D) (ci := 8) (v := .int hoursGone_) (C := nR_Room) (T := nT_Room) (N := 7) hx hb hts ni_Room hown hK hP 0 rfl rfl 6 (by decide) (hts (.fieldLink nR_Room 48 "RoomClimate" "hoursGone" "I") tt_228) (fun _ h9 => h9) rfl nd_Room_corrected_2 ?_
  obtain ⟨e1, hR⟩ := q_xr hR
  refine k_rSV (As := [.int x1, .int hoursGone_]) (rest := []) hx hb hml hown hts (cn_Room_requireIndex l D ca x1 hoursGone_ e1) kc_Room_requireIndex ks_Room_requireIndex tt_416 ⟨by decide, by decide⟩ rfl rfl hP hK [] rfl rfl hl.1 (Nat.le_of_ble_eq_true rfl) rfl nd_Room_corrected_5 ⟨Nat.zero_le _, Nat.zero_le _⟩ ?_
  replace hR := q_lr hR
  refine lv_aload_n hx hb nd_Room_corrected_8 rfl (lv_at hl 0 rfl) ?_
  refine va_get (D := D) (ci := 8) (v := .ref qgauge) (C := nR_Room) (T := nT_Room) (N := 7) hx hb hts ni_Room hown hK hP 0 rfl rfl 5 (by decide) (hts (.fieldLink nR_Room 44 "RoomClimate" "gauge" "LRoomClimate$Gauge;") tt_227) (fun _ h9 => h9) rfl nd_Room_corrected_9 ?_
  refine va_getN (D := D) (ci := 0) (v := .ref qsensed) (C := nR_Gauge) (T := nT_Gauge) (N := 5) hx hb hts ni_Gauge hown hK hP 1 rfl rfl 1 (by decide) (hts (.fieldLinkNest nR_Room 191 "RoomClimate$Gauge" "sensed" "[Z" "RoomClimate") tt_206) (fun _ h9 => h9) rfl nd_Room_corrected_12 ?_
  refine lv_iload_n hx hb nd_Room_corrected_15 rfl (lv_at hl 1 rfl) ?_
  obtain ⟨h2, hR⟩ := q_ix hR
  refine va_zald hx hb hK hP 2 2 rfl rfl h2 nd_Room_corrected_16 ?_
  obtain ⟨j4_0, hJ4, hR⟩ := q_b1 hR
  have hN4 : ∀ (ls : Array Slot), lv_has ls 2 [(0, .ref qa0), (1, .int x1)] → W p l e rm_Room_corrected s m ar below meth c s.heap [] 0 0 Q (F0 m 47 ls [.int j4_0]) := by
    intro ls  hl
    exact hret _ _ _ nd_Room_corrected_47 (Option.some.inj hR)
  refine lv_if_eq (tgt := 45) hx hb nd_Room_corrected_17 (by decide) (fun c3 => ?_) (fun c3 => ?_)
  · have hR := q_p c3 hJ4
    refine lv_ldc hx hb hown (hts _ tt_652) nd_Room_corrected_45 ?_
    cases hR
    exact hN4 _  (lv_sub hl [0, 1] rfl)
  · have hR := q_n c3 hJ4
    refine lv_aload_n hx hb nd_Room_corrected_20 rfl (lv_at hl 0 rfl) ?_
    refine va_get (D := D) (ci := 8) (v := .ref qgauge) (C := nR_Room) (T := nT_Room) (N := 7) hx hb hts ni_Room hown hK hP 0 rfl rfl 5 (by decide) (hts (.fieldLink nR_Room 44 "RoomClimate" "gauge" "LRoomClimate$Gauge;") tt_227) (fun _ h9 => h9) rfl nd_Room_corrected_21 ?_
    refine va_getN (D := D) (ci := 0) (v := .ref qvalues) (C := nR_Gauge) (T := nT_Gauge) (N := 5) hx hb hts ni_Gauge hown hK hP 1 rfl rfl 0 (by decide) (hts (.fieldLinkNest nR_Room 202 "RoomClimate$Gauge" "values" "[I" "RoomClimate") tt_204) (fun _ h9 => h9) rfl nd_Room_corrected_24 ?_
    refine lv_iload_n hx hb nd_Room_corrected_27 rfl (lv_at hl 1 rfl) ?_
    refine va_iald hx hb hK hP 3 0 rfl rfl h2 nd_Room_corrected_28 ?_
    refine lv_aload_n hx hb nd_Room_corrected_29 rfl (lv_at hl 0 rfl) ?_
    refine va_get (D := D) (ci := 8) (v := .ref qgauge) (C := nR_Room) (T := nT_Room) (N := 7) hx hb hts ni_Room hown hK hP 0 rfl rfl 5 (by decide) (hts (.fieldLink nR_Room 44 "RoomClimate" "gauge" "LRoomClimate$Gauge;") tt_227) (fun _ h9 => h9) rfl nd_Room_corrected_30 ?_
    refine lv_iload_n hx hb nd_Room_corrected_33 rfl (lv_at hl 1 rfl) ?_
    refine lv_aload_n hx hb nd_Room_corrected_34 rfl (lv_at hl 0 rfl) ?_
    refine va_get (D := D) (ci := 8) (v := .int hoursGone_) (C := nR_Room) (T := nT_Room) (N := 7) hx hb hts ni_Room hown hK hP 0 rfl rfl 6 (by decide) (hts (.fieldLink nR_Room 48 "RoomClimate" "hoursGone" "I") tt_228) (fun _ h9 => h9) rfl nd_Room_corrected_35 ?_
    obtain ⟨r5, e5, hR⟩ := q_b1 hR
    refine k_rVI (As := [.int x1, .int hoursGone_]) (rest := [.int (values_ x1.toNatClampNeg)]) (r := r5) hx hb hml hown hts (cn_Gauge_drift l D ca qgauge qvalues qsensed qrights qchecked checks_ checked_ rights_ values_ x1 hoursGone_ r5 e5) kc_Gauge_drift kv_Gauge_drift tt_635 ⟨by decide, by decide⟩ rfl rfl hP hK [1, 4, 5, 3] rfl 0 rfl rfl rfl rfl hl.1 (Nat.le_of_ble_eq_true rfl) rfl nd_Room_corrected_38 ⟨Nat.zero_le _, Nat.zero_le _⟩ ?_
    refine lv_iadd hx hb nd_Room_corrected_41 ?_
    refine lv_goto (tgt := 47) hx hb nd_Room_corrected_42 (by decide) ?_
    cases hR
    exact hN4 _  (lv_sub hl [0, 1] rfl)
def rm_Room_silent : Room := { frames := 9, cells := 0, slots := 0, locals := 161 }
theorem kc_Room_silent : k_cal nY_Room_silent nC_Room_silent 2 (some .int) 1 := ⟨tt_659, tt_1, by decide +kernel⟩
theorem kv_Room_silent : k_vir nY_Room_silent := ⟨tt_657, tt_658⟩
set_option maxHeartbeats 4000000 in
set_option maxRecDepth 100000 in
theorem cn_Room_silent (l : Launch) (D : va_G) (ca : Nat → ClassId) (qa0 qhouse qtrial qrisks qriskPoints qrules qgauge qvalues qsensed qrights qchecked : Nat) (hoursGone_ : Int32) (checks_ : Int32) (sensed_ : Nat → Int32) (x1 : Int32) (R0 : Int32) (hR : fn_Room_silent hoursGone_ sensed_ x1 = some (.inr R0)) : Met l nY_Room_silent (Cond.code nY_Room_silent nC_Room_silent 2 (some .int) :: TT) rm_Room_silent (rd_P [.ref qa0, .int x1] D ca [oc_Room qa0 qhouse qtrial qrisks qriskPoints qrules qgauge hoursGone_, oc_Gauge qgauge qvalues qsensed qrights qchecked checks_, aZ qsensed ca 300 sensed_]) (vp_Si (fun x => x = R0)) 0 0 (fun _ => False) := by
  refine rd_ofI (by decide +kernel) (Nat.le_of_ble_eq_true rfl) ?_
  intro p e s m below meth c Q ar ls hx hb hml hts hown hP hK hl hret
  have hown : s.vm.findClass nR_Room = some m.cls := hown
  have hl : lv_has ls 2 [(0, .ref qa0), (1, .int x1)] := hl
  unfold fn_Room_silent at hR
  refine lv_iload_n hx hb nd_Room_silent_0 rfl (lv_at hl 1 rfl) ?_
  refine lv_aload_n hx hb nd_Room_silent_1 rfl (lv_at hl 0 rfl) ?_
  refine va_get (D := D) (ci := 8) (v := .int hoursGone_) (C := nR_Room) (T := nT_Room) (N := 7) hx hb hts ni_Room hown hK hP 0 rfl rfl 6 (by decide) (hts (.fieldLink nR_Room 48 "RoomClimate" "hoursGone" "I") tt_228) (fun _ h9 => h9) rfl nd_Room_silent_2 ?_
  obtain ⟨e1, hR⟩ := q_xr hR
  refine k_rSV (As := [.int x1, .int hoursGone_]) (rest := []) hx hb hml hown hts (cn_Room_requireIndex l D ca x1 hoursGone_ e1) kc_Room_requireIndex ks_Room_requireIndex tt_416 ⟨by decide, by decide⟩ rfl rfl hP hK [] rfl rfl hl.1 (Nat.le_of_ble_eq_true rfl) rfl nd_Room_silent_5 ⟨Nat.zero_le _, Nat.zero_le _⟩ ?_
  replace hR := q_lr hR
  refine lv_aload_n hx hb nd_Room_silent_8 rfl (lv_at hl 0 rfl) ?_
  refine va_get (D := D) (ci := 8) (v := .ref qgauge) (C := nR_Room) (T := nT_Room) (N := 7) hx hb hts ni_Room hown hK hP 0 rfl rfl 5 (by decide) (hts (.fieldLink nR_Room 44 "RoomClimate" "gauge" "LRoomClimate$Gauge;") tt_227) (fun _ h9 => h9) rfl nd_Room_silent_9 ?_
  refine lv_iload_n hx hb nd_Room_silent_12 rfl (lv_at hl 1 rfl) ?_
  refine lv_aload_n hx hb nd_Room_silent_13 rfl (lv_at hl 0 rfl) ?_
  refine va_get (D := D) (ci := 8) (v := .int hoursGone_) (C := nR_Room) (T := nT_Room) (N := 7) hx hb hts ni_Room hown hK hP 0 rfl rfl 6 (by decide) (hts (.fieldLink nR_Room 48 "RoomClimate" "hoursGone" "I") tt_228) (fun _ h9 => h9) rfl nd_Room_silent_14 ?_
  obtain ⟨r2, e2, hR⟩ := q_b1 hR
  refine k_rVI (As := [.int x1, .int hoursGone_]) (rest := []) (r := r2) hx hb hml hown hts (cn_Gauge_longestGap l D ca qgauge qvalues qsensed qrights qchecked checks_ sensed_ x1 hoursGone_ r2 e2) kc_Gauge_longestGap kv_Gauge_longestGap tt_660 ⟨by decide, by decide⟩ rfl rfl hP hK [1, 2] rfl 0 rfl rfl rfl rfl hl.1 (Nat.le_of_ble_eq_true rfl) rfl nd_Room_silent_17 ⟨Nat.zero_le _, Nat.zero_le _⟩ ?_
  exact hret _ _ _ nd_Room_silent_20 (Option.some.inj hR)
def rm_Room_distanceFromPlanned : Room := { frames := 1, cells := 0, slots := 0, locals := 24 }
theorem kc_Room_distanceFromPlanned : k_cal nY_Room_distanceFromPlanned nC_Room_distanceFromPlanned 2 (some .long) 1 := ⟨tt_703, tt_1, by decide +kernel⟩
theorem ks_Room_distanceFromPlanned : Cond.static nY_Room_distanceFromPlanned ∈ TT := tt_702
set_option maxHeartbeats 4000000 in
set_option maxRecDepth 100000 in
theorem cn_Room_distanceFromPlanned (l : Launch) (D : va_G) (ca : Nat → ClassId) (x0 : Int64) (R0 : Int64) (hR : fn_Room_distanceFromPlanned x0 = some R0) : Met l nY_Room_distanceFromPlanned (Cond.code nY_Room_distanceFromPlanned nC_Room_distanceFromPlanned 2 (some .long) :: TT) rm_Room_distanceFromPlanned (rd_P [.long x0] D ca []) (vp_Sl (fun x => x = R0)) 0 0 (fun _ => False) := by
  refine rd_ofJ (by decide +kernel) (Nat.le_of_ble_eq_true rfl) ?_
  intro p e s m below meth c Q ar ls hx hb hml hts hown hP hK hl hret
  have hown : s.vm.findClass nR_Room = some m.cls := hown
  have hl : lv_has ls 2 [(0, .long x0)] := hl
  unfold fn_Room_distanceFromPlanned at hR
  refine lv_lconst (v := 0) hx hb nd_Room_distanceFromPlanned_0 (by decide) ?_
  refine lv_ldc2 hx hb hown (hts _ tt_704) nd_Room_distanceFromPlanned_1 ?_
  refine lv_lload_n hx hb nd_Room_distanceFromPlanned_4 rfl (lv_at hl 0 rfl) ?_
  refine lv_lsub hx hb nd_Room_distanceFromPlanned_5 ?_
  refine lv_lload_n hx hb nd_Room_distanceFromPlanned_6 rfl (lv_at hl 0 rfl) ?_
  refine lv_ldc2 hx hb hown (hts _ tt_705) nd_Room_distanceFromPlanned_7 ?_
  refine lv_lsub hx hb nd_Room_distanceFromPlanned_10 ?_
  refine va_mmax_long hx hb (hml.trans hl.1.symm) hown (hts _ tt_568) (hts _ tt_569) (hts _ tt_17) (hts _ tt_570) (by decide) (Nat.le_of_ble_eq_true rfl) (Nat.zero_le _) (Nat.zero_le _) nd_Room_distanceFromPlanned_11 ?_
  refine va_mmax_long hx hb (hml.trans hl.1.symm) hown (hts _ tt_568) (hts _ tt_569) (hts _ tt_17) (hts _ tt_570) (by decide) (Nat.le_of_ble_eq_true rfl) (Nat.zero_le _) (Nat.zero_le _) nd_Room_distanceFromPlanned_14 ?_
  exact hret _ _ _ nd_Room_distanceFromPlanned_17 (Option.some.inj hR)
def rm_Room_costOfLevel : Room := { frames := 5, cells := 0, slots := 0, locals := 119 }
theorem kc_Room_costOfLevel : k_cal nY_Room_costOfLevel nC_Room_costOfLevel 8 (some .long) 4 := ⟨tt_674, tt_1, by decide +kernel⟩
theorem kv_Room_costOfLevel : k_vir nY_Room_costOfLevel := ⟨tt_673, tp_8⟩
set_option maxHeartbeats 4000000 in
set_option maxRecDepth 100000 in
theorem cn_Room_costOfLevel (l : Launch) (D : va_G) (ca : Nat → ClassId) (qa0 qhouse qtrial qrisks qriskPoints qrules qgauge qinside qwalls qgoods qmachines qinside2 qwalls2 qgoods2 qmachines2 qheatBooks qwaterBooks qheatBooks2 qwaterBooks2 qconductances qcapacities qheats qconductances2 qcapacities2 qheats2 qrows qlows qhighs qrates qtold qrunning qlows2 qhighs2 qrates2 qtold2 qrunning2 qlevels qamounts : Nat) (hoursGone_ : Int32) (volume_ : Int32) (share_ : Int32) (heat_ : Int64) (water_ : Int64) (volume_2 : Int32) (share_2 : Int32) (heat_2 : Int64) (water_2 : Int64) (layers_ : Int32) (layers_2 : Int32) (conductances_ : Nat → Int32) (conductances_2 : Nat → Int32) (capacities_ : Nat → Int32) (capacities_2 : Nat → Int32) (heats_ : Nat → Int64) (heats_2 : Nat → Int64) (kilograms_ : Int32) (load_ : Int64) (kilograms_2 : Int32) (load_2 : Int64) (lows_ : Nat → Int32) (lows_2 : Nat → Int32) (highs_ : Nat → Int32) (highs_2 : Nat → Int32) (rates_ : Nat → Int32) (rates_2 : Nat → Int32) (told_ : Nat → Int32) (told_2 : Nat → Int32) (running_ : Nat → Int32) (running_2 : Nat → Int32) (heatBooks_ : Nat → Int64) (waterBooks_ : Nat → Int64) (size_ : Int32) (amounts_ : Nat → Int32) (levels_ : Nat → Int32) (x1 : Int32) (x2 : Int32) (x3 : Int32) (x4 : Int32) (R0 : Int64) (R1 : Int32) (R2 : Int32) (R3 : Int64) (R4 : Int64) (R5 : Int32) (R6 : Nat → Int32) (R7 : Nat → Int32) (R8 : Nat → Int64) (R9 : Int32) (R10 : Int64) (R11 : Nat → Int32) (R12 : Nat → Int32) (R13 : Nat → Int32) (R14 : Nat → Int32) (R15 : Nat → Int32) (R16 : Nat → Int64) (R17 : Nat → Int64) (hR : fn_Room_costOfLevel volume_ share_ heat_ water_ layers_ conductances_ conductances_2 capacities_ capacities_2 heats_ heats_2 kilograms_ load_ lows_ lows_2 highs_ highs_2 rates_ rates_2 told_ told_2 running_ running_2 heatBooks_ waterBooks_ size_ amounts_ levels_ x1 x2 x3 x4 = some (R0, R1, R2, R3, R4, R5, R6, R7, R8, R9, R10, R11, R12, R13, R14, R15, R16, R17)) (sz : Nat) : Met l nY_Room_costOfLevel (Cond.code nY_Room_costOfLevel nC_Room_costOfLevel 8 (some .long) :: TT) rm_Room_costOfLevel (wr_P [.ref qa0, .int x1, .int x2, .int x3, .int x4] D ca [oc_Room qa0 qhouse qtrial qrisks qriskPoints qrules qgauge hoursGone_, oc_House qtrial qinside qwalls qgoods qmachines, oc_House qhouse qinside2 qwalls2 qgoods2 qmachines2, oc_Interior qinside2 qheatBooks qwaterBooks volume_ share_ heat_ water_, oc_Interior qinside qheatBooks2 qwaterBooks2 volume_2 share_2 heat_2 water_2, oc_Walls qwalls2 qconductances qcapacities qheats layers_, oc_Walls qwalls qconductances2 qcapacities2 qheats2 layers_2, aI qconductances ca 5 conductances_, aI qconductances2 ca 5 conductances_2, aI qcapacities ca 5 capacities_, aI qcapacities2 ca 5 capacities_2, aJ qheats ca 5 heats_, aJ qheats2 ca 5 heats_2, oc_Goods qgoods2 qrows kilograms_ load_, oc_Goods qgoods qrows kilograms_2 load_2, oc_Machines qmachines qlows qhighs qrates qtold qrunning, oc_Machines qmachines2 qlows2 qhighs2 qrates2 qtold2 qrunning2, aI qlows2 ca 4 lows_, aI qlows ca 4 lows_2, aI qhighs2 ca 4 highs_, aI qhighs ca 4 highs_2, aI qrates2 ca 4 rates_, aI qrates ca 4 rates_2, aZ qtold2 ca 4 told_, aZ qtold ca 4 told_2, aZ qrunning2 ca 4 running_, aZ qrunning ca 4 running_2, aJ qheatBooks2 ca 5 heatBooks_, aJ qwaterBooks2 ca 5 waterBooks_, oc_Steps qrows qlevels qamounts size_, aI qamounts ca 6 amounts_, aI qlevels ca 6 levels_] sz) (va_Ql (fun x (_ : Unit) => x = R0) (wr_B D [oc_Room qa0 qhouse qtrial qrisks qriskPoints qrules qgauge hoursGone_, oc_House qtrial qinside qwalls qgoods qmachines, oc_House qhouse qinside2 qwalls2 qgoods2 qmachines2, oc_Interior qinside2 qheatBooks qwaterBooks volume_ share_ heat_ water_, oc_Interior qinside qheatBooks2 qwaterBooks2 volume_2 share_2 heat_2 water_2, oc_Walls qwalls2 qconductances qcapacities qheats layers_, oc_Walls qwalls qconductances2 qcapacities2 qheats2 layers_2, aI qconductances ca 5 conductances_, aI qconductances2 ca 5 conductances_2, aI qcapacities ca 5 capacities_, aI qcapacities2 ca 5 capacities_2, aJ qheats ca 5 heats_, aJ qheats2 ca 5 heats_2, oc_Goods qgoods2 qrows kilograms_ load_, oc_Goods qgoods qrows kilograms_2 load_2, oc_Machines qmachines qlows qhighs qrates qtold qrunning, oc_Machines qmachines2 qlows2 qhighs2 qrates2 qtold2 qrunning2, aI qlows2 ca 4 lows_, aI qlows ca 4 lows_2, aI qhighs2 ca 4 highs_, aI qhighs ca 4 highs_2, aI qrates2 ca 4 rates_, aI qrates ca 4 rates_2, aZ qtold2 ca 4 told_, aZ qtold ca 4 told_2, aZ qrunning2 ca 4 running_, aZ qrunning ca 4 running_2, aJ qheatBooks2 ca 5 heatBooks_, aJ qwaterBooks2 ca 5 waterBooks_, oc_Steps qrows qlevels qamounts size_, aI qamounts ca 6 amounts_, aI qlevels ca 6 levels_] sz [oc_Room qa0 qhouse qtrial qrisks qriskPoints qrules qgauge hoursGone_, oc_House qtrial qinside qwalls qgoods qmachines, oc_House qhouse qinside2 qwalls2 qgoods2 qmachines2, oc_Interior qinside2 qheatBooks qwaterBooks volume_ share_ heat_ water_, oc_Interior qinside qheatBooks2 qwaterBooks2 R1 R2 R3 R4, oc_Walls qwalls2 qconductances qcapacities qheats layers_, oc_Walls qwalls qconductances2 qcapacities2 qheats2 R5, aI qconductances ca 5 conductances_, aI qconductances2 ca 5 R6, aI qcapacities ca 5 capacities_, aI qcapacities2 ca 5 R7, aJ qheats ca 5 heats_, aJ qheats2 ca 5 R8, oc_Goods qgoods2 qrows kilograms_ load_, oc_Goods qgoods qrows R9 R10, oc_Machines qmachines qlows qhighs qrates qtold qrunning, oc_Machines qmachines2 qlows2 qhighs2 qrates2 qtold2 qrunning2, aI qlows2 ca 4 lows_, aI qlows ca 4 R11, aI qhighs2 ca 4 highs_, aI qhighs ca 4 R12, aI qrates2 ca 4 rates_, aI qrates ca 4 R13, aZ qtold2 ca 4 told_, aZ qtold ca 4 R14, aZ qrunning2 ca 4 running_, aZ qrunning ca 4 R15, aJ qheatBooks2 ca 5 R16, aJ qwaterBooks2 ca 5 R17, oc_Steps qrows qlevels qamounts size_, aI qamounts ca 6 amounts_, aI qlevels ca 6 levels_]) (va_A [oc_Room qa0 qhouse qtrial qrisks qriskPoints qrules qgauge hoursGone_, oc_House qtrial qinside qwalls qgoods qmachines, oc_House qhouse qinside2 qwalls2 qgoods2 qmachines2, oc_Interior qinside2 qheatBooks qwaterBooks volume_ share_ heat_ water_, oc_Interior qinside qheatBooks2 qwaterBooks2 volume_2 share_2 heat_2 water_2, oc_Walls qwalls2 qconductances qcapacities qheats layers_, oc_Walls qwalls qconductances2 qcapacities2 qheats2 layers_2, aI qconductances ca 5 conductances_, aI qconductances2 ca 5 conductances_2, aI qcapacities ca 5 capacities_, aI qcapacities2 ca 5 capacities_2, aJ qheats ca 5 heats_, aJ qheats2 ca 5 heats_2, oc_Goods qgoods2 qrows kilograms_ load_, oc_Goods qgoods qrows kilograms_2 load_2, oc_Machines qmachines qlows qhighs qrates qtold qrunning, oc_Machines qmachines2 qlows2 qhighs2 qrates2 qtold2 qrunning2, aI qlows2 ca 4 lows_, aI qlows ca 4 lows_2, aI qhighs2 ca 4 highs_, aI qhighs ca 4 highs_2, aI qrates2 ca 4 rates_, aI qrates ca 4 rates_2, aZ qtold2 ca 4 told_, aZ qtold ca 4 told_2, aZ qrunning2 ca 4 running_, aZ qrunning ca 4 running_2, aJ qheatBooks2 ca 5 heatBooks_, aJ qwaterBooks2 ca 5 waterBooks_, oc_Steps qrows qlevels qamounts size_, aI qamounts ca 6 amounts_, aI qlevels ca 6 levels_] sz)) 0 0 (va_A [oc_Room qa0 qhouse qtrial qrisks qriskPoints qrules qgauge hoursGone_, oc_House qtrial qinside qwalls qgoods qmachines, oc_House qhouse qinside2 qwalls2 qgoods2 qmachines2, oc_Interior qinside2 qheatBooks qwaterBooks volume_ share_ heat_ water_, oc_Interior qinside qheatBooks2 qwaterBooks2 volume_2 share_2 heat_2 water_2, oc_Walls qwalls2 qconductances qcapacities qheats layers_, oc_Walls qwalls qconductances2 qcapacities2 qheats2 layers_2, aI qconductances ca 5 conductances_, aI qconductances2 ca 5 conductances_2, aI qcapacities ca 5 capacities_, aI qcapacities2 ca 5 capacities_2, aJ qheats ca 5 heats_, aJ qheats2 ca 5 heats_2, oc_Goods qgoods2 qrows kilograms_ load_, oc_Goods qgoods qrows kilograms_2 load_2, oc_Machines qmachines qlows qhighs qrates qtold qrunning, oc_Machines qmachines2 qlows2 qhighs2 qrates2 qtold2 qrunning2, aI qlows2 ca 4 lows_, aI qlows ca 4 lows_2, aI qhighs2 ca 4 highs_, aI qhighs ca 4 highs_2, aI qrates2 ca 4 rates_, aI qrates ca 4 rates_2, aZ qtold2 ca 4 told_, aZ qtold ca 4 told_2, aZ qrunning2 ca 4 running_, aZ qrunning ca 4 running_2, aJ qheatBooks2 ca 5 heatBooks_, aJ qwaterBooks2 ca 5 waterBooks_, oc_Steps qrows qlevels qamounts size_, aI qamounts ca 6 amounts_, aI qlevels ca 6 levels_] sz) := by
  refine wr_ofJ (R := (R0, R1, R2, R3, R4, R5, R6, R7, R8, R9, R10, R11, R12, R13, R14, R15, R16, R17)) (val := fun r => r.1) (w1 := fun r : Int64 × Int32 × Int32 × Int64 × Int64 × Int32 × (Nat → Int32) × (Nat → Int32) × (Nat → Int64) × Int32 × Int64 × (Nat → Int32) × (Nat → Int32) × (Nat → Int32) × (Nat → Int32) × (Nat → Int32) × (Nat → Int64) × (Nat → Int64) => [oc_Room qa0 qhouse qtrial qrisks qriskPoints qrules qgauge hoursGone_, oc_House qtrial qinside qwalls qgoods qmachines, oc_House qhouse qinside2 qwalls2 qgoods2 qmachines2, oc_Interior qinside2 qheatBooks qwaterBooks volume_ share_ heat_ water_, oc_Interior qinside qheatBooks2 qwaterBooks2 r.2.1 r.2.2.1 r.2.2.2.1 r.2.2.2.2.1, oc_Walls qwalls2 qconductances qcapacities qheats layers_, oc_Walls qwalls qconductances2 qcapacities2 qheats2 r.2.2.2.2.2.1, aI qconductances ca 5 conductances_, aI qconductances2 ca 5 r.2.2.2.2.2.2.1, aI qcapacities ca 5 capacities_, aI qcapacities2 ca 5 r.2.2.2.2.2.2.2.1, aJ qheats ca 5 heats_, aJ qheats2 ca 5 r.2.2.2.2.2.2.2.2.1, oc_Goods qgoods2 qrows kilograms_ load_, oc_Goods qgoods qrows r.2.2.2.2.2.2.2.2.2.1 r.2.2.2.2.2.2.2.2.2.2.1, oc_Machines qmachines qlows qhighs qrates qtold qrunning, oc_Machines qmachines2 qlows2 qhighs2 qrates2 qtold2 qrunning2, aI qlows2 ca 4 lows_, aI qlows ca 4 r.2.2.2.2.2.2.2.2.2.2.2.1, aI qhighs2 ca 4 highs_, aI qhighs ca 4 r.2.2.2.2.2.2.2.2.2.2.2.2.1, aI qrates2 ca 4 rates_, aI qrates ca 4 r.2.2.2.2.2.2.2.2.2.2.2.2.2.1, aZ qtold2 ca 4 told_, aZ qtold ca 4 r.2.2.2.2.2.2.2.2.2.2.2.2.2.2.1, aZ qrunning2 ca 4 running_, aZ qrunning ca 4 r.2.2.2.2.2.2.2.2.2.2.2.2.2.2.2.1, aJ qheatBooks2 ca 5 r.2.2.2.2.2.2.2.2.2.2.2.2.2.2.2.2.1, aJ qwaterBooks2 ca 5 r.2.2.2.2.2.2.2.2.2.2.2.2.2.2.2.2.2, oc_Steps qrows qlevels qamounts size_, aI qamounts ca 6 amounts_, aI qlevels ca 6 levels_]) (by decide +kernel) (Nat.le_of_ble_eq_true rfl) ?_
  intro p e s m below meth c Q ar ls hx hb hml hts hown hP hK A hD hA hl hret
  have hS : va_S A s.heap s.heap [] := va_S.rf
  have hown : s.vm.findClass nR_Room = some m.cls := hown
  have hl : lv_has ls 8 [(0, .ref qa0), (1, .int x1), (2, .int x2), (3, .int x3), (4, .int x4)] := hl
  unfold fn_Room_costOfLevel at hR
  refine lv_aload_n hx hb nd_Room_costOfLevel_0 rfl (lv_at hl 0 rfl) ?_
  refine va_get (D := D) (ci := 8) (v := .ref qtrial) (C := nR_Room) (T := nT_Room) (N := 7) hx hb hts ni_Room hown hK hP 0 rfl rfl 1 (by decide) (hts (.fieldLink nR_Room 23 "RoomClimate" "trial" "LRoomClimate$House;") tt_223) (fun _ h9 => h9) rfl nd_Room_costOfLevel_1 ?_
  refine lv_aload_n hx hb nd_Room_costOfLevel_4 rfl (lv_at hl 0 rfl) ?_
  refine va_get (D := D) (ci := 8) (v := .ref qhouse) (C := nR_Room) (T := nT_Room) (N := 7) hx hb hts ni_Room hown hK hP 0 rfl rfl 0 (by decide) (hts (.fieldLink nR_Room 19 "RoomClimate" "house" "LRoomClimate$House;") tt_222) (fun _ h9 => h9) rfl nd_Room_costOfLevel_5 ?_
  obtain ⟨u1_0, u1_1, u1_2, u1_3, u1_4, u1_5, u1_6, u1_7, u1_8, u1_9, u1_10, u1_11, u1_12, u1_13, u1_14, e1, hR⟩ := q_b15 hR
  refine k_wVV (wr := [oc_Room qa0 qhouse qtrial qrisks qriskPoints qrules qgauge hoursGone_, aJ qheatBooks2 ca 5 heatBooks_, aJ qwaterBooks2 ca 5 waterBooks_, oc_Steps qrows qlevels qamounts size_, aI qamounts ca 6 amounts_, aI qlevels ca 6 levels_]) (w2 := [oc_Room qa0 qhouse qtrial qrisks qriskPoints qrules qgauge hoursGone_, oc_House qtrial qinside qwalls qgoods qmachines, oc_House qhouse qinside2 qwalls2 qgoods2 qmachines2, oc_Interior qinside2 qheatBooks qwaterBooks volume_ share_ heat_ water_, oc_Interior qinside qheatBooks2 qwaterBooks2 u1_0 u1_1 u1_2 u1_3, oc_Walls qwalls2 qconductances qcapacities qheats layers_, oc_Walls qwalls qconductances2 qcapacities2 qheats2 u1_4, aI qconductances ca 5 conductances_, aI qconductances2 ca 5 u1_5, aI qcapacities ca 5 capacities_, aI qcapacities2 ca 5 u1_6, aJ qheats ca 5 heats_, aJ qheats2 ca 5 u1_7, oc_Goods qgoods2 qrows kilograms_ load_, oc_Goods qgoods qrows u1_8 u1_9, oc_Machines qmachines qlows qhighs qrates qtold qrunning, oc_Machines qmachines2 qlows2 qhighs2 qrates2 qtold2 qrunning2, aI qlows2 ca 4 lows_, aI qlows ca 4 u1_10, aI qhighs2 ca 4 highs_, aI qhighs ca 4 u1_11, aI qrates2 ca 4 rates_, aI qrates ca 4 u1_12, aZ qtold2 ca 4 told_, aZ qtold ca 4 u1_13, aZ qrunning2 ca 4 running_, aZ qrunning ca 4 u1_14, aJ qheatBooks2 ca 5 heatBooks_, aJ qwaterBooks2 ca 5 waterBooks_, oc_Steps qrows qlevels qamounts size_, aI qamounts ca 6 amounts_, aI qlevels ca 6 levels_]) (As := [.ref qhouse]) (rest := []) hx hb hml hown hts (cn_House_copyFrom l D ca qtrial qinside qwalls qgoods qmachines qhouse qinside2 qwalls2 qgoods2 qmachines2 qheatBooks qwaterBooks qheatBooks2 qwaterBooks2 qconductances qcapacities qheats qconductances2 qcapacities2 qheats2 qrows qrows qlows qhighs qrates qtold qrunning qlows2 qhighs2 qrates2 qtold2 qrunning2 volume_ share_ heat_ water_ volume_2 share_2 heat_2 water_2 layers_ layers_2 conductances_ conductances_2 capacities_ capacities_2 heats_ heats_2 kilograms_ load_ kilograms_2 load_2 lows_ lows_2 highs_ highs_2 rates_ rates_2 told_ told_2 running_ running_2 u1_0 u1_1 u1_2 u1_3 u1_4 u1_5 u1_6 u1_7 u1_8 u1_9 u1_10 u1_11 u1_12 u1_13 u1_14 e1 _) kc_House_copyFrom kv_House_copyFrom tt_675 ⟨by decide, by decide⟩ rfl rfl hP hK hD hS hA [1, 2, 3, 4, 5, 6, 7, 8, 9, 10, 11, 12, 13, 14, 15, 16, 17, 18, 19, 20, 21, 22, 23, 24, 25, 26] [0, 27, 28, 29, 30, 31] [0, 6, 7, 8, 9, 10, 11, 12, 13, 14, 15, 16, 17, 18, 19, 20, 21, 22, 23, 24, 25, 26, 27, 28, 29, 30, 31, 1, 2, 3, 4, 5] rfl (by decide) rfl (by decide) (by decide) rfl (by decide) 0 rfl rfl rfl rfl hl.1 (Nat.le_of_ble_eq_true rfl) rfl nd_Room_costOfLevel_8 ⟨Nat.zero_le _, Nat.zero_le _⟩ (fun H locs hP hD hS => ?_)
  refine lv_aload_n hx hb nd_Room_costOfLevel_11 rfl (lv_at hl 0 rfl) ?_
  refine va_get (D := D) (ci := 8) (v := .ref qtrial) (C := nR_Room) (T := nT_Room) (N := 7) hx hb hts ni_Room hown hK hP 0 rfl rfl 1 (by decide) (hts (.fieldLink nR_Room 23 "RoomClimate" "trial" "LRoomClimate$House;") tt_223) (fun _ h9 => h9) rfl nd_Room_costOfLevel_12 ?_
  refine va_getN (D := D) (ci := 2) (v := .ref qmachines) (C := nR_House) (T := nT_House) (N := 4) hx hb hts ni_House hown hK hP 1 rfl rfl 3 (by decide) (hts (.fieldLinkNest nR_Room 112 "RoomClimate$House" "machines" "LRoomClimate$Machines;" "RoomClimate") tt_156) (fun _ h9 => h9) rfl nd_Room_costOfLevel_15 ?_
  refine lv_iconst (v := 0) hx hb nd_Room_costOfLevel_18 (by decide) ?_
  refine lv_iload_n hx hb nd_Room_costOfLevel_19 rfl (lv_at hl 1 rfl) ?_
  refine lv_iload_n hx hb nd_Room_costOfLevel_20 rfl (lv_at hl 1 rfl) ?_
  refine lv_sipush (v := 500) hx hb nd_Room_costOfLevel_21 (by decide) ?_
  refine lv_iadd hx hb nd_Room_costOfLevel_24 ?_
  refine lv_aload_n hx hb nd_Room_costOfLevel_25 rfl (lv_at hl 0 rfl) ?_
  refine va_get (D := D) (ci := 8) (v := .ref qhouse) (C := nR_Room) (T := nT_Room) (N := 7) hx hb hts ni_Room hown hK hP 0 rfl rfl 0 (by decide) (hts (.fieldLink nR_Room 19 "RoomClimate" "house" "LRoomClimate$House;") tt_222) (fun _ h9 => h9) rfl nd_Room_costOfLevel_26 ?_
  refine va_getN (D := D) (ci := 2) (v := .ref qmachines2) (C := nR_House) (T := nT_House) (N := 4) hx hb hts ni_House hown hK hP 2 rfl rfl 3 (by decide) (hts (.fieldLinkNest nR_Room 112 "RoomClimate$House" "machines" "LRoomClimate$Machines;" "RoomClimate") tt_156) (fun _ h9 => h9) rfl nd_Room_costOfLevel_29 ?_
  refine lv_iconst (v := 0) hx hb nd_Room_costOfLevel_32 (by decide) ?_
  refine lv_sipush (v := 5000) hx hb nd_Room_costOfLevel_33 (by decide) ?_
  obtain ⟨r2, e2, hR⟩ := q_b1 hR
  refine k_rVI (As := [.int (0 : Int32), .int (5000 : Int32)]) (rest := [.int (x1 + (500 : Int32)), .int x1, .int (0 : Int32), .ref qmachines]) (r := r2) hx hb hml hown hts (cn_Machines_rateOr l D ca qmachines2 qlows2 qhighs2 qrates2 qtold2 qrunning2 told_ rates_ (0 : Int32) (5000 : Int32) r2 e2) kc_Machines_rateOr kv_Machines_rateOr tt_695 ⟨by decide, by decide⟩ rfl rfl hP hK [16, 23, 21] rfl 0 rfl rfl rfl rfl hl.1 (Nat.le_of_ble_eq_true rfl) rfl nd_Room_costOfLevel_36 ⟨Nat.zero_le _, Nat.zero_le _⟩ ?_
  obtain ⟨u3_0, u3_1, u3_2, u3_3, u3_4, e3, hR⟩ := q_b5 hR
  refine k_wVV (wr := [oc_Room qa0 qhouse qtrial qrisks qriskPoints qrules qgauge hoursGone_, oc_House qtrial qinside qwalls qgoods qmachines, oc_House qhouse qinside2 qwalls2 qgoods2 qmachines2, oc_Interior qinside2 qheatBooks qwaterBooks volume_ share_ heat_ water_, oc_Interior qinside qheatBooks2 qwaterBooks2 u1_0 u1_1 u1_2 u1_3, oc_Walls qwalls2 qconductances qcapacities qheats layers_, oc_Walls qwalls qconductances2 qcapacities2 qheats2 u1_4, aI qconductances ca 5 conductances_, aI qconductances2 ca 5 u1_5, aI qcapacities ca 5 capacities_, aI qcapacities2 ca 5 u1_6, aJ qheats ca 5 heats_, aJ qheats2 ca 5 u1_7, oc_Goods qgoods2 qrows kilograms_ load_, oc_Goods qgoods qrows u1_8 u1_9, oc_Machines qmachines2 qlows2 qhighs2 qrates2 qtold2 qrunning2, aI qlows2 ca 4 lows_, aI qhighs2 ca 4 highs_, aI qrates2 ca 4 rates_, aZ qtold2 ca 4 told_, aZ qrunning2 ca 4 running_, aJ qheatBooks2 ca 5 heatBooks_, aJ qwaterBooks2 ca 5 waterBooks_, oc_Steps qrows qlevels qamounts size_, aI qamounts ca 6 amounts_, aI qlevels ca 6 levels_]) (w2 := [oc_Room qa0 qhouse qtrial qrisks qriskPoints qrules qgauge hoursGone_, oc_House qtrial qinside qwalls qgoods qmachines, oc_House qhouse qinside2 qwalls2 qgoods2 qmachines2, oc_Interior qinside2 qheatBooks qwaterBooks volume_ share_ heat_ water_, oc_Interior qinside qheatBooks2 qwaterBooks2 u1_0 u1_1 u1_2 u1_3, oc_Walls qwalls2 qconductances qcapacities qheats layers_, oc_Walls qwalls qconductances2 qcapacities2 qheats2 u1_4, aI qconductances ca 5 conductances_, aI qconductances2 ca 5 u1_5, aI qcapacities ca 5 capacities_, aI qcapacities2 ca 5 u1_6, aJ qheats ca 5 heats_, aJ qheats2 ca 5 u1_7, oc_Goods qgoods2 qrows kilograms_ load_, oc_Goods qgoods qrows u1_8 u1_9, oc_Machines qmachines qlows qhighs qrates qtold qrunning, oc_Machines qmachines2 qlows2 qhighs2 qrates2 qtold2 qrunning2, aI qlows2 ca 4 lows_, aI qlows ca 4 u3_0, aI qhighs2 ca 4 highs_, aI qhighs ca 4 u3_1, aI qrates2 ca 4 rates_, aI qrates ca 4 u3_2, aZ qtold2 ca 4 told_, aZ qtold ca 4 u3_3, aZ qrunning2 ca 4 running_, aZ qrunning ca 4 u3_4, aJ qheatBooks2 ca 5 heatBooks_, aJ qwaterBooks2 ca 5 waterBooks_, oc_Steps qrows qlevels qamounts size_, aI qamounts ca 6 amounts_, aI qlevels ca 6 levels_]) (As := [.int (0 : Int32), .int x1, .int (x1 + (500 : Int32)), .int r2]) (rest := []) hx hb hml hown hts (cn_Machines_install l D ca qmachines qlows qhighs qrates qtold qrunning u1_10 u1_11 u1_12 u1_13 u1_14 (0 : Int32) x1 (x1 + (500 : Int32)) r2 u3_0 u3_1 u3_2 u3_3 u3_4 e3 _) kc_Machines_install kv_Machines_install tt_437 ⟨by decide, by decide⟩ rfl rfl hP hK hD hS hA [15, 18, 20, 22, 24, 26] [0, 1, 2, 3, 4, 5, 6, 7, 8, 9, 10, 11, 12, 13, 14, 16, 17, 19, 21, 23, 25, 27, 28, 29, 30, 31] [0, 1, 2, 3, 4, 5, 6, 7, 8, 9, 10, 11, 12, 13, 14, 26, 15, 16, 27, 17, 28, 18, 29, 19, 30, 20, 31, 21, 22, 23, 24, 25] rfl (by decide) rfl (by decide) (by decide) rfl (by decide) 0 rfl rfl rfl rfl hl.1 (Nat.le_of_ble_eq_true rfl) rfl nd_Room_costOfLevel_39 ⟨Nat.zero_le _, Nat.zero_le _⟩ (fun H locs hP hD hS => ?_)
  refine lv_lconst (v := 0) hx hb nd_Room_costOfLevel_42 (by decide) ?_
  refine lv_lstore (lv' := [(5, .long (0 : Int64)), (0, .ref qa0), (1, .int x1), (2, .int x2), (3, .int x3), (4, .int x4)]) hx hb nd_Room_costOfLevel_43 hl (by decide) rfl (fun ls hl => ?_)
  refine lv_iconst (v := 0) hx hb nd_Room_costOfLevel_45 (by decide) ?_
  refine lv_istore (lv' := [(7, .int (0 : Int32)), (5, .long (0 : Int64)), (0, .ref qa0), (1, .int x1), (2, .int x2), (3, .int x3), (4, .int x4)]) hx hb nd_Room_costOfLevel_46 hl (by decide) rfl (fun ls hl => ?_)
  have hL48 : ∀ (n48 : Nat) (i5_48 : Int64) (i7_48 : Int32) (heat_2L48 : Int64) (water_2L48 : Int64) (heats_2L48 : Nat → Int64) (load_2L48 : Int64) (running_2L48 : Nat → Int32) (heatBooks_L48 : Nat → Int64) (waterBooks_L48 : Nat → Int64) (H : Heap) (locs : List Loc) (ls : Array Slot), fn_Room_costOfLevel_L48 x2 x3 x4 u1_0 u1_1 u1_4 u1_5 u1_6 u1_8 u3_0 u3_1 u3_2 u3_3 size_ amounts_ levels_ n48 i5_48 i7_48 heat_2L48 water_2L48 heats_2L48 load_2L48 running_2L48 heatBooks_L48 waterBooks_L48 = some (R0, R1, R2, R3, R4, R5, R6, R7, R8, R9, R10, R11, R12, R13, R14, R15, R16, R17) → va_P D vwCl [oc_Room qa0 qhouse qtrial qrisks qriskPoints qrules qgauge hoursGone_, oc_House qtrial qinside qwalls qgoods qmachines, oc_House qhouse qinside2 qwalls2 qgoods2 qmachines2, oc_Interior qinside2 qheatBooks qwaterBooks volume_ share_ heat_ water_, oc_Interior qinside qheatBooks2 qwaterBooks2 u1_0 u1_1 heat_2L48 water_2L48, oc_Walls qwalls2 qconductances qcapacities qheats layers_, oc_Walls qwalls qconductances2 qcapacities2 qheats2 u1_4, aI qconductances ca 5 conductances_, aI qconductances2 ca 5 u1_5, aI qcapacities ca 5 capacities_, aI qcapacities2 ca 5 u1_6, aJ qheats ca 5 heats_, aJ qheats2 ca 5 heats_2L48, oc_Goods qgoods2 qrows kilograms_ load_, oc_Goods qgoods qrows u1_8 load_2L48, oc_Machines qmachines qlows qhighs qrates qtold qrunning, oc_Machines qmachines2 qlows2 qhighs2 qrates2 qtold2 qrunning2, aI qlows2 ca 4 lows_, aI qlows ca 4 u3_0, aI qhighs2 ca 4 highs_, aI qhighs ca 4 u3_1, aI qrates2 ca 4 rates_, aI qrates ca 4 u3_2, aZ qtold2 ca 4 told_, aZ qtold ca 4 u3_3, aZ qrunning2 ca 4 running_, aZ qrunning ca 4 running_2L48, aJ qheatBooks2 ca 5 heatBooks_L48, aJ qwaterBooks2 ca 5 waterBooks_L48, oc_Steps qrows qlevels qamounts size_, aI qamounts ca 6 amounts_, aI qlevels ca 6 levels_] H → va_D A [oc_Room qa0 qhouse qtrial qrisks qriskPoints qrules qgauge hoursGone_, oc_House qtrial qinside qwalls qgoods qmachines, oc_House qhouse qinside2 qwalls2 qgoods2 qmachines2, oc_Interior qinside2 qheatBooks qwaterBooks volume_ share_ heat_ water_, oc_Interior qinside qheatBooks2 qwaterBooks2 u1_0 u1_1 heat_2L48 water_2L48, oc_Walls qwalls2 qconductances qcapacities qheats layers_, oc_Walls qwalls qconductances2 qcapacities2 qheats2 u1_4, aI qconductances ca 5 conductances_, aI qconductances2 ca 5 u1_5, aI qcapacities ca 5 capacities_, aI qcapacities2 ca 5 u1_6, aJ qheats ca 5 heats_, aJ qheats2 ca 5 heats_2L48, oc_Goods qgoods2 qrows kilograms_ load_, oc_Goods qgoods qrows u1_8 load_2L48, oc_Machines qmachines qlows qhighs qrates qtold qrunning, oc_Machines qmachines2 qlows2 qhighs2 qrates2 qtold2 qrunning2, aI qlows2 ca 4 lows_, aI qlows ca 4 u3_0, aI qhighs2 ca 4 highs_, aI qhighs ca 4 u3_1, aI qrates2 ca 4 rates_, aI qrates ca 4 u3_2, aZ qtold2 ca 4 told_, aZ qtold ca 4 u3_3, aZ qrunning2 ca 4 running_, aZ qrunning ca 4 running_2L48, aJ qheatBooks2 ca 5 heatBooks_L48, aJ qwaterBooks2 ca 5 waterBooks_L48, oc_Steps qrows qlevels qamounts size_, aI qamounts ca 6 amounts_, aI qlevels ca 6 levels_] → va_S A s.heap H locs → lv_has ls 8 [(0, .ref qa0), (1, .int x1), (2, .int x2), (3, .int x3), (4, .int x4), (5, .long i5_48), (7, .int i7_48)] → W p l e rm_Room_costOfLevel s m ar below meth c H locs 0 0 Q (F0 m 48 ls []) := by
    intro n48
    induction n48 with
    | zero => intro i5_48 i7_48 heat_2L48 water_2L48 heats_2L48 load_2L48 running_2L48 heatBooks_L48 waterBooks_L48 H locs ls hR; exact nomatch hR
    | succ n48 ih48 =>
      intro i5_48 i7_48 heat_2L48 water_2L48 heats_2L48 load_2L48 running_2L48 heatBooks_L48 waterBooks_L48 H locs ls hR hP hD hS hl
      rw [fn_Room_costOfLevel_L48] at hR
      refine lv_iload hx hb nd_Room_costOfLevel_48 (lv_at hl 6 rfl) ?_
      refine lv_iload_n hx hb nd_Room_costOfLevel_50 rfl (lv_at hl 2 rfl) ?_
      refine lv_icmp_ge (tgt := 106) hx hb nd_Room_costOfLevel_51 (by decide) (fun c4 => ?_) (fun c4 => ?_)
      · replace hR := q_p c4 hR
        refine lv_lload hx hb nd_Room_costOfLevel_106 (lv_at hl 5 rfl) ?_
        exact hret (i5_48, u1_0, u1_1, heat_2L48, water_2L48, u1_4, u1_5, u1_6, heats_2L48, u1_8, load_2L48, u3_0, u3_1, u3_2, u3_3, running_2L48, heatBooks_L48, waterBooks_L48) _ _ _ _ nd_Room_costOfLevel_108 hR hP hD hS
      · replace hR := q_n c4 hR
        refine lv_aload_n hx hb nd_Room_costOfLevel_54 rfl (lv_at hl 0 rfl) ?_
        refine va_get (D := D) (ci := 8) (v := .ref qtrial) (C := nR_Room) (T := nT_Room) (N := 7) hx hb hts ni_Room hown hK hP 0 rfl rfl 1 (by decide) (hts (.fieldLink nR_Room 23 "RoomClimate" "trial" "LRoomClimate$House;") tt_223) (fun _ h9 => h9) rfl nd_Room_costOfLevel_55 ?_
        refine lv_iload_n hx hb nd_Room_costOfLevel_58 rfl (lv_at hl 3 rfl) ?_
        refine lv_iload hx hb nd_Room_costOfLevel_59 (lv_at hl 4 rfl) ?_
        refine lv_iconst (v := 0) hx hb nd_Room_costOfLevel_61 (by decide) ?_
        obtain ⟨u5_0, u5_1, u5_2, u5_3, u5_4, u5_5, u5_6, e5, hR⟩ := q_b7 hR
        refine k_wVV (wr := [oc_Room qa0 qhouse qtrial qrisks qriskPoints qrules qgauge hoursGone_, oc_House qhouse qinside2 qwalls2 qgoods2 qmachines2, oc_Interior qinside2 qheatBooks qwaterBooks volume_ share_ heat_ water_, oc_Walls qwalls2 qconductances qcapacities qheats layers_, aI qconductances ca 5 conductances_, aI qcapacities ca 5 capacities_, aJ qheats ca 5 heats_, oc_Goods qgoods2 qrows kilograms_ load_, oc_Machines qmachines2 qlows2 qhighs2 qrates2 qtold2 qrunning2, aI qlows2 ca 4 lows_, aI qhighs2 ca 4 highs_, aI qrates2 ca 4 rates_, aZ qtold2 ca 4 told_, aZ qrunning2 ca 4 running_]) (w2 := [oc_Room qa0 qhouse qtrial qrisks qriskPoints qrules qgauge hoursGone_, oc_House qtrial qinside qwalls qgoods qmachines, oc_House qhouse qinside2 qwalls2 qgoods2 qmachines2, oc_Interior qinside2 qheatBooks qwaterBooks volume_ share_ heat_ water_, oc_Interior qinside qheatBooks2 qwaterBooks2 u1_0 u1_1 u5_0 u5_2, oc_Walls qwalls2 qconductances qcapacities qheats layers_, oc_Walls qwalls qconductances2 qcapacities2 qheats2 u1_4, aI qconductances ca 5 conductances_, aI qconductances2 ca 5 u1_5, aI qcapacities ca 5 capacities_, aI qcapacities2 ca 5 u1_6, aJ qheats ca 5 heats_, aJ qheats2 ca 5 u5_4, oc_Goods qgoods2 qrows kilograms_ load_, oc_Goods qgoods qrows u1_8 u5_5, oc_Machines qmachines qlows qhighs qrates qtold qrunning, oc_Machines qmachines2 qlows2 qhighs2 qrates2 qtold2 qrunning2, aI qlows2 ca 4 lows_, aI qlows ca 4 u3_0, aI qhighs2 ca 4 highs_, aI qhighs ca 4 u3_1, aI qrates2 ca 4 rates_, aI qrates ca 4 u3_2, aZ qtold2 ca 4 told_, aZ qtold ca 4 u3_3, aZ qrunning2 ca 4 running_, aZ qrunning ca 4 u5_6, aJ qheatBooks2 ca 5 u5_1, aJ qwaterBooks2 ca 5 u5_3, oc_Steps qrows qlevels qamounts size_, aI qamounts ca 6 amounts_, aI qlevels ca 6 levels_]) (As := [.int x3, .int x4, .int (0 : Int32)]) (rest := []) hx hb hml hown hts (cn_House_pass l D ca qtrial qinside qwalls qgoods qmachines qheatBooks2 qwaterBooks2 qconductances2 qcapacities2 qheats2 qrows qlevels qamounts qlows qhighs qrates qtold qrunning u1_0 u1_1 heat_2L48 water_2L48 heatBooks_L48 waterBooks_L48 u1_4 heats_2L48 u1_5 u1_6 u1_8 load_2L48 size_ amounts_ levels_ u3_3 u3_0 u3_1 running_2L48 u3_2 6 x3 x4 (0 : Int32) u5_0 u5_1 u5_2 u5_3 u5_4 u5_5 u5_6 e5 _) kc_House_pass kv_House_pass tt_448 ⟨by decide, by decide⟩ rfl rfl hP hK hD hS hA [1, 4, 27, 28, 6, 12, 8, 10, 14, 29, 30, 31, 15, 24, 18, 20, 26, 22] [0, 2, 3, 5, 7, 9, 11, 13, 16, 17, 19, 21, 23, 25] [0, 14, 1, 2, 15, 3, 18, 4, 20, 5, 21, 6, 19, 7, 22, 26, 8, 9, 28, 10, 29, 11, 31, 12, 27, 13, 30, 16, 17, 23, 24, 25] rfl (by decide) rfl (by decide) (by decide) rfl (by decide) 0 rfl rfl rfl rfl hl.1 (Nat.le_of_ble_eq_true rfl) rfl nd_Room_costOfLevel_62 ⟨Nat.zero_le _, Nat.zero_le _⟩ (fun H locs hP hD hS => ?_)
        refine lv_lload hx hb nd_Room_costOfLevel_65 (lv_at hl 5 rfl) ?_
        refine lv_aload_n hx hb nd_Room_costOfLevel_67 rfl (lv_at hl 0 rfl) ?_
        refine va_get (D := D) (ci := 8) (v := .ref qtrial) (C := nR_Room) (T := nT_Room) (N := 7) hx hb hts ni_Room hown hK hP 0 rfl rfl 1 (by decide) (hts (.fieldLink nR_Room 23 "RoomClimate" "trial" "LRoomClimate$House;") tt_223) (fun _ h9 => h9) rfl nd_Room_costOfLevel_68 ?_
        refine va_getN (D := D) (ci := 2) (v := .ref qmachines) (C := nR_House) (T := nT_House) (N := 4) hx hb hts ni_House hown hK hP 1 rfl rfl 3 (by decide) (hts (.fieldLinkNest nR_Room 112 "RoomClimate$House" "machines" "LRoomClimate$Machines;" "RoomClimate") tt_156) (fun _ h9 => h9) rfl nd_Room_costOfLevel_71 ?_
        refine lv_iconst (v := 0) hx hb nd_Room_costOfLevel_74 (by decide) ?_
        obtain ⟨r6, e6, hR⟩ := q_b1 hR
        refine k_rVI (As := [.int (0 : Int32)]) (rest := [.long i5_48]) (r := r6) hx hb hml hown hts (cn_Machines_output l D ca qmachines qlows qhighs qrates qtold qrunning u5_6 u3_2 (0 : Int32) r6 e6) kc_Machines_output kv_Machines_output tt_699 ⟨by decide, by decide⟩ rfl rfl hP hK [15, 26, 22] rfl 0 rfl rfl rfl rfl hl.1 (Nat.le_of_ble_eq_true rfl) rfl nd_Room_costOfLevel_75 ⟨Nat.zero_le _, Nat.zero_le _⟩ ?_
        refine lv_i2l hx hb nd_Room_costOfLevel_78 rfl ?_
        refine lv_ldc2 hx hb hown (hts _ tt_700) nd_Room_costOfLevel_79 ?_
        refine lv_aload_n hx hb nd_Room_costOfLevel_82 rfl (lv_at hl 0 rfl) ?_
        refine va_get (D := D) (ci := 8) (v := .ref qtrial) (C := nR_Room) (T := nT_Room) (N := 7) hx hb hts ni_Room hown hK hP 0 rfl rfl 1 (by decide) (hts (.fieldLink nR_Room 23 "RoomClimate" "trial" "LRoomClimate$House;") tt_223) (fun _ h9 => h9) rfl nd_Room_costOfLevel_83 ?_
        refine va_getN (D := D) (ci := 2) (v := .ref qinside) (C := nR_House) (T := nT_House) (N := 4) hx hb hts ni_House hown hK hP 1 rfl rfl 0 (by decide) (hts (.fieldLinkNest nR_Room 56 "RoomClimate$House" "inside" "LRoomClimate$Interior;" "RoomClimate") tt_150) (fun _ h9 => h9) rfl nd_Room_costOfLevel_86 ?_
        obtain ⟨r7, e7, hR⟩ := q_b1 hR
        refine k_rVJ (As := []) (rest := [.long (100 : Int64), .long r6.toInt64, .long i5_48]) (r := r7) hx hb hml hown hts (cn_Interior_warmth l D ca qinside qheatBooks2 qwaterBooks2 u1_0 u1_1 u5_0 u5_2 r7 e7) kc_Interior_warmth kv_Interior_warmth tt_248 ⟨by decide, by decide⟩ rfl rfl hP hK [4] rfl 0 rfl rfl rfl rfl hl.1 (Nat.le_of_ble_eq_true rfl) rfl nd_Room_costOfLevel_89 ⟨Nat.zero_le _, Nat.zero_le _⟩ ?_
        obtain ⟨r8, e8, hR⟩ := q_b1 hR
        refine k_rSJ (As := [.long r7]) (rest := [.long (100 : Int64), .long r6.toInt64, .long i5_48]) (r := r8) hx hb hml hown hts (cn_Room_distanceFromPlanned l D ca r7 r8 e8) kc_Room_distanceFromPlanned ks_Room_distanceFromPlanned tt_701 ⟨by decide, by decide⟩ rfl rfl hP hK [] rfl rfl hl.1 (Nat.le_of_ble_eq_true rfl) rfl nd_Room_costOfLevel_92 ⟨Nat.zero_le _, Nat.zero_le _⟩ ?_
        refine lv_lmul hx hb nd_Room_costOfLevel_95 ?_
        refine lv_ladd hx hb nd_Room_costOfLevel_96 ?_
        refine lv_ladd hx hb nd_Room_costOfLevel_97 ?_
        refine lv_lstore (lv' := [(5, .long (i5_48 + (r6.toInt64 + ((100 : Int64) * r8)))), (0, .ref qa0), (1, .int x1), (2, .int x2), (3, .int x3), (4, .int x4), (7, .int i7_48)]) hx hb nd_Room_costOfLevel_98 hl (by decide) rfl (fun ls hl => ?_)
        refine lv_iinc (v := i7_48 + 1) (lv' := [(7, .int (i7_48 + 1)), (5, .long (i5_48 + (r6.toInt64 + ((100 : Int64) * r8)))), (0, .ref qa0), (1, .int x1), (2, .int x2), (3, .int x3), (4, .int x4)]) hx hb nd_Room_costOfLevel_100 hl (k := 6) rfl (by first | rfl | decide) (by decide) rfl (fun ls hl => ?_)
        refine lv_goto (tgt := 48) hx hb nd_Room_costOfLevel_103 (by decide) ?_
        exact ih48 (i5_48 + (r6.toInt64 + ((100 : Int64) * r8))) (i7_48 + 1) u5_0 u5_2 u5_4 u5_5 u5_6 u5_1 u5_3 _ _ _ hR hP hD hS (lv_sub hl [2, 3, 4, 5, 6, 1, 0] rfl)
  exact hL48 400 (0 : Int64) (0 : Int32) u1_2 u1_3 u1_7 u1_9 u3_4 heatBooks_ waterBooks_ _ _ _ hR hP hD hS (lv_sub hl [2, 3, 4, 5, 6, 1, 0] rfl)
def rm_Room_plan : Room := { frames := 9, cells := 0, slots := 0, locals := 162 }
theorem kc_Room_plan : k_cal nY_Room_plan nC_Room_plan 10 (some .int) 3 := ⟨tt_670, tt_1, by decide +kernel⟩
theorem kv_Room_plan : k_vir nY_Room_plan := ⟨tt_668, tt_669⟩
set_option maxHeartbeats 4000000 in
set_option maxRecDepth 100000 in
theorem cn_Room_plan (l : Launch) (D : va_G) (ca : Nat → ClassId) (qa0 qhouse qtrial qrisks qriskPoints qrules qgauge qinside qwalls qgoods qmachines qinside2 qwalls2 qgoods2 qmachines2 qheatBooks qwaterBooks qheatBooks2 qwaterBooks2 qconductances qcapacities qheats qconductances2 qcapacities2 qheats2 qrows qlows qhighs qrates qtold qrunning qlows2 qhighs2 qrates2 qtold2 qrunning2 qlevels qamounts : Nat) (hoursGone_ : Int32) (volume_ : Int32) (share_ : Int32) (heat_ : Int64) (water_ : Int64) (volume_2 : Int32) (share_2 : Int32) (heat_2 : Int64) (water_2 : Int64) (layers_ : Int32) (layers_2 : Int32) (conductances_ : Nat → Int32) (conductances_2 : Nat → Int32) (capacities_ : Nat → Int32) (capacities_2 : Nat → Int32) (heats_ : Nat → Int64) (heats_2 : Nat → Int64) (kilograms_ : Int32) (load_ : Int64) (kilograms_2 : Int32) (load_2 : Int64) (lows_ : Nat → Int32) (lows_2 : Nat → Int32) (highs_ : Nat → Int32) (highs_2 : Nat → Int32) (rates_ : Nat → Int32) (rates_2 : Nat → Int32) (told_ : Nat → Int32) (told_2 : Nat → Int32) (running_ : Nat → Int32) (running_2 : Nat → Int32) (heatBooks_ : Nat → Int64) (waterBooks_ : Nat → Int64) (size_ : Int32) (amounts_ : Nat → Int32) (levels_ : Nat → Int32) (x1 : Int32) (x2 : Int32) (x3 : Int32) (R0 : Int32) (R1 : Int32) (R2 : Int32) (R3 : Int64) (R4 : Int64) (R5 : Int32) (R6 : Nat → Int32) (R7 : Nat → Int32) (R8 : Nat → Int64) (R9 : Int32) (R10 : Int64) (R11 : Nat → Int32) (R12 : Nat → Int32) (R13 : Nat → Int32) (R14 : Nat → Int32) (R15 : Nat → Int32) (R16 : Nat → Int64) (R17 : Nat → Int64) (hR : fn_Room_plan volume_ share_ heat_ water_ layers_ conductances_ conductances_2 capacities_ capacities_2 heats_ heats_2 kilograms_ load_ lows_ lows_2 highs_ highs_2 rates_ rates_2 told_ told_2 running_ running_2 heatBooks_ waterBooks_ size_ amounts_ levels_ x1 x2 x3 = some (.inr (R0, R1, R2, R3, R4, R5, R6, R7, R8, R9, R10, R11, R12, R13, R14, R15, R16, R17))) (sz : Nat) : Met l nY_Room_plan (Cond.code nY_Room_plan nC_Room_plan 10 (some .int) :: TT) rm_Room_plan (wr_P [.ref qa0, .int x1, .int x2, .int x3] D ca [oc_Room qa0 qhouse qtrial qrisks qriskPoints qrules qgauge hoursGone_, oc_House qtrial qinside qwalls qgoods qmachines, oc_House qhouse qinside2 qwalls2 qgoods2 qmachines2, oc_Interior qinside2 qheatBooks qwaterBooks volume_ share_ heat_ water_, oc_Interior qinside qheatBooks2 qwaterBooks2 volume_2 share_2 heat_2 water_2, oc_Walls qwalls2 qconductances qcapacities qheats layers_, oc_Walls qwalls qconductances2 qcapacities2 qheats2 layers_2, aI qconductances ca 5 conductances_, aI qconductances2 ca 5 conductances_2, aI qcapacities ca 5 capacities_, aI qcapacities2 ca 5 capacities_2, aJ qheats ca 5 heats_, aJ qheats2 ca 5 heats_2, oc_Goods qgoods2 qrows kilograms_ load_, oc_Goods qgoods qrows kilograms_2 load_2, oc_Machines qmachines qlows qhighs qrates qtold qrunning, oc_Machines qmachines2 qlows2 qhighs2 qrates2 qtold2 qrunning2, aI qlows2 ca 4 lows_, aI qlows ca 4 lows_2, aI qhighs2 ca 4 highs_, aI qhighs ca 4 highs_2, aI qrates2 ca 4 rates_, aI qrates ca 4 rates_2, aZ qtold2 ca 4 told_, aZ qtold ca 4 told_2, aZ qrunning2 ca 4 running_, aZ qrunning ca 4 running_2, aJ qheatBooks2 ca 5 heatBooks_, aJ qwaterBooks2 ca 5 waterBooks_, oc_Steps qrows qlevels qamounts size_, aI qamounts ca 6 amounts_, aI qlevels ca 6 levels_] sz) (va_Qi (fun x (_ : Unit) => x = R0) (wr_B D [oc_Room qa0 qhouse qtrial qrisks qriskPoints qrules qgauge hoursGone_, oc_House qtrial qinside qwalls qgoods qmachines, oc_House qhouse qinside2 qwalls2 qgoods2 qmachines2, oc_Interior qinside2 qheatBooks qwaterBooks volume_ share_ heat_ water_, oc_Interior qinside qheatBooks2 qwaterBooks2 volume_2 share_2 heat_2 water_2, oc_Walls qwalls2 qconductances qcapacities qheats layers_, oc_Walls qwalls qconductances2 qcapacities2 qheats2 layers_2, aI qconductances ca 5 conductances_, aI qconductances2 ca 5 conductances_2, aI qcapacities ca 5 capacities_, aI qcapacities2 ca 5 capacities_2, aJ qheats ca 5 heats_, aJ qheats2 ca 5 heats_2, oc_Goods qgoods2 qrows kilograms_ load_, oc_Goods qgoods qrows kilograms_2 load_2, oc_Machines qmachines qlows qhighs qrates qtold qrunning, oc_Machines qmachines2 qlows2 qhighs2 qrates2 qtold2 qrunning2, aI qlows2 ca 4 lows_, aI qlows ca 4 lows_2, aI qhighs2 ca 4 highs_, aI qhighs ca 4 highs_2, aI qrates2 ca 4 rates_, aI qrates ca 4 rates_2, aZ qtold2 ca 4 told_, aZ qtold ca 4 told_2, aZ qrunning2 ca 4 running_, aZ qrunning ca 4 running_2, aJ qheatBooks2 ca 5 heatBooks_, aJ qwaterBooks2 ca 5 waterBooks_, oc_Steps qrows qlevels qamounts size_, aI qamounts ca 6 amounts_, aI qlevels ca 6 levels_] sz [oc_Room qa0 qhouse qtrial qrisks qriskPoints qrules qgauge hoursGone_, oc_House qtrial qinside qwalls qgoods qmachines, oc_House qhouse qinside2 qwalls2 qgoods2 qmachines2, oc_Interior qinside2 qheatBooks qwaterBooks volume_ share_ heat_ water_, oc_Interior qinside qheatBooks2 qwaterBooks2 R1 R2 R3 R4, oc_Walls qwalls2 qconductances qcapacities qheats layers_, oc_Walls qwalls qconductances2 qcapacities2 qheats2 R5, aI qconductances ca 5 conductances_, aI qconductances2 ca 5 R6, aI qcapacities ca 5 capacities_, aI qcapacities2 ca 5 R7, aJ qheats ca 5 heats_, aJ qheats2 ca 5 R8, oc_Goods qgoods2 qrows kilograms_ load_, oc_Goods qgoods qrows R9 R10, oc_Machines qmachines qlows qhighs qrates qtold qrunning, oc_Machines qmachines2 qlows2 qhighs2 qrates2 qtold2 qrunning2, aI qlows2 ca 4 lows_, aI qlows ca 4 R11, aI qhighs2 ca 4 highs_, aI qhighs ca 4 R12, aI qrates2 ca 4 rates_, aI qrates ca 4 R13, aZ qtold2 ca 4 told_, aZ qtold ca 4 R14, aZ qrunning2 ca 4 running_, aZ qrunning ca 4 R15, aJ qheatBooks2 ca 5 R16, aJ qwaterBooks2 ca 5 R17, oc_Steps qrows qlevels qamounts size_, aI qamounts ca 6 amounts_, aI qlevels ca 6 levels_]) (va_A [oc_Room qa0 qhouse qtrial qrisks qriskPoints qrules qgauge hoursGone_, oc_House qtrial qinside qwalls qgoods qmachines, oc_House qhouse qinside2 qwalls2 qgoods2 qmachines2, oc_Interior qinside2 qheatBooks qwaterBooks volume_ share_ heat_ water_, oc_Interior qinside qheatBooks2 qwaterBooks2 volume_2 share_2 heat_2 water_2, oc_Walls qwalls2 qconductances qcapacities qheats layers_, oc_Walls qwalls qconductances2 qcapacities2 qheats2 layers_2, aI qconductances ca 5 conductances_, aI qconductances2 ca 5 conductances_2, aI qcapacities ca 5 capacities_, aI qcapacities2 ca 5 capacities_2, aJ qheats ca 5 heats_, aJ qheats2 ca 5 heats_2, oc_Goods qgoods2 qrows kilograms_ load_, oc_Goods qgoods qrows kilograms_2 load_2, oc_Machines qmachines qlows qhighs qrates qtold qrunning, oc_Machines qmachines2 qlows2 qhighs2 qrates2 qtold2 qrunning2, aI qlows2 ca 4 lows_, aI qlows ca 4 lows_2, aI qhighs2 ca 4 highs_, aI qhighs ca 4 highs_2, aI qrates2 ca 4 rates_, aI qrates ca 4 rates_2, aZ qtold2 ca 4 told_, aZ qtold ca 4 told_2, aZ qrunning2 ca 4 running_, aZ qrunning ca 4 running_2, aJ qheatBooks2 ca 5 heatBooks_, aJ qwaterBooks2 ca 5 waterBooks_, oc_Steps qrows qlevels qamounts size_, aI qamounts ca 6 amounts_, aI qlevels ca 6 levels_] sz)) 0 0 (va_A [oc_Room qa0 qhouse qtrial qrisks qriskPoints qrules qgauge hoursGone_, oc_House qtrial qinside qwalls qgoods qmachines, oc_House qhouse qinside2 qwalls2 qgoods2 qmachines2, oc_Interior qinside2 qheatBooks qwaterBooks volume_ share_ heat_ water_, oc_Interior qinside qheatBooks2 qwaterBooks2 volume_2 share_2 heat_2 water_2, oc_Walls qwalls2 qconductances qcapacities qheats layers_, oc_Walls qwalls qconductances2 qcapacities2 qheats2 layers_2, aI qconductances ca 5 conductances_, aI qconductances2 ca 5 conductances_2, aI qcapacities ca 5 capacities_, aI qcapacities2 ca 5 capacities_2, aJ qheats ca 5 heats_, aJ qheats2 ca 5 heats_2, oc_Goods qgoods2 qrows kilograms_ load_, oc_Goods qgoods qrows kilograms_2 load_2, oc_Machines qmachines qlows qhighs qrates qtold qrunning, oc_Machines qmachines2 qlows2 qhighs2 qrates2 qtold2 qrunning2, aI qlows2 ca 4 lows_, aI qlows ca 4 lows_2, aI qhighs2 ca 4 highs_, aI qhighs ca 4 highs_2, aI qrates2 ca 4 rates_, aI qrates ca 4 rates_2, aZ qtold2 ca 4 told_, aZ qtold ca 4 told_2, aZ qrunning2 ca 4 running_, aZ qrunning ca 4 running_2, aJ qheatBooks2 ca 5 heatBooks_, aJ qwaterBooks2 ca 5 waterBooks_, oc_Steps qrows qlevels qamounts size_, aI qamounts ca 6 amounts_, aI qlevels ca 6 levels_] sz) := by
  refine wr_ofI (R := (R0, R1, R2, R3, R4, R5, R6, R7, R8, R9, R10, R11, R12, R13, R14, R15, R16, R17)) (val := fun r => r.1) (w1 := fun r : Int32 × Int32 × Int32 × Int64 × Int64 × Int32 × (Nat → Int32) × (Nat → Int32) × (Nat → Int64) × Int32 × Int64 × (Nat → Int32) × (Nat → Int32) × (Nat → Int32) × (Nat → Int32) × (Nat → Int32) × (Nat → Int64) × (Nat → Int64) => [oc_Room qa0 qhouse qtrial qrisks qriskPoints qrules qgauge hoursGone_, oc_House qtrial qinside qwalls qgoods qmachines, oc_House qhouse qinside2 qwalls2 qgoods2 qmachines2, oc_Interior qinside2 qheatBooks qwaterBooks volume_ share_ heat_ water_, oc_Interior qinside qheatBooks2 qwaterBooks2 r.2.1 r.2.2.1 r.2.2.2.1 r.2.2.2.2.1, oc_Walls qwalls2 qconductances qcapacities qheats layers_, oc_Walls qwalls qconductances2 qcapacities2 qheats2 r.2.2.2.2.2.1, aI qconductances ca 5 conductances_, aI qconductances2 ca 5 r.2.2.2.2.2.2.1, aI qcapacities ca 5 capacities_, aI qcapacities2 ca 5 r.2.2.2.2.2.2.2.1, aJ qheats ca 5 heats_, aJ qheats2 ca 5 r.2.2.2.2.2.2.2.2.1, oc_Goods qgoods2 qrows kilograms_ load_, oc_Goods qgoods qrows r.2.2.2.2.2.2.2.2.2.1 r.2.2.2.2.2.2.2.2.2.2.1, oc_Machines qmachines qlows qhighs qrates qtold qrunning, oc_Machines qmachines2 qlows2 qhighs2 qrates2 qtold2 qrunning2, aI qlows2 ca 4 lows_, aI qlows ca 4 r.2.2.2.2.2.2.2.2.2.2.2.1, aI qhighs2 ca 4 highs_, aI qhighs ca 4 r.2.2.2.2.2.2.2.2.2.2.2.2.1, aI qrates2 ca 4 rates_, aI qrates ca 4 r.2.2.2.2.2.2.2.2.2.2.2.2.2.1, aZ qtold2 ca 4 told_, aZ qtold ca 4 r.2.2.2.2.2.2.2.2.2.2.2.2.2.2.1, aZ qrunning2 ca 4 running_, aZ qrunning ca 4 r.2.2.2.2.2.2.2.2.2.2.2.2.2.2.2.1, aJ qheatBooks2 ca 5 r.2.2.2.2.2.2.2.2.2.2.2.2.2.2.2.2.1, aJ qwaterBooks2 ca 5 r.2.2.2.2.2.2.2.2.2.2.2.2.2.2.2.2.2, oc_Steps qrows qlevels qamounts size_, aI qamounts ca 6 amounts_, aI qlevels ca 6 levels_]) (by decide +kernel) (Nat.le_of_ble_eq_true rfl) ?_
  intro p e s m below meth c Q ar ls hx hb hml hts hown hP hK A hD hA hl hret
  have hS : va_S A s.heap s.heap [] := va_S.rf
  have hown : s.vm.findClass nR_Room = some m.cls := hown
  have hl : lv_has ls 10 [(0, .ref qa0), (1, .int x1), (2, .int x2), (3, .int x3)] := hl
  unfold fn_Room_plan at hR
  refine lv_iload_n hx hb nd_Room_plan_0 rfl (lv_at hl 1 rfl) ?_
  refine lv_iconst (v := 1) hx hb nd_Room_plan_1 (by decide) ?_
  refine lv_bipush (v := 24) hx hb nd_Room_plan_2 (by decide) ?_
  obtain ⟨e1, hR⟩ := q_xr hR
  refine k_rSV (As := [.int x1, .int (1 : Int32), .int (24 : Int32)]) (rest := []) hx hb hml hown hts (cn_Room_requireWithin l D ca x1 (1 : Int32) (24 : Int32) e1) kc_Room_requireWithin ks_Room_requireWithin tt_278 ⟨by decide, by decide⟩ rfl rfl hP hK [] rfl rfl hl.1 (Nat.le_of_ble_eq_true rfl) rfl nd_Room_plan_4 ⟨Nat.zero_le _, Nat.zero_le _⟩ ?_
  refine lv_iload_n hx hb nd_Room_plan_7 rfl (lv_at hl 2 rfl) ?_
  refine lv_ldc hx hb hown (hts _ tt_435) nd_Room_plan_8 ?_
  refine lv_ldc hx hb hown (hts _ tt_395) nd_Room_plan_10 ?_
  obtain ⟨e2, hR⟩ := q_xr hR
  refine k_rSV (As := [.int x2, .int (-60000 : Int32), .int (60000 : Int32)]) (rest := []) hx hb hml hown hts (cn_Room_requireWithin l D ca x2 (-60000 : Int32) (60000 : Int32) e2) kc_Room_requireWithin ks_Room_requireWithin tt_278 ⟨by decide, by decide⟩ rfl rfl hP hK [] rfl rfl hl.1 (Nat.le_of_ble_eq_true rfl) rfl nd_Room_plan_12 ⟨Nat.zero_le _, Nat.zero_le _⟩ ?_
  refine lv_iload_n hx hb nd_Room_plan_15 rfl (lv_at hl 3 rfl) ?_
  refine lv_iconst (v := 0) hx hb nd_Room_plan_16 (by decide) ?_
  refine lv_ldc hx hb hown (hts _ tt_395) nd_Room_plan_17 ?_
  obtain ⟨e3, hR⟩ := q_xr hR
  refine k_rSV (As := [.int x3, .int (0 : Int32), .int (60000 : Int32)]) (rest := []) hx hb hml hown hts (cn_Room_requireWithin l D ca x3 (0 : Int32) (60000 : Int32) e3) kc_Room_requireWithin ks_Room_requireWithin tt_278 ⟨by decide, by decide⟩ rfl rfl hP hK [] rfl rfl hl.1 (Nat.le_of_ble_eq_true rfl) rfl nd_Room_plan_19 ⟨Nat.zero_le _, Nat.zero_le _⟩ ?_
  replace hR := q_lr hR
  refine lv_sipush (v := 18000) hx hb nd_Room_plan_22 (by decide) ?_
  refine lv_istore (lv' := [(4, .int (18000 : Int32)), (0, .ref qa0), (1, .int x1), (2, .int x2), (3, .int x3)]) hx hb nd_Room_plan_25 hl (by decide) rfl (fun ls hl => ?_)
  refine lv_aload_n hx hb nd_Room_plan_27 rfl (lv_at hl 1 rfl) ?_
  refine lv_sipush (v := 18000) hx hb nd_Room_plan_28 (by decide) ?_
  refine lv_iload_n hx hb nd_Room_plan_31 rfl (lv_at hl 2 rfl) ?_
  refine lv_iload_n hx hb nd_Room_plan_32 rfl (lv_at hl 3 rfl) ?_
  refine lv_iload_n hx hb nd_Room_plan_33 rfl (lv_at hl 4 rfl) ?_
  obtain ⟨r4, u4_0, u4_1, u4_2, u4_3, u4_4, u4_5, u4_6, u4_7, u4_8, u4_9, u4_10, u4_11, u4_12, u4_13, u4_14, u4_15, u4_16, e4, hR⟩ := q_b18 hR
  refine k_wVJ (wr := []) (w2 := [oc_Room qa0 qhouse qtrial qrisks qriskPoints qrules qgauge hoursGone_, oc_House qtrial qinside qwalls qgoods qmachines, oc_House qhouse qinside2 qwalls2 qgoods2 qmachines2, oc_Interior qinside2 qheatBooks qwaterBooks volume_ share_ heat_ water_, oc_Interior qinside qheatBooks2 qwaterBooks2 u4_0 u4_1 u4_2 u4_3, oc_Walls qwalls2 qconductances qcapacities qheats layers_, oc_Walls qwalls qconductances2 qcapacities2 qheats2 u4_4, aI qconductances ca 5 conductances_, aI qconductances2 ca 5 u4_5, aI qcapacities ca 5 capacities_, aI qcapacities2 ca 5 u4_6, aJ qheats ca 5 heats_, aJ qheats2 ca 5 u4_7, oc_Goods qgoods2 qrows kilograms_ load_, oc_Goods qgoods qrows u4_8 u4_9, oc_Machines qmachines qlows qhighs qrates qtold qrunning, oc_Machines qmachines2 qlows2 qhighs2 qrates2 qtold2 qrunning2, aI qlows2 ca 4 lows_, aI qlows ca 4 u4_10, aI qhighs2 ca 4 highs_, aI qhighs ca 4 u4_11, aI qrates2 ca 4 rates_, aI qrates ca 4 u4_12, aZ qtold2 ca 4 told_, aZ qtold ca 4 u4_13, aZ qrunning2 ca 4 running_, aZ qrunning ca 4 u4_14, aJ qheatBooks2 ca 5 u4_15, aJ qwaterBooks2 ca 5 u4_16, oc_Steps qrows qlevels qamounts size_, aI qamounts ca 6 amounts_, aI qlevels ca 6 levels_]) (As := [.int (18000 : Int32), .int x1, .int x2, .int x3]) (rest := []) (r := r4) hx hb hml hown hts (cn_Room_costOfLevel l D ca qa0 qhouse qtrial qrisks qriskPoints qrules qgauge qinside qwalls qgoods qmachines qinside2 qwalls2 qgoods2 qmachines2 qheatBooks qwaterBooks qheatBooks2 qwaterBooks2 qconductances qcapacities qheats qconductances2 qcapacities2 qheats2 qrows qlows qhighs qrates qtold qrunning qlows2 qhighs2 qrates2 qtold2 qrunning2 qlevels qamounts hoursGone_ volume_ share_ heat_ water_ volume_2 share_2 heat_2 water_2 layers_ layers_2 conductances_ conductances_2 capacities_ capacities_2 heats_ heats_2 kilograms_ load_ kilograms_2 load_2 lows_ lows_2 highs_ highs_2 rates_ rates_2 told_ told_2 running_ running_2 heatBooks_ waterBooks_ size_ amounts_ levels_ (18000 : Int32) x1 x2 x3 r4 u4_0 u4_1 u4_2 u4_3 u4_4 u4_5 u4_6 u4_7 u4_8 u4_9 u4_10 u4_11 u4_12 u4_13 u4_14 u4_15 u4_16 e4 _) kc_Room_costOfLevel kv_Room_costOfLevel tt_671 ⟨by decide, by decide⟩ rfl rfl hP hK hD hS hA [0, 1, 2, 3, 4, 5, 6, 7, 8, 9, 10, 11, 12, 13, 14, 15, 16, 17, 18, 19, 20, 21, 22, 23, 24, 25, 26, 27, 28, 29, 30, 31] [] [0, 1, 2, 3, 4, 5, 6, 7, 8, 9, 10, 11, 12, 13, 14, 15, 16, 17, 18, 19, 20, 21, 22, 23, 24, 25, 26, 27, 28, 29, 30, 31] rfl (by decide) rfl (by decide) (by decide) rfl (by decide) 0 rfl rfl rfl rfl hl.1 (Nat.le_of_ble_eq_true rfl) rfl nd_Room_plan_34 ⟨Nat.zero_le _, Nat.zero_le _⟩ (fun H locs hP hD hS => ?_)
  refine lv_lstore (lv' := [(5, .long r4), (4, .int (18000 : Int32)), (0, .ref qa0), (1, .int x1), (2, .int x2), (3, .int x3)]) hx hb nd_Room_plan_37 hl (by decide) rfl (fun ls hl => ?_)
  refine lv_sipush (v := 18500) hx hb nd_Room_plan_39 (by decide) ?_
  refine lv_istore (lv' := [(7, .int (18500 : Int32)), (5, .long r4), (4, .int (18000 : Int32)), (0, .ref qa0), (1, .int x1), (2, .int x2), (3, .int x3)]) hx hb nd_Room_plan_42 hl (by decide) rfl (fun ls hl => ?_)
  have hL44 : ∀ (n44 : Nat) (i4_44 : Int32) (i5_44 : Int64) (i7_44 : Int32) (volume_2L44 : Int32) (share_2L44 : Int32) (heat_2L44 : Int64) (water_2L44 : Int64) (layers_2L44 : Int32) (conductances_2L44 : Nat → Int32) (capacities_2L44 : Nat → Int32) (heats_2L44 : Nat → Int64) (kilograms_2L44 : Int32) (load_2L44 : Int64) (lows_2L44 : Nat → Int32) (highs_2L44 : Nat → Int32) (rates_2L44 : Nat → Int32) (told_2L44 : Nat → Int32) (running_2L44 : Nat → Int32) (heatBooks_L44 : Nat → Int64) (waterBooks_L44 : Nat → Int64) (H : Heap) (locs : List Loc) (ls : Array Slot), fn_Room_plan_L44 x1 x2 x3 volume_ share_ heat_ water_ layers_ conductances_ capacities_ heats_ kilograms_ load_ lows_ highs_ rates_ told_ running_ size_ amounts_ levels_ n44 i4_44 i5_44 i7_44 volume_2L44 share_2L44 heat_2L44 water_2L44 layers_2L44 conductances_2L44 capacities_2L44 heats_2L44 kilograms_2L44 load_2L44 lows_2L44 highs_2L44 rates_2L44 told_2L44 running_2L44 heatBooks_L44 waterBooks_L44 = some (R0, R1, R2, R3, R4, R5, R6, R7, R8, R9, R10, R11, R12, R13, R14, R15, R16, R17) → va_P D vwCl [oc_Room qa0 qhouse qtrial qrisks qriskPoints qrules qgauge hoursGone_, oc_House qtrial qinside qwalls qgoods qmachines, oc_House qhouse qinside2 qwalls2 qgoods2 qmachines2, oc_Interior qinside2 qheatBooks qwaterBooks volume_ share_ heat_ water_, oc_Interior qinside qheatBooks2 qwaterBooks2 volume_2L44 share_2L44 heat_2L44 water_2L44, oc_Walls qwalls2 qconductances qcapacities qheats layers_, oc_Walls qwalls qconductances2 qcapacities2 qheats2 layers_2L44, aI qconductances ca 5 conductances_, aI qconductances2 ca 5 conductances_2L44, aI qcapacities ca 5 capacities_, aI qcapacities2 ca 5 capacities_2L44, aJ qheats ca 5 heats_, aJ qheats2 ca 5 heats_2L44, oc_Goods qgoods2 qrows kilograms_ load_, oc_Goods qgoods qrows kilograms_2L44 load_2L44, oc_Machines qmachines qlows qhighs qrates qtold qrunning, oc_Machines qmachines2 qlows2 qhighs2 qrates2 qtold2 qrunning2, aI qlows2 ca 4 lows_, aI qlows ca 4 lows_2L44, aI qhighs2 ca 4 highs_, aI qhighs ca 4 highs_2L44, aI qrates2 ca 4 rates_, aI qrates ca 4 rates_2L44, aZ qtold2 ca 4 told_, aZ qtold ca 4 told_2L44, aZ qrunning2 ca 4 running_, aZ qrunning ca 4 running_2L44, aJ qheatBooks2 ca 5 heatBooks_L44, aJ qwaterBooks2 ca 5 waterBooks_L44, oc_Steps qrows qlevels qamounts size_, aI qamounts ca 6 amounts_, aI qlevels ca 6 levels_] H → va_D A [oc_Room qa0 qhouse qtrial qrisks qriskPoints qrules qgauge hoursGone_, oc_House qtrial qinside qwalls qgoods qmachines, oc_House qhouse qinside2 qwalls2 qgoods2 qmachines2, oc_Interior qinside2 qheatBooks qwaterBooks volume_ share_ heat_ water_, oc_Interior qinside qheatBooks2 qwaterBooks2 volume_2L44 share_2L44 heat_2L44 water_2L44, oc_Walls qwalls2 qconductances qcapacities qheats layers_, oc_Walls qwalls qconductances2 qcapacities2 qheats2 layers_2L44, aI qconductances ca 5 conductances_, aI qconductances2 ca 5 conductances_2L44, aI qcapacities ca 5 capacities_, aI qcapacities2 ca 5 capacities_2L44, aJ qheats ca 5 heats_, aJ qheats2 ca 5 heats_2L44, oc_Goods qgoods2 qrows kilograms_ load_, oc_Goods qgoods qrows kilograms_2L44 load_2L44, oc_Machines qmachines qlows qhighs qrates qtold qrunning, oc_Machines qmachines2 qlows2 qhighs2 qrates2 qtold2 qrunning2, aI qlows2 ca 4 lows_, aI qlows ca 4 lows_2L44, aI qhighs2 ca 4 highs_, aI qhighs ca 4 highs_2L44, aI qrates2 ca 4 rates_, aI qrates ca 4 rates_2L44, aZ qtold2 ca 4 told_, aZ qtold ca 4 told_2L44, aZ qrunning2 ca 4 running_, aZ qrunning ca 4 running_2L44, aJ qheatBooks2 ca 5 heatBooks_L44, aJ qwaterBooks2 ca 5 waterBooks_L44, oc_Steps qrows qlevels qamounts size_, aI qamounts ca 6 amounts_, aI qlevels ca 6 levels_] → va_S A s.heap H locs → lv_has ls 10 [(0, .ref qa0), (1, .int x1), (2, .int x2), (3, .int x3), (4, .int i4_44), (5, .long i5_44), (7, .int i7_44)] → W p l e rm_Room_plan s m ar below meth c H locs 0 0 Q (F0 m 44 ls []) := by
    intro n44
    induction n44 with
    | zero => intro i4_44 i5_44 i7_44 volume_2L44 share_2L44 heat_2L44 water_2L44 layers_2L44 conductances_2L44 capacities_2L44 heats_2L44 kilograms_2L44 load_2L44 lows_2L44 highs_2L44 rates_2L44 told_2L44 running_2L44 heatBooks_L44 waterBooks_L44 H locs ls hR; exact nomatch hR
    | succ n44 ih44 =>
      intro i4_44 i5_44 i7_44 volume_2L44 share_2L44 heat_2L44 water_2L44 layers_2L44 conductances_2L44 capacities_2L44 heats_2L44 kilograms_2L44 load_2L44 lows_2L44 highs_2L44 rates_2L44 told_2L44 running_2L44 heatBooks_L44 waterBooks_L44 H locs ls hR hP hD hS hl
      rw [fn_Room_plan_L44] at hR
      refine lv_iload hx hb nd_Room_plan_44 (lv_at hl 6 rfl) ?_
      refine lv_sipush (v := 22000) hx hb nd_Room_plan_46 (by decide) ?_
      refine lv_icmp_gt (tgt := 88) hx hb nd_Room_plan_49 (by decide) (fun c5 => ?_) (fun c5 => ?_)
      · replace hR := q_p c5 hR
        refine lv_iload hx hb nd_Room_plan_88 (lv_at hl 4 rfl) ?_
        exact hret (i4_44, volume_2L44, share_2L44, heat_2L44, water_2L44, layers_2L44, conductances_2L44, capacities_2L44, heats_2L44, kilograms_2L44, load_2L44, lows_2L44, highs_2L44, rates_2L44, told_2L44, running_2L44, heatBooks_L44, waterBooks_L44) _ _ _ _ nd_Room_plan_90 hR hP hD hS
      · replace hR := q_n c5 hR
        refine lv_aload_n hx hb nd_Room_plan_52 rfl (lv_at hl 0 rfl) ?_
        refine lv_iload hx hb nd_Room_plan_53 (lv_at hl 6 rfl) ?_
        refine lv_iload_n hx hb nd_Room_plan_55 rfl (lv_at hl 1 rfl) ?_
        refine lv_iload_n hx hb nd_Room_plan_56 rfl (lv_at hl 2 rfl) ?_
        refine lv_iload_n hx hb nd_Room_plan_57 rfl (lv_at hl 3 rfl) ?_
        obtain ⟨r6, u6_0, u6_1, u6_2, u6_3, u6_4, u6_5, u6_6, u6_7, u6_8, u6_9, u6_10, u6_11, u6_12, u6_13, u6_14, u6_15, u6_16, e6, hR⟩ := q_b18 hR
        refine k_wVJ (wr := []) (w2 := [oc_Room qa0 qhouse qtrial qrisks qriskPoints qrules qgauge hoursGone_, oc_House qtrial qinside qwalls qgoods qmachines, oc_House qhouse qinside2 qwalls2 qgoods2 qmachines2, oc_Interior qinside2 qheatBooks qwaterBooks volume_ share_ heat_ water_, oc_Interior qinside qheatBooks2 qwaterBooks2 u6_0 u6_1 u6_2 u6_3, oc_Walls qwalls2 qconductances qcapacities qheats layers_, oc_Walls qwalls qconductances2 qcapacities2 qheats2 u6_4, aI qconductances ca 5 conductances_, aI qconductances2 ca 5 u6_5, aI qcapacities ca 5 capacities_, aI qcapacities2 ca 5 u6_6, aJ qheats ca 5 heats_, aJ qheats2 ca 5 u6_7, oc_Goods qgoods2 qrows kilograms_ load_, oc_Goods qgoods qrows u6_8 u6_9, oc_Machines qmachines qlows qhighs qrates qtold qrunning, oc_Machines qmachines2 qlows2 qhighs2 qrates2 qtold2 qrunning2, aI qlows2 ca 4 lows_, aI qlows ca 4 u6_10, aI qhighs2 ca 4 highs_, aI qhighs ca 4 u6_11, aI qrates2 ca 4 rates_, aI qrates ca 4 u6_12, aZ qtold2 ca 4 told_, aZ qtold ca 4 u6_13, aZ qrunning2 ca 4 running_, aZ qrunning ca 4 u6_14, aJ qheatBooks2 ca 5 u6_15, aJ qwaterBooks2 ca 5 u6_16, oc_Steps qrows qlevels qamounts size_, aI qamounts ca 6 amounts_, aI qlevels ca 6 levels_]) (As := [.int i7_44, .int x1, .int x2, .int x3]) (rest := []) (r := r6) hx hb hml hown hts (cn_Room_costOfLevel l D ca qa0 qhouse qtrial qrisks qriskPoints qrules qgauge qinside qwalls qgoods qmachines qinside2 qwalls2 qgoods2 qmachines2 qheatBooks qwaterBooks qheatBooks2 qwaterBooks2 qconductances qcapacities qheats qconductances2 qcapacities2 qheats2 qrows qlows qhighs qrates qtold qrunning qlows2 qhighs2 qrates2 qtold2 qrunning2 qlevels qamounts hoursGone_ volume_ share_ heat_ water_ volume_2L44 share_2L44 heat_2L44 water_2L44 layers_ layers_2L44 conductances_ conductances_2L44 capacities_ capacities_2L44 heats_ heats_2L44 kilograms_ load_ kilograms_2L44 load_2L44 lows_ lows_2L44 highs_ highs_2L44 rates_ rates_2L44 told_ told_2L44 running_ running_2L44 heatBooks_L44 waterBooks_L44 size_ amounts_ levels_ i7_44 x1 x2 x3 r6 u6_0 u6_1 u6_2 u6_3 u6_4 u6_5 u6_6 u6_7 u6_8 u6_9 u6_10 u6_11 u6_12 u6_13 u6_14 u6_15 u6_16 e6 _) kc_Room_costOfLevel kv_Room_costOfLevel tt_671 ⟨by decide, by decide⟩ rfl rfl hP hK hD hS hA [0, 1, 2, 3, 4, 5, 6, 7, 8, 9, 10, 11, 12, 13, 14, 15, 16, 17, 18, 19, 20, 21, 22, 23, 24, 25, 26, 27, 28, 29, 30, 31] [] [0, 1, 2, 3, 4, 5, 6, 7, 8, 9, 10, 11, 12, 13, 14, 15, 16, 17, 18, 19, 20, 21, 22, 23, 24, 25, 26, 27, 28, 29, 30, 31] rfl (by decide) rfl (by decide) (by decide) rfl (by decide) 0 rfl rfl rfl rfl hl.1 (Nat.le_of_ble_eq_true rfl) rfl nd_Room_plan_58 ⟨Nat.zero_le _, Nat.zero_le _⟩ (fun H locs hP hD hS => ?_)
        refine lv_lstore (lv' := [(8, .long r6), (0, .ref qa0), (1, .int x1), (2, .int x2), (3, .int x3), (4, .int i4_44), (5, .long i5_44), (7, .int i7_44)]) hx hb nd_Room_plan_61 hl (by decide) rfl (fun ls hl => ?_)
        refine lv_lload hx hb nd_Room_plan_63 (lv_at hl 0 rfl) ?_
        refine lv_lload hx hb nd_Room_plan_65 (lv_at hl 6 rfl) ?_
        refine W.lcmp hx hb nd_Room_plan_67 ?_
        obtain ⟨j8_0, j8_1, hJ8, hR⟩ := q_b2 hR
        have hN8 : ∀ (H : Heap) (locs : List Loc) (ls : Array Slot), va_P D vwCl [oc_Room qa0 qhouse qtrial qrisks qriskPoints qrules qgauge hoursGone_, oc_House qtrial qinside qwalls qgoods qmachines, oc_House qhouse qinside2 qwalls2 qgoods2 qmachines2, oc_Interior qinside2 qheatBooks qwaterBooks volume_ share_ heat_ water_, oc_Interior qinside qheatBooks2 qwaterBooks2 u6_0 u6_1 u6_2 u6_3, oc_Walls qwalls2 qconductances qcapacities qheats layers_, oc_Walls qwalls qconductances2 qcapacities2 qheats2 u6_4, aI qconductances ca 5 conductances_, aI qconductances2 ca 5 u6_5, aI qcapacities ca 5 capacities_, aI qcapacities2 ca 5 u6_6, aJ qheats ca 5 heats_, aJ qheats2 ca 5 u6_7, oc_Goods qgoods2 qrows kilograms_ load_, oc_Goods qgoods qrows u6_8 u6_9, oc_Machines qmachines qlows qhighs qrates qtold qrunning, oc_Machines qmachines2 qlows2 qhighs2 qrates2 qtold2 qrunning2, aI qlows2 ca 4 lows_, aI qlows ca 4 u6_10, aI qhighs2 ca 4 highs_, aI qhighs ca 4 u6_11, aI qrates2 ca 4 rates_, aI qrates ca 4 u6_12, aZ qtold2 ca 4 told_, aZ qtold ca 4 u6_13, aZ qrunning2 ca 4 running_, aZ qrunning ca 4 u6_14, aJ qheatBooks2 ca 5 u6_15, aJ qwaterBooks2 ca 5 u6_16, oc_Steps qrows qlevels qamounts size_, aI qamounts ca 6 amounts_, aI qlevels ca 6 levels_] H → va_D A [oc_Room qa0 qhouse qtrial qrisks qriskPoints qrules qgauge hoursGone_, oc_House qtrial qinside qwalls qgoods qmachines, oc_House qhouse qinside2 qwalls2 qgoods2 qmachines2, oc_Interior qinside2 qheatBooks qwaterBooks volume_ share_ heat_ water_, oc_Interior qinside qheatBooks2 qwaterBooks2 u6_0 u6_1 u6_2 u6_3, oc_Walls qwalls2 qconductances qcapacities qheats layers_, oc_Walls qwalls qconductances2 qcapacities2 qheats2 u6_4, aI qconductances ca 5 conductances_, aI qconductances2 ca 5 u6_5, aI qcapacities ca 5 capacities_, aI qcapacities2 ca 5 u6_6, aJ qheats ca 5 heats_, aJ qheats2 ca 5 u6_7, oc_Goods qgoods2 qrows kilograms_ load_, oc_Goods qgoods qrows u6_8 u6_9, oc_Machines qmachines qlows qhighs qrates qtold qrunning, oc_Machines qmachines2 qlows2 qhighs2 qrates2 qtold2 qrunning2, aI qlows2 ca 4 lows_, aI qlows ca 4 u6_10, aI qhighs2 ca 4 highs_, aI qhighs ca 4 u6_11, aI qrates2 ca 4 rates_, aI qrates ca 4 u6_12, aZ qtold2 ca 4 told_, aZ qtold ca 4 u6_13, aZ qrunning2 ca 4 running_, aZ qrunning ca 4 u6_14, aJ qheatBooks2 ca 5 u6_15, aJ qwaterBooks2 ca 5 u6_16, oc_Steps qrows qlevels qamounts size_, aI qamounts ca 6 amounts_, aI qlevels ca 6 levels_] → va_S A s.heap H locs → lv_has ls 10 [(0, .ref qa0), (1, .int x1), (2, .int x2), (3, .int x3), (4, .int j8_0), (5, .long j8_1), (7, .int i7_44), (8, .long r6)] → W p l e rm_Room_plan s m ar below meth c H locs 0 0 Q (F0 m 79 ls []) := by
          intro H locs ls hP hD hS hl
          refine lv_iincW (v := i7_44 + 500) (lv' := [(7, .int (i7_44 + 500)), (0, .ref qa0), (1, .int x1), (2, .int x2), (3, .int x3), (4, .int j8_0), (5, .long j8_1), (8, .long r6)]) hx hb nd_Room_plan_79 hl (k := 6) rfl (by first | rfl | decide) (by decide) rfl (fun ls hl => ?_)
          refine lv_goto (tgt := 44) hx hb nd_Room_plan_85 (by decide) ?_
          exact ih44 j8_0 j8_1 (i7_44 + 500) u6_0 u6_1 u6_2 u6_3 u6_4 u6_5 u6_6 u6_7 u6_8 u6_9 u6_10 u6_11 u6_12 u6_13 u6_14 u6_15 u6_16 _ _ _ hR hP hD hS (lv_sub hl [1, 2, 3, 4, 5, 6, 0] rfl)
        refine lv_if_ge (tgt := 79) hx hb nd_Room_plan_68 (by decide) (fun c7 => ?_) (fun c7 => ?_)
        · have hR := q_p c7 hJ8
          cases hR
          exact hN8 _ _ _ hP hD hS (lv_sub hl [1, 2, 3, 4, 5, 6, 7, 0] rfl)
        · have hR := q_n c7 hJ8
          refine lv_iload hx hb nd_Room_plan_71 (lv_at hl 7 rfl) ?_
          refine lv_istore (lv' := [(4, .int i7_44), (8, .long r6), (0, .ref qa0), (1, .int x1), (2, .int x2), (3, .int x3), (5, .long i5_44), (7, .int i7_44)]) hx hb nd_Room_plan_73 hl (by decide) rfl (fun ls hl => ?_)
          refine lv_lload hx hb nd_Room_plan_75 (lv_at hl 1 rfl) ?_
          refine lv_lstore (lv' := [(5, .long r6), (4, .int i7_44), (8, .long r6), (0, .ref qa0), (1, .int x1), (2, .int x2), (3, .int x3), (7, .int i7_44)]) hx hb nd_Room_plan_77 hl (by decide) rfl (fun ls hl => ?_)
          cases hR
          exact hN8 _ _ _ hP hD hS (lv_sub hl [3, 4, 5, 6, 1, 0, 7, 2] rfl)
  exact hL44 400 (18000 : Int32) r4 (18500 : Int32) u4_0 u4_1 u4_2 u4_3 u4_4 u4_5 u4_6 u4_7 u4_8 u4_9 u4_10 u4_11 u4_12 u4_13 u4_14 u4_15 u4_16 _ _ _ hR hP hD hS (lv_sub hl [3, 4, 5, 6, 2, 1, 0] rfl)
def rm_Room_count : Room := { frames := 8, cells := 0, slots := 0, locals := 140 }
theorem kc_Room_count : k_cal nY_Room_count nC_Room_count 2 (some .int) 1 := ⟨tt_712, tt_1, by decide +kernel⟩
theorem kv_Room_count : k_vir nY_Room_count := ⟨tt_710, tt_711⟩
set_option maxHeartbeats 4000000 in
set_option maxRecDepth 100000 in
theorem cn_Room_count (l : Launch) (D : va_G) (ca : Nat → ClassId) (qa0 qhouse qtrial qrisks qriskPoints qrules qgauge qinside qwalls qgoods qmachines qconductances qcapacities qheats qrows qlevels qamounts qkinds qlevels2 qholds qalarmCounts qalarmHours qvalues qsensed qrights qchecked : Nat) (hoursGone_ : Int32) (layers_ : Int32) (kilograms_ : Int32) (load_ : Int64) (size_ : Int32) (size_2 : Int32) (checks_ : Int32) (x1 : Int32) (R0 : Int32) (hR : fn_Room_count hoursGone_ layers_ size_ size_2 checks_ x1 = some (.inr R0)) : Met l nY_Room_count (Cond.code nY_Room_count nC_Room_count 2 (some .int) :: TT) rm_Room_count (rd_P [.ref qa0, .int x1] D ca [oc_Room qa0 qhouse qtrial qrisks qriskPoints qrules qgauge hoursGone_, oc_House qhouse qinside qwalls qgoods qmachines, oc_Walls qwalls qconductances qcapacities qheats layers_, oc_Goods qgoods qrows kilograms_ load_, oc_Steps qrows qlevels qamounts size_, oc_Rules qrules qkinds qlevels2 qholds qalarmCounts qalarmHours size_2, oc_Gauge qgauge qvalues qsensed qrights qchecked checks_]) (vp_Si (fun x => x = R0)) 0 0 (fun _ => False) := by
  refine rd_ofI (by decide +kernel) (Nat.le_of_ble_eq_true rfl) ?_
  intro p e s m below meth c Q ar ls hx hb hml hts hown hP hK hl hret
  have hown : s.vm.findClass nR_Room = some m.cls := hown
  have hl : lv_has ls 2 [(0, .ref qa0), (1, .int x1)] := hl
  unfold fn_Room_count at hR
  refine lv_iload_n hx hb nd_Room_count_0 rfl (lv_at hl 1 rfl) ?_
  by_cases c1 : x1 = 0
  · replace hR := q_p c1 hR; refine lv_tableIn (tgt := 36) hx hb nd_Room_count_1 (by rw [c1]; decide) (by rw [c1]; decide) (by rw [c1]; rfl) (by decide) ?_
    replace hR := q_lr hR
    refine lv_aload_n hx hb nd_Room_count_36 rfl (lv_at hl 0 rfl) ?_
    refine va_get (D := D) (ci := 8) (v := .int hoursGone_) (C := nR_Room) (T := nT_Room) (N := 7) hx hb hts ni_Room hown hK hP 0 rfl rfl 6 (by decide) (hts (.fieldLink nR_Room 48 "RoomClimate" "hoursGone" "I") tt_228) (fun _ h9 => h9) rfl nd_Room_count_37 ?_
    exact hret _ _ _ nd_Room_count_40 (Option.some.inj hR)
  replace hR := q_n c1 hR
  by_cases c2 : x1 = 1
  · replace hR := q_p c2 hR; refine lv_tableIn (tgt := 41) hx hb nd_Room_count_1 (by rw [c2]; decide) (by rw [c2]; decide) (by rw [c2]; rfl) (by decide) ?_
    replace hR := q_lr hR
    refine lv_aload_n hx hb nd_Room_count_41 rfl (lv_at hl 0 rfl) ?_
    refine va_get (D := D) (ci := 8) (v := .ref qhouse) (C := nR_Room) (T := nT_Room) (N := 7) hx hb hts ni_Room hown hK hP 0 rfl rfl 0 (by decide) (hts (.fieldLink nR_Room 19 "RoomClimate" "house" "LRoomClimate$House;") tt_222) (fun _ h9 => h9) rfl nd_Room_count_42 ?_
    refine va_getN (D := D) (ci := 2) (v := .ref qwalls) (C := nR_House) (T := nT_House) (N := 4) hx hb hts ni_House hown hK hP 1 rfl rfl 1 (by decide) (hts (.fieldLinkNest nR_Room 68 "RoomClimate$House" "walls" "LRoomClimate$Walls;" "RoomClimate") tt_152) (fun _ h9 => h9) rfl nd_Room_count_45 ?_
    refine va_getN (D := D) (ci := 7) (v := .int layers_) (C := nR_Walls) (T := nT_Walls) (N := 4) hx hb hts ni_Walls hown hK hP 2 rfl rfl 3 (by decide) (hts (.fieldLinkNest nR_Room 72 "RoomClimate$Walls" "layers" "I" "RoomClimate") tt_96) (fun _ h9 => h9) rfl nd_Room_count_48 ?_
    exact hret _ _ _ nd_Room_count_51 (Option.some.inj hR)
  replace hR := q_n c2 hR
  by_cases c3 : x1 = 2
  · replace hR := q_p c3 hR; refine lv_tableIn (tgt := 52) hx hb nd_Room_count_1 (by rw [c3]; decide) (by rw [c3]; decide) (by rw [c3]; rfl) (by decide) ?_
    replace hR := q_lr hR
    refine lv_aload_n hx hb nd_Room_count_52 rfl (lv_at hl 0 rfl) ?_
    refine va_get (D := D) (ci := 8) (v := .ref qhouse) (C := nR_Room) (T := nT_Room) (N := 7) hx hb hts ni_Room hown hK hP 0 rfl rfl 0 (by decide) (hts (.fieldLink nR_Room 19 "RoomClimate" "house" "LRoomClimate$House;") tt_222) (fun _ h9 => h9) rfl nd_Room_count_53 ?_
    refine va_getN (D := D) (ci := 2) (v := .ref qgoods) (C := nR_House) (T := nT_House) (N := 4) hx hb hts ni_House hown hK hP 1 rfl rfl 2 (by decide) (hts (.fieldLinkNest nR_Room 85 "RoomClimate$House" "goods" "LRoomClimate$Goods;" "RoomClimate") tt_154) (fun _ h9 => h9) rfl nd_Room_count_56 ?_
    refine va_getN (D := D) (ci := 1) (v := .ref qrows) (C := nR_Goods) (T := nT_Goods) (N := 3) hx hb hts ni_Goods hown hK hP 3 rfl rfl 0 (by decide) (hts (.fieldLinkNest nR_Room 94 "RoomClimate$Goods" "rows" "LRoomClimate$Steps;" "RoomClimate") tt_137) (fun _ h9 => h9) rfl nd_Room_count_59 ?_
    refine va_getN (D := D) (ci := 6) (v := .int size_) (C := nR_Steps) (T := nT_Steps) (N := 3) hx hb hts ni_Steps hown hK hP 4 rfl rfl 2 (by decide) (hts (.fieldLinkNest nR_Room 98 "RoomClimate$Steps" "size" "I" "RoomClimate") tt_35) (fun _ h9 => h9) rfl nd_Room_count_62 ?_
    exact hret _ _ _ nd_Room_count_65 (Option.some.inj hR)
  replace hR := q_n c3 hR
  by_cases c4 : x1 = 3
  · replace hR := q_p c4 hR; refine lv_tableIn (tgt := 66) hx hb nd_Room_count_1 (by rw [c4]; decide) (by rw [c4]; decide) (by rw [c4]; rfl) (by decide) ?_
    replace hR := q_lr hR
    refine lv_aload_n hx hb nd_Room_count_66 rfl (lv_at hl 0 rfl) ?_
    refine va_get (D := D) (ci := 8) (v := .ref qrules) (C := nR_Room) (T := nT_Room) (N := 7) hx hb hts ni_Room hown hK hP 0 rfl rfl 4 (by decide) (hts (.fieldLink nR_Room 37 "RoomClimate" "rules" "LRoomClimate$Rules;") tt_226) (fun _ h9 => h9) rfl nd_Room_count_67 ?_
    refine va_getN (D := D) (ci := 5) (v := .int size_2) (C := nR_Rules) (T := nT_Rules) (N := 6) hx hb hts ni_Rules hown hK hP 5 rfl rfl 5 (by decide) (hts (.fieldLinkNest nR_Room 169 "RoomClimate$Rules" "size" "I" "RoomClimate") tt_183) (fun _ h9 => h9) rfl nd_Room_count_70 ?_
    exact hret _ _ _ nd_Room_count_73 (Option.some.inj hR)
  replace hR := q_n c4 hR
  by_cases c5 : x1 = 4
  · replace hR := q_p c5 hR; refine lv_tableIn (tgt := 74) hx hb nd_Room_count_1 (by rw [c5]; decide) (by rw [c5]; decide) (by rw [c5]; rfl) (by decide) ?_
    replace hR := q_lr hR
    refine lv_aload_n hx hb nd_Room_count_74 rfl (lv_at hl 0 rfl) ?_
    refine va_get (D := D) (ci := 8) (v := .ref qgauge) (C := nR_Room) (T := nT_Room) (N := 7) hx hb hts ni_Room hown hK hP 0 rfl rfl 5 (by decide) (hts (.fieldLink nR_Room 44 "RoomClimate" "gauge" "LRoomClimate$Gauge;") tt_227) (fun _ h9 => h9) rfl nd_Room_count_75 ?_
    refine va_getN (D := D) (ci := 0) (v := .int checks_) (C := nR_Gauge) (T := nT_Gauge) (N := 5) hx hb hts ni_Gauge hown hK hP 6 rfl rfl 4 (by decide) (hts (.fieldLinkNest nR_Room 216 "RoomClimate$Gauge" "checks" "I" "RoomClimate") tt_210) (fun _ h9 => h9) rfl nd_Room_count_78 ?_
    exact hret _ _ _ nd_Room_count_81 (Option.some.inj hR)
  replace hR := q_n c5 hR
  refine lv_tableOut (tgt := 82) hx hb nd_Room_count_1 (k_out5 0 c1 c2 c3 c4 c5) (by decide) ?_
  exact nomatch (Option.some.inj hR)
