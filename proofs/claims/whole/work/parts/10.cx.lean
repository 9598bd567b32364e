def rx_Room_requireWithin : Room := { frames := 8, cells := 1, slots := 6, locals := 140 }
set_option maxHeartbeats 4000000 in
set_option maxRecDepth 100000 in
theorem cx_Room_requireWithin (l : Launch) (hlt : l.stackTraces = false) (D : va_G) (ca : Nat → ClassId) (x0 : Int32) (x1 : Int32) (x2 : Int32) (n9 : Nat) (hR : fn_Room_requireWithin x0 x1 x2 = some (.inl n9)) : xm_Met l nY_Room_requireWithin (Cond.code nY_Room_requireWithin nC_Room_requireWithin 3 none :: TT) rx_Room_requireWithin (xt_P [.int x0, .int x1, .int x2] D ca []) n9 := by
  refine xm_of (by decide +kernel) (Nat.le_of_ble_eq_true rfl) ?_
  intro p e s m below meth c Q ar ls hx hb hml hts hown hexc hlocks hQ hP hK hev hl
  have hown : s.vm.findClass nR_Room = some m.cls := hown
  have hl : lv_has ls 3 [(0, .int x0), (1, .int x1), (2, .int x2)] := hl
  unfold fn_Room_requireWithin at hR
  refine lv_iload_n hx hb nd_Room_requireWithin_0 rfl (lv_at hl 0 rfl) ?_
  refine lv_iload_n hx hb nd_Room_requireWithin_1 rfl (lv_at hl 1 rfl) ?_
  refine lv_icmp_lt (tgt := 10) hx hb nd_Room_requireWithin_2 (by decide) (fun c1 => ?_) (fun c1 => ?_)
  · replace hR := q_p c1 hR
    cases hR
    exact k_throw (own := nR_Room) (n := 3) (text := "the number is outside its bounds") hx hb hml hown hts hexc hlocks hQ hev hlt (by decide +kernel) (by decide +kernel) tt_281 tt_14 tt_322 xo_3_254 hl.1 nd_Room_requireWithin_10 nd_Room_requireWithin_13 nd_Room_requireWithin_14 nd_Room_requireWithin_16 nd_Room_requireWithin_19 (by decide) (Nat.le_of_ble_eq_true rfl) (by decide) (by decide)
  · replace hR := q_n c1 hR
    refine lv_iload_n hx hb nd_Room_requireWithin_5 rfl (lv_at hl 0 rfl) ?_
    refine lv_iload_n hx hb nd_Room_requireWithin_6 rfl (lv_at hl 2 rfl) ?_
    refine lv_icmp_le (tgt := 20) hx hb nd_Room_requireWithin_7 (by decide) (fun c2 => ?_) (fun c2 => ?_)
    · replace hR := q_p c2 hR
      exact (q_lx hR).elim
    · replace hR := q_n c2 hR
      cases hR
      exact k_throw (own := nR_Room) (n := 3) (text := "the number is outside its bounds") hx hb hml hown hts hexc hlocks hQ hev hlt (by decide +kernel) (by decide +kernel) tt_281 tt_14 tt_322 xo_3_254 hl.1 nd_Room_requireWithin_10 nd_Room_requireWithin_13 nd_Room_requireWithin_14 nd_Room_requireWithin_16 nd_Room_requireWithin_19 (by decide) (Nat.le_of_ble_eq_true rfl) (by decide) (by decide)
def rx_Room_room : Room := { frames := 9, cells := 1, slots := 6, locals := 162 }
set_option maxHeartbeats 4000000 in
set_option maxRecDepth 100000 in
theorem cx_Room_room (l : Launch) (hlt : l.stackTraces = false) (D : va_G) (ca : Nat → ClassId) (qa0 qhouse qtrial qrisks qriskPoints qrules qgauge qinside qwalls qgoods qmachines qheatBooks qwaterBooks : Nat) (hoursGone_ : Int32) (volume_ : Int32) (share_ : Int32) (heat_ : Int64) (water_ : Int64) (x1 : Int32) (x2 : Int32) (n9 : Nat) (hR : fn_Room_room x1 x2 = some (.inl n9)) : xm_Met l nY_Room_room (Cond.code nY_Room_room nC_Room_room 3 none :: TT) rx_Room_room (xt_P [.ref qa0, .int x1, .int x2] D ca [oc_Room qa0 qhouse qtrial qrisks qriskPoints qrules qgauge hoursGone_, oc_House qhouse qinside qwalls qgoods qmachines, oc_Interior qinside qheatBooks qwaterBooks volume_ share_ heat_ water_]) n9 := by
  refine xm_of (by decide +kernel) (Nat.le_of_ble_eq_true rfl) ?_
  intro p e s m below meth c Q ar ls hx hb hml hts hown hexc hlocks hQ hP hK hev hl
  have hown : s.vm.findClass nR_Room = some m.cls := hown
  have hl : lv_has ls 3 [(0, .ref qa0), (1, .int x1), (2, .int x2)] := hl
  unfold fn_Room_room at hR
  refine lv_iload_n hx hb nd_Room_room_0 rfl (lv_at hl 1 rfl) ?_
  refine lv_iconst (v := 1) hx hb nd_Room_room_1 (by decide) ?_
  refine lv_sipush (v := 1000) hx hb nd_Room_room_2 (by decide) ?_
  rcases q_xx hR with e1 | ⟨e1, hR⟩
  ·
    exact k_xS (As := [.int x1, .int (1 : Int32), .int (1000 : Int32)]) (rest := []) hx hb hml hown hts hexc hlocks hQ hev (cx_Room_requireWithin l hlt D ca x1 (1 : Int32) (1000 : Int32) n9 e1) kc_Room_requireWithin ks_Room_requireWithin tt_278 ⟨by decide, by decide⟩ rfl rfl hP hK [] rfl rfl hl.1 (Nat.le_of_ble_eq_true rfl) rfl nd_Room_room_5 ⟨by decide, by decide⟩
  refine k_rSV (As := [.int x1, .int (1 : Int32), .int (1000 : Int32)]) (rest := []) hx hb hml hown hts (cn_Room_requireWithin l D ca x1 (1 : Int32) (1000 : Int32) e1) kc_Room_requireWithin ks_Room_requireWithin tt_278 ⟨by decide, by decide⟩ rfl rfl hP hK [] rfl rfl hl.1 (Nat.le_of_ble_eq_true rfl) rfl nd_Room_room_5 ⟨Nat.zero_le _, Nat.zero_le _⟩ ?_
  refine lv_iload_n hx hb nd_Room_room_8 rfl (lv_at hl 2 rfl) ?_
  refine lv_iconst (v := 0) hx hb nd_Room_room_9 (by decide) ?_
  refine lv_sipush (v := 1000) hx hb nd_Room_room_10 (by decide) ?_
  rcases q_xx hR with e2 | ⟨e2, hR⟩
  ·
    exact k_xS (As := [.int x2, .int (0 : Int32), .int (1000 : Int32)]) (rest := []) hx hb hml hown hts hexc hlocks hQ hev (cx_Room_requireWithin l hlt D ca x2 (0 : Int32) (1000 : Int32) n9 e2) kc_Room_requireWithin ks_Room_requireWithin tt_278 ⟨by decide, by decide⟩ rfl rfl hP hK [] rfl rfl hl.1 (Nat.le_of_ble_eq_true rfl) rfl nd_Room_room_13 ⟨by decide, by decide⟩
  exact (q_lx hR).elim
def rx_Room_requireSpace : Room := { frames := 8, cells := 1, slots := 6, locals := 140 }
set_option maxHeartbeats 4000000 in
set_option maxRecDepth 100000 in
theorem cx_Room_requireSpace (l : Launch) (hlt : l.stackTraces = false) (D : va_G) (ca : Nat → ClassId) (x0 : Int32) (x1 : Int32) (n9 : Nat) (hR : fn_Room_requireSpace x0 x1 = some (.inl n9)) : xm_Met l nY_Room_requireSpace (Cond.code nY_Room_requireSpace nC_Room_requireSpace 2 none :: TT) rx_Room_requireSpace (xt_P [.int x0, .int x1] D ca []) n9 := by
  refine xm_of (by decide +kernel) (Nat.le_of_ble_eq_true rfl) ?_
  intro p e s m below meth c Q ar ls hx hb hml hts hown hexc hlocks hQ hP hK hev hl
  have hown : s.vm.findClass nR_Room = some m.cls := hown
  have hl : lv_has ls 2 [(0, .int x0), (1, .int x1)] := hl
  unfold fn_Room_requireSpace at hR
  refine lv_iload_n hx hb nd_Room_requireSpace_0 rfl (lv_at hl 0 rfl) ?_
  refine lv_iload_n hx hb nd_Room_requireSpace_1 rfl (lv_at hl 1 rfl) ?_
  refine lv_icmp_lt (tgt := 15) hx hb nd_Room_requireSpace_2 (by decide) (fun c1 => ?_) (fun c1 => ?_)
  · replace hR := q_p c1 hR
    exact (q_lx hR).elim
  · replace hR := q_n c1 hR
    cases hR
    exact k_throw (own := nR_Room) (n := 2) (text := "there are as many as there may be") hx hb hml hown hts hexc hlocks hQ hev hlt (by decide +kernel) (by decide +kernel) tt_360 tt_15 tt_369 xo_2_198 hl.1 nd_Room_requireSpace_5 nd_Room_requireSpace_8 nd_Room_requireSpace_9 nd_Room_requireSpace_11 nd_Room_requireSpace_14 (by decide) (Nat.le_of_ble_eq_true rfl) (by decide) (by decide)
def rx_Room_wall : Room := { frames := 9, cells := 1, slots := 6, locals := 162 }
set_option maxHeartbeats 4000000 in
set_option maxRecDepth 100000 in
theorem cx_Room_wall (l : Launch) (hlt : l.stackTraces = false) (D : va_G) (ca : Nat → ClassId) (qa0 qhouse qtrial qrisks qriskPoints qrules qgauge qinside qwalls qgoods qmachines qconductances qcapacities qheats : Nat) (hoursGone_ : Int32) (layers_ : Int32) (conductances_ : Nat → Int32) (capacities_ : Nat → Int32) (heats_ : Nat → Int64) (x1 : Int32) (x2 : Int32) (n9 : Nat) (hR : fn_Room_wall layers_ conductances_ capacities_ heats_ x1 x2 = some (.inl n9)) : xm_Met l nY_Room_wall (Cond.code nY_Room_wall nC_Room_wall 3 (some .int) :: TT) rx_Room_wall (xt_P [.ref qa0, .int x1, .int x2] D ca [oc_Room qa0 qhouse qtrial qrisks qriskPoints qrules qgauge hoursGone_, oc_House qhouse qinside qwalls qgoods qmachines, oc_Walls qwalls qconductances qcapacities qheats layers_, aI qconductances ca 5 conductances_, aI qcapacities ca 5 capacities_, aJ qheats ca 5 heats_]) n9 := by
  refine xm_of (by decide +kernel) (Nat.le_of_ble_eq_true rfl) ?_
  intro p e s m below meth c Q ar ls hx hb hml hts hown hexc hlocks hQ hP hK hev hl
  have hown : s.vm.findClass nR_Room = some m.cls := hown
  have hl : lv_has ls 3 [(0, .ref qa0), (1, .int x1), (2, .int x2)] := hl
  unfold fn_Room_wall at hR
  refine lv_aload_n hx hb nd_Room_wall_0 rfl (lv_at hl 0 rfl) ?_
  refine va_get (D := D) (ci := 8) (v := .ref qhouse) (C := nR_Room) (T := nT_Room) (N := 7) hx hb hts ni_Room hown hK hP 0 rfl rfl 0 (by decide) (hts (.fieldLink nR_Room 19 "RoomClimate" "house" "LRoomClimate$House;") tt_222) (fun _ h9 => h9) rfl nd_Room_wall_1 ?_
  refine va_getN (D := D) (ci := 2) (v := .ref qwalls) (C := nR_House) (T := nT_House) (N := 4) hx hb hts ni_House hown hK hP 1 rfl rfl 1 (by decide) (hts (.fieldLinkNest nR_Room 68 "RoomClimate$House" "walls" "LRoomClimate$Walls;" "RoomClimate") tt_152) (fun _ h9 => h9) rfl nd_Room_wall_4 ?_
  refine va_getN (D := D) (ci := 7) (v := .int layers_) (C := nR_Walls) (T := nT_Walls) (N := 4) hx hb hts ni_Walls hown hK hP 2 rfl rfl 3 (by decide) (hts (.fieldLinkNest nR_Room 72 "RoomClimate$Walls" "layers" "I" "RoomClimate") tt_96) (fun _ h9 => h9) rfl nd_Room_wall_7 ?_
  refine lv_iconst (v := 5) hx hb nd_Room_wall_10 (by decide) ?_
  rcases q_xx hR with e1 | ⟨e1, hR⟩
  ·
    exact k_xS (As := [.int layers_, .int (5 : Int32)]) (rest := []) hx hb hml hown hts hexc hlocks hQ hev (cx_Room_requireSpace l hlt D ca layers_ (5 : Int32) n9 e1) kc_Room_requireSpace ks_Room_requireSpace tt_357 ⟨by decide, by decide⟩ rfl rfl hP hK [] rfl rfl hl.1 (Nat.le_of_ble_eq_true rfl) rfl nd_Room_wall_11 ⟨by decide, by decide⟩
  refine k_rSV (As := [.int layers_, .int (5 : Int32)]) (rest := []) hx hb hml hown hts (cn_Room_requireSpace l D ca layers_ (5 : Int32) e1) kc_Room_requireSpace ks_Room_requireSpace tt_357 ⟨by decide, by decide⟩ rfl rfl hP hK [] rfl rfl hl.1 (Nat.le_of_ble_eq_true rfl) rfl nd_Room_wall_11 ⟨Nat.zero_le _, Nat.zero_le _⟩ ?_
  refine lv_iload_n hx hb nd_Room_wall_14 rfl (lv_at hl 1 rfl) ?_
  refine lv_iconst (v := 0) hx hb nd_Room_wall_15 (by decide) ?_
  refine lv_bipush (v := 100) hx hb nd_Room_wall_16 (by decide) ?_
  rcases q_xx hR with e2 | ⟨e2, hR⟩
  ·
    exact k_xS (As := [.int x1, .int (0 : Int32), .int (100 : Int32)]) (rest := []) hx hb hml hown hts hexc hlocks hQ hev (cx_Room_requireWithin l hlt D ca x1 (0 : Int32) (100 : Int32) n9 e2) kc_Room_requireWithin ks_Room_requireWithin tt_278 ⟨by decide, by decide⟩ rfl rfl hP hK [] rfl rfl hl.1 (Nat.le_of_ble_eq_true rfl) rfl nd_Room_wall_18 ⟨by decide, by decide⟩
  refine k_rSV (As := [.int x1, .int (0 : Int32), .int (100 : Int32)]) (rest := []) hx hb hml hown hts (cn_Room_requireWithin l D ca x1 (0 : Int32) (100 : Int32) e2) kc_Room_requireWithin ks_Room_requireWithin tt_278 ⟨by decide, by decide⟩ rfl rfl hP hK [] rfl rfl hl.1 (Nat.le_of_ble_eq_true rfl) rfl nd_Room_wall_18 ⟨Nat.zero_le _, Nat.zero_le _⟩ ?_
  refine lv_iload_n hx hb nd_Room_wall_21 rfl (lv_at hl 2 rfl) ?_
  refine lv_iconst (v := 1) hx hb nd_Room_wall_22 (by decide) ?_
  refine lv_sipush (v := 1000) hx hb nd_Room_wall_23 (by decide) ?_
  rcases q_xx hR with e3 | ⟨e3, hR⟩
  ·
    exact k_xS (As := [.int x2, .int (1 : Int32), .int (1000 : Int32)]) (rest := []) hx hb hml hown hts hexc hlocks hQ hev (cx_Room_requireWithin l hlt D ca x2 (1 : Int32) (1000 : Int32) n9 e3) kc_Room_requireWithin ks_Room_requireWithin tt_278 ⟨by decide, by decide⟩ rfl rfl hP hK [] rfl rfl hl.1 (Nat.le_of_ble_eq_true rfl) rfl nd_Room_wall_26 ⟨by decide, by decide⟩
  exact (q_lx hR).elim
def rx_Room_goods : Room := { frames := 9, cells := 1, slots := 6, locals := 162 }
set_option maxHeartbeats 4000000 in
set_option maxRecDepth 100000 in
theorem cx_Room_goods (l : Launch) (hlt : l.stackTraces = false) (D : va_G) (ca : Nat → ClassId) (qa0 qhouse qtrial qrisks qriskPoints qrules qgauge qinside qwalls qgoods qmachines qrows : Nat) (hoursGone_ : Int32) (kilograms_ : Int32) (load_ : Int64) (x1 : Int32) (n9 : Nat) (hR : fn_Room_goods kilograms_ x1 = some (.inl n9)) : xm_Met l nY_Room_goods (Cond.code nY_Room_goods nC_Room_goods 3 (some .int) :: TT) rx_Room_goods (xt_P [.ref qa0, .int x1] D ca [oc_Room qa0 qhouse qtrial qrisks qriskPoints qrules qgauge hoursGone_, oc_House qhouse qinside qwalls qgoods qmachines, oc_Goods qgoods qrows kilograms_ load_]) n9 := by
  refine xm_of (by decide +kernel) (Nat.le_of_ble_eq_true rfl) ?_
  intro p e s m below meth c Q ar ls hx hb hml hts hown hexc hlocks hQ hP hK hev hl
  have hown : s.vm.findClass nR_Room = some m.cls := hown
  have hl : lv_has ls 3 [(0, .ref qa0), (1, .int x1)] := hl
  unfold fn_Room_goods at hR
  refine lv_iload_n hx hb nd_Room_goods_0 rfl (lv_at hl 1 rfl) ?_
  refine lv_iconst (v := 0) hx hb nd_Room_goods_1 (by decide) ?_
  refine lv_sipush (v := 1000) hx hb nd_Room_goods_2 (by decide) ?_
  rcases q_xx hR with e1 | ⟨e1, hR⟩
  ·
    exact k_xS (As := [.int x1, .int (0 : Int32), .int (1000 : Int32)]) (rest := []) hx hb hml hown hts hexc hlocks hQ hev (cx_Room_requireWithin l hlt D ca x1 (0 : Int32) (1000 : Int32) n9 e1) kc_Room_requireWithin ks_Room_requireWithin tt_278 ⟨by decide, by decide⟩ rfl rfl hP hK [] rfl rfl hl.1 (Nat.le_of_ble_eq_true rfl) rfl nd_Room_goods_5 ⟨by decide, by decide⟩
  exact (q_lx hR).elim
def rx_Room_requireRise : Room := { frames := 8, cells := 1, slots := 6, locals := 140 }
set_option maxHeartbeats 4000000 in
set_option maxRecDepth 100000 in
theorem cx_Room_requireRise (l : Launch) (hlt : l.stackTraces = false) (D : va_G) (ca : Nat → ClassId) (qa0 qlevels qamounts : Nat) (size_ : Int32) (levels_ : Nat → Int32) (n_a0 : Nat) (x1 : Int32) (n9 : Nat) (hR : fn_Room_requireRise size_ levels_ n_a0 x1 = some (.inl n9)) : xm_Met l nY_Room_requireRise (Cond.code nY_Room_requireRise nC_Room_requireRise 2 none :: TT) rx_Room_requireRise (xt_P [.ref qa0, .int x1] D ca [oc_Steps qa0 qlevels qamounts size_, aI qlevels ca n_a0 levels_]) n9 := by
  refine xm_of (by decide +kernel) (Nat.le_of_ble_eq_true rfl) ?_
  intro p e s m below meth c Q ar ls hx hb hml hts hown hexc hlocks hQ hP hK hev hl
  have hown : s.vm.findClass nR_Room = some m.cls := hown
  have hl : lv_has ls 2 [(0, .ref qa0), (1, .int x1)] := hl
  unfold fn_Room_requireRise at hR
  refine lv_aload_n hx hb nd_Room_requireRise_0 rfl (lv_at hl 0 rfl) ?_
  refine lv_iload_n hx hb nd_Room_requireRise_1 rfl (lv_at hl 1 rfl) ?_
  obtain ⟨r1, e1, hR⟩ := q_b1 hR
  refine k_rVI (As := [.int x1]) (rest := []) (r := r1) hx hb hml hown hts (cn_Steps_wouldRise l D ca qa0 qlevels qamounts size_ levels_ n_a0 x1 r1 e1) kc_Steps_wouldRise kv_Steps_wouldRise tt_399 ⟨by decide, by decide⟩ rfl rfl hP hK [0, 1] rfl 0 rfl rfl rfl rfl hl.1 (Nat.le_of_ble_eq_true rfl) rfl nd_Room_requireRise_2 ⟨Nat.zero_le _, Nat.zero_le _⟩ ?_
  refine lv_if_ne (tgt := 19) hx hb nd_Room_requireRise_5 (by decide) (fun c2 => ?_) (fun c2 => ?_)
  · replace hR := q_n c2 hR
    exact (q_lx hR).elim
  · replace hR := q_p c2 hR
    cases hR
    exact k_throwW (own := nR_Room) (n := 3) (text := "it is not above that of the last row") hx hb hml hown hts hexc hlocks hQ hev hlt (by decide +kernel) (by decide +kernel) tt_281 tt_14 tt_403 xo_3_254 hl.1 nd_Room_requireRise_8 nd_Room_requireRise_11 nd_Room_requireRise_12 nd_Room_requireRise_15 nd_Room_requireRise_18 (by decide) (Nat.le_of_ble_eq_true rfl) (by decide) (by decide)
def rx_Room_row : Room := { frames := 9, cells := 1, slots := 6, locals := 162 }
set_option maxHeartbeats 4000000 in
set_option maxRecDepth 100000 in
theorem cx_Room_row (l : Launch) (hlt : l.stackTraces = false) (D : va_G) (ca : Nat → ClassId) (qa0 qhouse qtrial qrisks qriskPoints qrules qgauge qinside qwalls qgoods qmachines qrows qlevels qamounts : Nat) (hoursGone_ : Int32) (kilograms_ : Int32) (load_ : Int64) (size_ : Int32) (levels_ : Nat → Int32) (amounts_ : Nat → Int32) (x1 : Int32) (x2 : Int32) (n9 : Nat) (hR : fn_Room_row size_ levels_ amounts_ x1 x2 = some (.inl n9)) : xm_Met l nY_Room_row (Cond.code nY_Room_row nC_Room_row 4 (some .int) :: TT) rx_Room_row (xt_P [.ref qa0, .int x1, .int x2] D ca [oc_Room qa0 qhouse qtrial qrisks qriskPoints qrules qgauge hoursGone_, oc_House qhouse qinside qwalls qgoods qmachines, oc_Goods qgoods qrows kilograms_ load_, oc_Steps qrows qlevels qamounts size_, aI qlevels ca 6 levels_, aI qamounts ca 6 amounts_]) n9 := by
  refine xm_of (by decide +kernel) (Nat.le_of_ble_eq_true rfl) ?_
  intro p e s m below meth c Q ar ls hx hb hml hts hown hexc hlocks hQ hP hK hev hl
  have hown : s.vm.findClass nR_Room = some m.cls := hown
  have hl : lv_has ls 4 [(0, .ref qa0), (1, .int x1), (2, .int x2)] := hl
  unfold fn_Room_row at hR
  refine lv_aload_n hx hb nd_Room_row_0 rfl (lv_at hl 0 rfl) ?_
  refine va_get (D := D) (ci := 8) (v := .ref qhouse) (C := nR_Room) (T := nT_Room) (N := 7) hx hb hts ni_Room hown hK hP 0 rfl rfl 0 (by decide) (hts (.fieldLink nR_Room 19 "RoomClimate" "house" "LRoomClimate$House;") tt_222) (fun _ h9 => h9) rfl nd_Room_row_1 ?_
  refine va_getN (D := D) (ci := 2) (v := .ref qgoods) (C := nR_House) (T := nT_House) (N := 4) hx hb hts ni_House hown hK hP 1 rfl rfl 2 (by decide) (hts (.fieldLinkNest nR_Room 85 "RoomClimate$House" "goods" "LRoomClimate$Goods;" "RoomClimate") tt_154) (fun _ h9 => h9) rfl nd_Room_row_4 ?_
  refine va_getN (D := D) (ci := 1) (v := .ref qrows) (C := nR_Goods) (T := nT_Goods) (N := 3) hx hb hts ni_Goods hown hK hP 2 rfl rfl 0 (by decide) (hts (.fieldLinkNest nR_Room 94 "RoomClimate$Goods" "rows" "LRoomClimate$Steps;" "RoomClimate") tt_137) (fun _ h9 => h9) rfl nd_Room_row_7 ?_
  refine lv_astore_n (lv' := [(3, .ref qrows), (0, .ref qa0), (1, .int x1), (2, .int x2)]) hx hb nd_Room_row_10 rfl hl (by decide) rfl (fun ls hl => ?_)
  refine lv_aload_n hx hb nd_Room_row_11 rfl (lv_at hl 0 rfl) ?_
  refine va_getN (D := D) (ci := 6) (v := .int size_) (C := nR_Steps) (T := nT_Steps) (N := 3) hx hb hts ni_Steps hown hK hP 3 rfl rfl 2 (by decide) (hts (.fieldLinkNest nR_Room 98 "RoomClimate$Steps" "size" "I" "RoomClimate") tt_35) (fun _ h9 => h9) rfl nd_Room_row_12 ?_
  refine lv_bipush (v := 6) hx hb nd_Room_row_15 (by decide) ?_
  rcases q_xx hR with e1 | ⟨e1, hR⟩
  ·
    exact k_xS (As := [.int size_, .int (6 : Int32)]) (rest := []) hx hb hml hown hts hexc hlocks hQ hev (cx_Room_requireSpace l hlt D ca size_ (6 : Int32) n9 e1) kc_Room_requireSpace ks_Room_requireSpace tt_357 ⟨by decide, by decide⟩ rfl rfl hP hK [] rfl rfl hl.1 (Nat.le_of_ble_eq_true rfl) rfl nd_Room_row_17 ⟨by decide, by decide⟩
  refine k_rSV (As := [.int size_, .int (6 : Int32)]) (rest := []) hx hb hml hown hts (cn_Room_requireSpace l D ca size_ (6 : Int32) e1) kc_Room_requireSpace ks_Room_requireSpace tt_357 ⟨by decide, by decide⟩ rfl rfl hP hK [] rfl rfl hl.1 (Nat.le_of_ble_eq_true rfl) rfl nd_Room_row_17 ⟨Nat.zero_le _, Nat.zero_le _⟩ ?_
  refine lv_iload_n hx hb nd_Room_row_20 rfl (lv_at hl 2 rfl) ?_
  refine lv_iconst (v := 0) hx hb nd_Room_row_21 (by decide) ?_
  refine lv_ldc hx hb hown (hts _ tt_395) nd_Room_row_22 ?_
  rcases q_xx hR with e2 | ⟨e2, hR⟩
  ·
    exact k_xS (As := [.int x1, .int (0 : Int32), .int (60000 : Int32)]) (rest := []) hx hb hml hown hts hexc hlocks hQ hev (cx_Room_requireWithin l hlt D ca x1 (0 : Int32) (60000 : Int32) n9 e2) kc_Room_requireWithin ks_Room_requireWithin tt_278 ⟨by decide, by decide⟩ rfl rfl hP hK [] rfl rfl hl.1 (Nat.le_of_ble_eq_true rfl) rfl nd_Room_row_24 ⟨by decide, by decide⟩
  refine k_rSV (As := [.int x1, .int (0 : Int32), .int (60000 : Int32)]) (rest := []) hx hb hml hown hts (cn_Room_requireWithin l D ca x1 (0 : Int32) (60000 : Int32) e2) kc_Room_requireWithin ks_Room_requireWithin tt_278 ⟨by decide, by decide⟩ rfl rfl hP hK [] rfl rfl hl.1 (Nat.le_of_ble_eq_true rfl) rfl nd_Room_row_24 ⟨Nat.zero_le _, Nat.zero_le _⟩ ?_
  refine lv_iload_n hx hb nd_Room_row_27 rfl (lv_at hl 3 rfl) ?_
  refine lv_iconst (v := 0) hx hb nd_Room_row_28 (by decide) ?_
  refine lv_sipush (v := 10000) hx hb nd_Room_row_29 (by decide) ?_
  rcases q_xx hR with e3 | ⟨e3, hR⟩
  ·
    exact k_xS (As := [.int x2, .int (0 : Int32), .int (10000 : Int32)]) (rest := []) hx hb hml hown hts hexc hlocks hQ hev (cx_Room_requireWithin l hlt D ca x2 (0 : Int32) (10000 : Int32) n9 e3) kc_Room_requireWithin ks_Room_requireWithin tt_278 ⟨by decide, by decide⟩ rfl rfl hP hK [] rfl rfl hl.1 (Nat.le_of_ble_eq_true rfl) rfl nd_Room_row_32 ⟨by decide, by decide⟩
  refine k_rSV (As := [.int x2, .int (0 : Int32), .int (10000 : Int32)]) (rest := []) hx hb hml hown hts (cn_Room_requireWithin l D ca x2 (0 : Int32) (10000 : Int32) e3) kc_Room_requireWithin ks_Room_requireWithin tt_278 ⟨by decide, by decide⟩ rfl rfl hP hK [] rfl rfl hl.1 (Nat.le_of_ble_eq_true rfl) rfl nd_Room_row_32 ⟨Nat.zero_le _, Nat.zero_le _⟩ ?_
  refine lv_aload_n hx hb nd_Room_row_35 rfl (lv_at hl 0 rfl) ?_
  refine lv_iload_n hx hb nd_Room_row_36 rfl (lv_at hl 2 rfl) ?_
  rcases q_xx hR with e4 | ⟨e4, hR⟩
  ·
    exact k_xS (As := [.ref qrows, .int x1]) (rest := []) hx hb hml hown hts hexc hlocks hQ hev (cx_Room_requireRise l hlt D ca qrows qlevels qamounts size_ levels_ 6 x1 n9 e4) kc_Room_requireRise ks_Room_requireRise tt_396 ⟨by decide, by decide⟩ rfl rfl hP hK [3, 4] rfl rfl hl.1 (Nat.le_of_ble_eq_true rfl) rfl nd_Room_row_37 ⟨by decide, by decide⟩
  exact (q_lx hR).elim
def rx_Room_requireIndex : Room := { frames := 8, cells := 1, slots := 6, locals := 140 }
set_option maxHeartbeats 4000000 in
set_option maxRecDepth 100000 in
theorem cx_Room_requireIndex (l : Launch) (hlt : l.stackTraces = false) (D : va_G) (ca : Nat → ClassId) (x0 : Int32) (x1 : Int32) (n9 : Nat) (hR : fn_Room_requireIndex x0 x1 = some (.inl n9)) : xm_Met l nY_Room_requireIndex (Cond.code nY_Room_requireIndex nC_Room_requireIndex 2 none :: TT) rx_Room_requireIndex (xt_P [.int x0, .int x1] D ca []) n9 := by
  refine xm_of (by decide +kernel) (Nat.le_of_ble_eq_true rfl) ?_
  intro p e s m below meth c Q ar ls hx hb hml hts hown hexc hlocks hQ hP hK hev hl
  have hown : s.vm.findClass nR_Room = some m.cls := hown
  have hl : lv_has ls 2 [(0, .int x0), (1, .int x1)] := hl
  unfold fn_Room_requireIndex at hR
  refine lv_iload_n hx hb nd_Room_requireIndex_0 rfl (lv_at hl 0 rfl) ?_
  refine lv_if_lt (tgt := 9) hx hb nd_Room_requireIndex_1 (by decide) (fun c1 => ?_) (fun c1 => ?_)
  · replace hR := q_p c1 hR
    cases hR
    exact k_throw (own := nR_Room) (n := 1) (text := "there is nothing with this number") hx hb hml hown hts hexc hlocks hQ hev hlt (by decide +kernel) (by decide +kernel) tt_419 tt_16 tt_428 xo_1_177 hl.1 nd_Room_requireIndex_9 nd_Room_requireIndex_12 nd_Room_requireIndex_13 nd_Room_requireIndex_15 nd_Room_requireIndex_18 (by decide) (Nat.le_of_ble_eq_true rfl) (by decide) (by decide)
  · replace hR := q_n c1 hR
    refine lv_iload_n hx hb nd_Room_requireIndex_4 rfl (lv_at hl 0 rfl) ?_
    refine lv_iload_n hx hb nd_Room_requireIndex_5 rfl (lv_at hl 1 rfl) ?_
    refine lv_icmp_lt (tgt := 19) hx hb nd_Room_requireIndex_6 (by decide) (fun c2 => ?_) (fun c2 => ?_)
    · replace hR := q_p c2 hR
      exact (q_lx hR).elim
    · replace hR := q_n c2 hR
      cases hR
      exact k_throw (own := nR_Room) (n := 1) (text := "there is nothing with this number") hx hb hml hown hts hexc hlocks hQ hev hlt (by decide +kernel) (by decide +kernel) tt_419 tt_16 tt_428 xo_1_177 hl.1 nd_Room_requireIndex_9 nd_Room_requireIndex_12 nd_Room_requireIndex_13 nd_Room_requireIndex_15 nd_Room_requireIndex_18 (by decide) (Nat.le_of_ble_eq_true rfl) (by decide) (by decide)
def rx_Room_machine : Room := { frames := 9, cells := 1, slots := 6, locals := 162 }
set_option maxHeartbeats 4000000 in
set_option maxRecDepth 100000 in
theorem cx_Room_machine (l : Launch) (hlt : l.stackTraces = false) (D : va_G) (ca : Nat → ClassId) (qa0 qhouse qtrial qrisks qriskPoints qrules qgauge qinside qwalls qgoods qmachines qlows qhighs qrates qtold qrunning : Nat) (hoursGone_ : Int32) (lows_ : Nat → Int32) (highs_ : Nat → Int32) (rates_ : Nat → Int32) (told_ : Nat → Int32) (running_ : Nat → Int32) (x1 : Int32) (x2 : Int32) (x3 : Int32) (x4 : Int32) (n9 : Nat) (hR : fn_Room_machine lows_ highs_ rates_ told_ running_ x1 x2 x3 x4 = some (.inl n9)) : xm_Met l nY_Room_machine (Cond.code nY_Room_machine nC_Room_machine 5 none :: TT) rx_Room_machine (xt_P [.ref qa0, .int x1, .int x2, .int x3, .int x4] D ca [oc_Room qa0 qhouse qtrial qrisks qriskPoints qrules qgauge hoursGone_, oc_House qhouse qinside qwalls qgoods qmachines, oc_Machines qmachines qlows qhighs qrates qtold qrunning, aI qlows ca 4 lows_, aI qhighs ca 4 highs_, aI qrates ca 4 rates_, aZ qtold ca 4 told_, aZ qrunning ca 4 running_]) n9 := by
  refine xm_of (by decide +kernel) (Nat.le_of_ble_eq_true rfl) ?_
  intro p e s m below meth c Q ar ls hx hb hml hts hown hexc hlocks hQ hP hK hev hl
  have hown : s.vm.findClass nR_Room = some m.cls := hown
  have hl : lv_has ls 5 [(0, .ref qa0), (1, .int x1), (2, .int x2), (3, .int x3), (4, .int x4)] := hl
  unfold fn_Room_machine at hR
  refine lv_iload_n hx hb nd_Room_machine_0 rfl (lv_at hl 1 rfl) ?_
  refine lv_iconst (v := 4) hx hb nd_Room_machine_1 (by decide) ?_
  rcases q_xx hR with e1 | ⟨e1, hR⟩
  ·
    exact k_xS (As := [.int x1, .int (4 : Int32)]) (rest := []) hx hb hml hown hts hexc hlocks hQ hev (cx_Room_requireIndex l hlt D ca x1 (4 : Int32) n9 e1) kc_Room_requireIndex ks_Room_requireIndex tt_416 ⟨by decide, by decide⟩ rfl rfl hP hK [] rfl rfl hl.1 (Nat.le_of_ble_eq_true rfl) rfl nd_Room_machine_2 ⟨by decide, by decide⟩
  refine k_rSV (As := [.int x1, .int (4 : Int32)]) (rest := []) hx hb hml hown hts (cn_Room_requireIndex l D ca x1 (4 : Int32) e1) kc_Room_requireIndex ks_Room_requireIndex tt_416 ⟨by decide, by decide⟩ rfl rfl hP hK [] rfl rfl hl.1 (Nat.le_of_ble_eq_true rfl) rfl nd_Room_machine_2 ⟨Nat.zero_le _, Nat.zero_le _⟩ ?_
  refine lv_iload_n hx hb nd_Room_machine_5 rfl (lv_at hl 2 rfl) ?_
  refine lv_ldc hx hb hown (hts _ tt_435) nd_Room_machine_6 ?_
  refine lv_ldc hx hb hown (hts _ tt_395) nd_Room_machine_8 ?_
  rcases q_xx hR with e2 | ⟨e2, hR⟩
  ·
    exact k_xS (As := [.int x2, .int (-60000 : Int32), .int (60000 : Int32)]) (rest := []) hx hb hml hown hts hexc hlocks hQ hev (cx_Room_requireWithin l hlt D ca x2 (-60000 : Int32) (60000 : Int32) n9 e2) kc_Room_requireWithin ks_Room_requireWithin tt_278 ⟨by decide, by decide⟩ rfl rfl hP hK [] rfl rfl hl.1 (Nat.le_of_ble_eq_true rfl) rfl nd_Room_machine_10 ⟨by decide, by decide⟩
  refine k_rSV (As := [.int x2, .int (-60000 : Int32), .int (60000 : Int32)]) (rest := []) hx hb hml hown hts (cn_Room_requireWithin l D ca x2 (-60000 : Int32) (60000 : Int32) e2) kc_Room_requireWithin ks_Room_requireWithin tt_278 ⟨by decide, by decide⟩ rfl rfl hP hK [] rfl rfl hl.1 (Nat.le_of_ble_eq_true rfl) rfl nd_Room_machine_10 ⟨Nat.zero_le _, Nat.zero_le _⟩ ?_
  refine lv_iload_n hx hb nd_Room_machine_13 rfl (lv_at hl 3 rfl) ?_
  refine lv_iload_n hx hb nd_Room_machine_14 rfl (lv_at hl 2 rfl) ?_
  refine lv_ldc hx hb hown (hts _ tt_395) nd_Room_machine_15 ?_
  rcases q_xx hR with e3 | ⟨e3, hR⟩
  ·
    exact k_xS (As := [.int x3, .int x2, .int (60000 : Int32)]) (rest := []) hx hb hml hown hts hexc hlocks hQ hev (cx_Room_requireWithin l hlt D ca x3 x2 (60000 : Int32) n9 e3) kc_Room_requireWithin ks_Room_requireWithin tt_278 ⟨by decide, by decide⟩ rfl rfl hP hK [] rfl rfl hl.1 (Nat.le_of_ble_eq_true rfl) rfl nd_Room_machine_17 ⟨by decide, by decide⟩
  refine k_rSV (As := [.int x3, .int x2, .int (60000 : Int32)]) (rest := []) hx hb hml hown hts (cn_Room_requireWithin l D ca x3 x2 (60000 : Int32) e3) kc_Room_requireWithin ks_Room_requireWithin tt_278 ⟨by decide, by decide⟩ rfl rfl hP hK [] rfl rfl hl.1 (Nat.le_of_ble_eq_true rfl) rfl nd_Room_machine_17 ⟨Nat.zero_le _, Nat.zero_le _⟩ ?_
  refine lv_iload hx hb nd_Room_machine_20 (lv_at hl 4 rfl) ?_
  refine lv_iconst (v := 0) hx hb nd_Room_machine_22 (by decide) ?_
  refine lv_ldc hx hb hown (hts _ tt_436) nd_Room_machine_23 ?_
  rcases q_xx hR with e4 | ⟨e4, hR⟩
  ·
    exact k_xS (As := [.int x4, .int (0 : Int32), .int (100000 : Int32)]) (rest := []) hx hb hml hown hts hexc hlocks hQ hev (cx_Room_requireWithin l hlt D ca x4 (0 : Int32) (100000 : Int32) n9 e4) kc_Room_requireWithin ks_Room_requireWithin tt_278 ⟨by decide, by decide⟩ rfl rfl hP hK [] rfl rfl hl.1 (Nat.le_of_ble_eq_true rfl) rfl nd_Room_machine_25 ⟨by decide, by decide⟩
  exact (q_lx hR).elim
def rx_Room_hour : Room := { frames := 9, cells := 1, slots := 6, locals := 162 }
set_option maxHeartbeats 4000000 in
set_option maxRecDepth 100000 in
theorem cx_Room_hour (l : Launch) (hlt : l.stackTraces = false) (D : va_G) (ca : Nat → ClassId) (qa0 qhouse qtrial qrisks qriskPoints qrules qgauge qinside qwalls qgoods qmachines qheatBooks qwaterBooks qconductances qcapacities qheats qrows qlevels qamounts qlows qhighs qrates qtold qrunning qrisks0 qrisks1 qrisks2 qrisks3 qlevels2 qamounts2 qlevels3 qamounts3 qlevels4 qamounts4 qlevels5 qamounts5 qkinds qlevels6 qholds qalarmCounts qalarmHours qalarmHours0 qalarmHours1 qalarmHours2 qalarmHours3 : Nat) (hoursGone_ : Int32) (volume_ : Int32) (share_ : Int32) (heat_ : Int64) (water_ : Int64) (heatBooks_ : Nat → Int64) (waterBooks_ : Nat → Int64) (layers_ : Int32) (heats_ : Nat → Int64) (conductances_ : Nat → Int32) (capacities_ : Nat → Int32) (kilograms_ : Int32) (load_ : Int64) (size_ : Int32) (amounts_ : Nat → Int32) (levels_ : Nat → Int32) (told_ : Nat → Int32) (lows_ : Nat → Int32) (highs_ : Nat → Int32) (running_ : Nat → Int32) (rates_ : Nat → Int32) (riskPoints_ : Nat → Int32) (size_2 : Int32) (levels_2 : Nat → Int32) (amounts_2 : Nat → Int32) (size_3 : Int32) (levels_3 : Nat → Int32) (amounts_3 : Nat → Int32) (size_4 : Int32) (levels_4 : Nat → Int32) (amounts_4 : Nat → Int32) (size_5 : Int32) (levels_5 : Nat → Int32) (amounts_5 : Nat → Int32) (size_6 : Int32) (kinds_ : Nat → Int32) (levels_6 : Nat → Int32) (alarmCounts_ : Nat → Int32) (alarmHours0_ : Nat → Int32) (holds_ : Nat → Int32) (alarmHours1_ : Nat → Int32) (alarmHours2_ : Nat → Int32) (alarmHours3_ : Nat → Int32) (x1 : Int32) (x2 : Int32) (x3 : Int32) (n9 : Nat) (hR : fn_Room_hour hoursGone_ volume_ share_ heat_ water_ heatBooks_ waterBooks_ layers_ heats_ conductances_ capacities_ kilograms_ load_ size_ amounts_ levels_ told_ lows_ highs_ running_ rates_ riskPoints_ size_2 levels_2 amounts_2 size_3 levels_3 amounts_3 size_4 levels_4 amounts_4 size_5 levels_5 amounts_5 size_6 kinds_ levels_6 alarmCounts_ alarmHours0_ holds_ alarmHours1_ alarmHours2_ alarmHours3_ x1 x2 x3 = some (.inl n9)) : xm_Met l nY_Room_hour (Cond.code nY_Room_hour nC_Room_hour 4 (some .int) :: TT) rx_Room_hour (xt_P [.ref qa0, .int x1, .int x2, .int x3] D ca [oc_Room qa0 qhouse qtrial qrisks qriskPoints qrules qgauge hoursGone_, oc_House qhouse qinside qwalls qgoods qmachines, oc_Interior qinside qheatBooks qwaterBooks volume_ share_ heat_ water_, aJ qheatBooks ca 5 heatBooks_, aJ qwaterBooks ca 5 waterBooks_, oc_Walls qwalls qconductances qcapacities qheats layers_, aJ qheats ca 5 heats_, aI qconductances ca 5 conductances_, aI qcapacities ca 5 capacities_, oc_Goods qgoods qrows kilograms_ load_, oc_Steps qrows qlevels qamounts size_, aI qamounts ca 6 amounts_, aI qlevels ca 6 levels_, oc_Machines qmachines qlows qhighs qrates qtold qrunning, aZ qtold ca 4 told_, aI qlows ca 4 lows_, aI qhighs ca 4 highs_, aZ qrunning ca 4 running_, aI qrates ca 4 rates_, aI qriskPoints ca 4 riskPoints_, aS qrisks ca (rq4 qrisks0 qrisks1 qrisks2 qrisks3), oc_Steps qrisks0 qlevels2 qamounts2 size_2, aI qlevels2 ca 5 levels_2, aI qamounts2 ca 5 amounts_2, oc_Steps qrisks1 qlevels3 qamounts3 size_3, aI qlevels3 ca 5 levels_3, aI qamounts3 ca 5 amounts_3, oc_Steps qrisks2 qlevels4 qamounts4 size_4, aI qlevels4 ca 5 levels_4, aI qamounts4 ca 5 amounts_4, oc_Steps qrisks3 qlevels5 qamounts5 size_5, aI qlevels5 ca 5 levels_5, aI qamounts5 ca 5 amounts_5, oc_Rules qrules qkinds qlevels6 qholds qalarmCounts qalarmHours size_6, aI qkinds ca 4 kinds_, aI qlevels6 ca 4 levels_6, aI qalarmCounts ca 4 alarmCounts_, aG qalarmHours ca (rq4 qalarmHours0 qalarmHours1 qalarmHours2 qalarmHours3), aI qalarmHours0 ca 300 alarmHours0_, aI qholds ca 4 holds_, aI qalarmHours1 ca 300 alarmHours1_, aI qalarmHours2 ca 300 alarmHours2_, aI qalarmHours3 ca 300 alarmHours3_]) n9 := by
  refine xm_of (by decide +kernel) (Nat.le_of_ble_eq_true rfl) ?_
  intro p e s m below meth c Q ar ls hx hb hml hts hown hexc hlocks hQ hP hK hev hl
  have hown : s.vm.findClass nR_Room = some m.cls := hown
  have hl : lv_has ls 4 [(0, .ref qa0), (1, .int x1), (2, .int x2), (3, .int x3)] := hl
  unfold fn_Room_hour at hR
  refine lv_aload_n hx hb nd_Room_hour_0 rfl (lv_at hl 0 rfl) ?_
  refine va_get (D := D) (ci := 8) (v := .int hoursGone_) (C := nR_Room) (T := nT_Room) (N := 7) hx hb hts ni_Room hown hK hP 0 rfl rfl 6 (by decide) (hts (.fieldLink nR_Room 48 "RoomClimate" "hoursGone" "I") tt_228) (fun _ h9 => h9) rfl nd_Room_hour_1 ?_
  refine lv_sipush (v := 300) hx hb nd_Room_hour_4 (by decide) ?_
  rcases q_xx hR with e1 | ⟨e1, hR⟩
  ·
    exact k_xS (As := [.int hoursGone_, .int (300 : Int32)]) (rest := []) hx hb hml hown hts hexc hlocks hQ hev (cx_Room_requireSpace l hlt D ca hoursGone_ (300 : Int32) n9 e1) kc_Room_requireSpace ks_Room_requireSpace tt_357 ⟨by decide, by decide⟩ rfl rfl hP hK [] rfl rfl hl.1 (Nat.le_of_ble_eq_true rfl) rfl nd_Room_hour_7 ⟨by decide, by decide⟩
  refine k_rSV (As := [.int hoursGone_, .int (300 : Int32)]) (rest := []) hx hb hml hown hts (cn_Room_requireSpace l D ca hoursGone_ (300 : Int32) e1) kc_Room_requireSpace ks_Room_requireSpace tt_357 ⟨by decide, by decide⟩ rfl rfl hP hK [] rfl rfl hl.1 (Nat.le_of_ble_eq_true rfl) rfl nd_Room_hour_7 ⟨Nat.zero_le _, Nat.zero_le _⟩ ?_
  refine lv_iload_n hx hb nd_Room_hour_10 rfl (lv_at hl 1 rfl) ?_
  refine lv_ldc hx hb hown (hts _ tt_435) nd_Room_hour_11 ?_
  refine lv_ldc hx hb hown (hts _ tt_395) nd_Room_hour_13 ?_
  rcases q_xx hR with e2 | ⟨e2, hR⟩
  ·
    exact k_xS (As := [.int x1, .int (-60000 : Int32), .int (60000 : Int32)]) (rest := []) hx hb hml hown hts hexc hlocks hQ hev (cx_Room_requireWithin l hlt D ca x1 (-60000 : Int32) (60000 : Int32) n9 e2) kc_Room_requireWithin ks_Room_requireWithin tt_278 ⟨by decide, by decide⟩ rfl rfl hP hK [] rfl rfl hl.1 (Nat.le_of_ble_eq_true rfl) rfl nd_Room_hour_15 ⟨by decide, by decide⟩
  refine k_rSV (As := [.int x1, .int (-60000 : Int32), .int (60000 : Int32)]) (rest := []) hx hb hml hown hts (cn_Room_requireWithin l D ca x1 (-60000 : Int32) (60000 : Int32) e2) kc_Room_requireWithin ks_Room_requireWithin tt_278 ⟨by decide, by decide⟩ rfl rfl hP hK [] rfl rfl hl.1 (Nat.le_of_ble_eq_true rfl) rfl nd_Room_hour_15 ⟨Nat.zero_le _, Nat.zero_le _⟩ ?_
  refine lv_iload_n hx hb nd_Room_hour_18 rfl (lv_at hl 2 rfl) ?_
  refine lv_iconst (v := 0) hx hb nd_Room_hour_19 (by decide) ?_
  refine lv_ldc hx hb hown (hts _ tt_395) nd_Room_hour_20 ?_
  rcases q_xx hR with e3 | ⟨e3, hR⟩
  ·
    exact k_xS (As := [.int x2, .int (0 : Int32), .int (60000 : Int32)]) (rest := []) hx hb hml hown hts hexc hlocks hQ hev (cx_Room_requireWithin l hlt D ca x2 (0 : Int32) (60000 : Int32) n9 e3) kc_Room_requireWithin ks_Room_requireWithin tt_278 ⟨by decide, by decide⟩ rfl rfl hP hK [] rfl rfl hl.1 (Nat.le_of_ble_eq_true rfl) rfl nd_Room_hour_22 ⟨by decide, by decide⟩
  refine k_rSV (As := [.int x2, .int (0 : Int32), .int (60000 : Int32)]) (rest := []) hx hb hml hown hts (cn_Room_requireWithin l D ca x2 (0 : Int32) (60000 : Int32) e3) kc_Room_requireWithin ks_Room_requireWithin tt_278 ⟨by decide, by decide⟩ rfl rfl hP hK [] rfl rfl hl.1 (Nat.le_of_ble_eq_true rfl) rfl nd_Room_hour_22 ⟨Nat.zero_le _, Nat.zero_le _⟩ ?_
  refine lv_iload_n hx hb nd_Room_hour_25 rfl (lv_at hl 3 rfl) ?_
  refine lv_iconst (v := 0) hx hb nd_Room_hour_26 (by decide) ?_
  refine lv_bipush (v := 99) hx hb nd_Room_hour_27 (by decide) ?_
  rcases q_xx hR with e4 | ⟨e4, hR⟩
  ·
    exact k_xS (As := [.int x3, .int (0 : Int32), .int (99 : Int32)]) (rest := []) hx hb hml hown hts hexc hlocks hQ hev (cx_Room_requireWithin l hlt D ca x3 (0 : Int32) (99 : Int32) n9 e4) kc_Room_requireWithin ks_Room_requireWithin tt_278 ⟨by decide, by decide⟩ rfl rfl hP hK [] rfl rfl hl.1 (Nat.le_of_ble_eq_true rfl) rfl nd_Room_hour_29 ⟨by decide, by decide⟩
  exact (q_lx hR).elim
def rx_Room_layer : Room := { frames := 9, cells := 1, slots := 6, locals := 161 }
set_option maxHeartbeats 4000000 in
set_option maxRecDepth 100000 in
theorem cx_Room_layer (l : Launch) (hlt : l.stackTraces = false) (D : va_G) (ca : Nat → ClassId) (qa0 qhouse qtrial qrisks qriskPoints qrules qgauge qinside qwalls qgoods qmachines qconductances qcapacities qheats : Nat) (hoursGone_ : Int32) (layers_ : Int32) (heats_ : Nat → Int64) (capacities_ : Nat → Int32) (x1 : Int32) (n9 : Nat) (hR : fn_Room_layer layers_ heats_ capacities_ x1 = some (.inl n9)) : xm_Met l nY_Room_layer (Cond.code nY_Room_layer nC_Room_layer 2 (some .int) :: TT) rx_Room_layer (xt_P [.ref qa0, .int x1] D ca [oc_Room qa0 qhouse qtrial qrisks qriskPoints qrules qgauge hoursGone_, oc_House qhouse qinside qwalls qgoods qmachines, oc_Walls qwalls qconductances qcapacities qheats layers_, aJ qheats ca 5 heats_, aI qcapacities ca 5 capacities_]) n9 := by
  refine xm_of (by decide +kernel) (Nat.le_of_ble_eq_true rfl) ?_
  intro p e s m below meth c Q ar ls hx hb hml hts hown hexc hlocks hQ hP hK hev hl
  have hown : s.vm.findClass nR_Room = some m.cls := hown
  have hl : lv_has ls 2 [(0, .ref qa0), (1, .int x1)] := hl
  unfold fn_Room_layer at hR
  refine lv_iload_n hx hb nd_Room_layer_0 rfl (lv_at hl 1 rfl) ?_
  refine lv_aload_n hx hb nd_Room_layer_1 rfl (lv_at hl 0 rfl) ?_
  refine va_get (D := D) (ci := 8) (v := .ref qhouse) (C := nR_Room) (T := nT_Room) (N := 7) hx hb hts ni_Room hown hK hP 0 rfl rfl 0 (by decide) (hts (.fieldLink nR_Room 19 "RoomClimate" "house" "LRoomClimate$House;") tt_222) (fun _ h9 => h9) rfl nd_Room_layer_2 ?_
  refine va_getN (D := D) (ci := 2) (v := .ref qwalls) (C := nR_House) (T := nT_House) (N := 4) hx hb hts ni_House hown hK hP 1 rfl rfl 1 (by decide) (hts (.fieldLinkNest nR_Room 68 "RoomClimate$House" "walls" "LRoomClimate$Walls;" "RoomClimate") tt_152) (fun _ h9 => h9) rfl nd_Room_layer_5 ?_
  refine va_getN (D := D) (ci := 7) (v := .int layers_) (C := nR_Walls) (T := nT_Walls) (N := 4) hx hb hts ni_Walls hown hK hP 2 rfl rfl 3 (by decide) (hts (.fieldLinkNest nR_Room 72 "RoomClimate$Walls" "layers" "I" "RoomClimate") tt_96) (fun _ h9 => h9) rfl nd_Room_layer_8 ?_
  rcases q_xx hR with e1 | ⟨e1, hR⟩
  ·
    exact k_xS (As := [.int x1, .int layers_]) (rest := []) hx hb hml hown hts hexc hlocks hQ hev (cx_Room_requireIndex l hlt D ca x1 layers_ n9 e1) kc_Room_requireIndex ks_Room_requireIndex tt_416 ⟨by decide, by decide⟩ rfl rfl hP hK [] rfl rfl hl.1 (Nat.le_of_ble_eq_true rfl) rfl nd_Room_layer_11 ⟨by decide, by decide⟩
  exact (q_lx hR).elim
def rx_Room_on : Room := { frames := 9, cells := 1, slots := 6, locals := 161 }
set_option maxHeartbeats 4000000 in
set_option maxRecDepth 100000 in
theorem cx_Room_on (l : Launch) (hlt : l.stackTraces = false) (D : va_G) (ca : Nat → ClassId) (qa0 qhouse qtrial qrisks qriskPoints qrules qgauge qinside qwalls qgoods qmachines qlows qhighs qrates qtold qrunning : Nat) (hoursGone_ : Int32) (running_ : Nat → Int32) (x1 : Int32) (n9 : Nat) (hR : fn_Room_on running_ x1 = some (.inl n9)) : xm_Met l nY_Room_on (Cond.code nY_Room_on nC_Room_on 2 (some .boolean) :: TT) rx_Room_on (xt_P [.ref qa0, .int x1] D ca [oc_Room qa0 qhouse qtrial qrisks qriskPoints qrules qgauge hoursGone_, oc_House qhouse qinside qwalls qgoods qmachines, oc_Machines qmachines qlows qhighs qrates qtold qrunning, aZ qrunning ca 4 running_]) n9 := by
  refine xm_of (by decide +kernel) (Nat.le_of_ble_eq_true rfl) ?_
  intro p e s m below meth c Q ar ls hx hb hml hts hown hexc hlocks hQ hP hK hev hl
  have hown : s.vm.findClass nR_Room = some m.cls := hown
  have hl : lv_has ls 2 [(0, .ref qa0), (1, .int x1)] := hl
  unfold fn_Room_on at hR
  refine lv_iload_n hx hb nd_Room_on_0 rfl (lv_at hl 1 rfl) ?_
  refine lv_iconst (v := 4) hx hb nd_Room_on_1 (by decide) ?_
  rcases q_xx hR with e1 | ⟨e1, hR⟩
  ·
    exact k_xS (As := [.int x1, .int (4 : Int32)]) (rest := []) hx hb hml hown hts hexc hlocks hQ hev (cx_Room_requireIndex l hlt D ca x1 (4 : Int32) n9 e1) kc_Room_requireIndex ks_Room_requireIndex tt_416 ⟨by decide, by decide⟩ rfl rfl hP hK [] rfl rfl hl.1 (Nat.le_of_ble_eq_true rfl) rfl nd_Room_on_2 ⟨by decide, by decide⟩
  exact (q_lx hR).elim
def rx_Room_book : Room := { frames := 9, cells := 1, slots := 6, locals := 161 }
set_option maxHeartbeats 4000000 in
set_option maxRecDepth 100000 in
theorem cx_Room_book (l : Launch) (hlt : l.stackTraces = false) (D : va_G) (ca : Nat → ClassId) (qa0 qhouse qtrial qrisks qriskPoints qrules qgauge qinside qwalls qgoods qmachines qheatBooks qwaterBooks : Nat) (hoursGone_ : Int32) (volume_ : Int32) (share_ : Int32) (heat_ : Int64) (water_ : Int64) (waterBooks_ : Nat → Int64) (heatBooks_ : Nat → Int64) (x1 : Int32) (x2 : Int32) (n9 : Nat) (hR : fn_Room_book heat_ water_ waterBooks_ heatBooks_ x1 x2 = some (.inl n9)) : xm_Met l nY_Room_book (Cond.code nY_Room_book nC_Room_book 3 (some .long) :: TT) rx_Room_book (xt_P [.ref qa0, .int x1, .int x2] D ca [oc_Room qa0 qhouse qtrial qrisks qriskPoints qrules qgauge hoursGone_, oc_House qhouse qinside qwalls qgoods qmachines, oc_Interior qinside qheatBooks qwaterBooks volume_ share_ heat_ water_, aJ qwaterBooks ca 5 waterBooks_, aJ qheatBooks ca 5 heatBooks_]) n9 := by
  refine xm_of (by decide +kernel) (Nat.le_of_ble_eq_true rfl) ?_
  intro p e s m below meth c Q ar ls hx hb hml hts hown hexc hlocks hQ hP hK hev hl
  have hown : s.vm.findClass nR_Room = some m.cls := hown
  have hl : lv_has ls 3 [(0, .ref qa0), (1, .int x1), (2, .int x2)] := hl
  unfold fn_Room_book at hR
  refine lv_iload_n hx hb nd_Room_book_0 rfl (lv_at hl 2 rfl) ?_
  refine lv_iconst (v := 2) hx hb nd_Room_book_1 (by decide) ?_
  rcases q_xx hR with e1 | ⟨e1, hR⟩
  ·
    exact k_xS (As := [.int x2, .int (2 : Int32)]) (rest := []) hx hb hml hown hts hexc hlocks hQ hev (cx_Room_requireIndex l hlt D ca x2 (2 : Int32) n9 e1) kc_Room_requireIndex ks_Room_requireIndex tt_416 ⟨by decide, by decide⟩ rfl rfl hP hK [] rfl rfl hl.1 (Nat.le_of_ble_eq_true rfl) rfl nd_Room_book_2 ⟨by decide, by decide⟩
  refine k_rSV (As := [.int x2, .int (2 : Int32)]) (rest := []) hx hb hml hown hts (cn_Room_requireIndex l D ca x2 (2 : Int32) e1) kc_Room_requireIndex ks_Room_requireIndex tt_416 ⟨by decide, by decide⟩ rfl rfl hP hK [] rfl rfl hl.1 (Nat.le_of_ble_eq_true rfl) rfl nd_Room_book_2 ⟨Nat.zero_le _, Nat.zero_le _⟩ ?_
  refine lv_iload_n hx hb nd_Room_book_5 rfl (lv_at hl 1 rfl) ?_
  refine lv_iconst (v := -1) hx hb nd_Room_book_6 (by decide) ?_
  refine lv_icmp_ne (tgt := 38) hx hb nd_Room_book_7 (by decide) (fun c2 => ?_) (fun c2 => ?_)
  · replace hR := q_n c2 hR
    refine lv_iload_n hx hb nd_Room_book_38 rfl (lv_at hl 1 rfl) ?_
    refine lv_iconst (v := 5) hx hb nd_Room_book_39 (by decide) ?_
    rcases q_xx hR with e3 | ⟨e3, hR⟩
    ·
      exact k_xS (As := [.int x1, .int (5 : Int32)]) (rest := []) hx hb hml hown hts hexc hlocks hQ hev (cx_Room_requireIndex l hlt D ca x1 (5 : Int32) n9 e3) kc_Room_requireIndex ks_Room_requireIndex tt_416 ⟨by decide, by decide⟩ rfl rfl hP hK [] rfl rfl hl.1 (Nat.le_of_ble_eq_true rfl) rfl nd_Room_book_40 ⟨by decide, by decide⟩
    exact (q_lx hR).elim
  · replace hR := q_p c2 hR
    exact (q_lx hR).elim
def rx_Room_dew : Room := { frames := 9, cells := 1, slots := 6, locals := 161 }
set_option maxHeartbeats 4000000 in
set_option maxRecDepth 100000 in
theorem cx_Room_dew (l : Launch) (hlt : l.stackTraces = false) (D : va_G) (ca : Nat → ClassId) (qa0 qhouse qtrial qrisks qriskPoints qrules qgauge qinside qwalls qgoods qmachines qconductances qcapacities qheats qheatBooks qwaterBooks : Nat) (hoursGone_ : Int32) (layers_ : Int32) (volume_ : Int32) (share_ : Int32) (heat_ : Int64) (water_ : Int64) (heats_ : Nat → Int64) (capacities_ : Nat → Int32) (x1 : Int32) (n9 : Nat) (hR : fn_Room_dew layers_ volume_ water_ heats_ capacities_ x1 = some (.inl n9)) : xm_Met l nY_Room_dew (Cond.code nY_Room_dew nC_Room_dew 2 (some .boolean) :: TT) rx_Room_dew (xt_P [.ref qa0, .int x1] D ca [oc_Room qa0 qhouse qtrial qrisks qriskPoints qrules qgauge hoursGone_, oc_House qhouse qinside qwalls qgoods qmachines, oc_Walls qwalls qconductances qcapacities qheats layers_, oc_Interior qinside qheatBooks qwaterBooks volume_ share_ heat_ water_, aJ qheats ca 5 heats_, aI qcapacities ca 5 capacities_]) n9 := by
  refine xm_of (by decide +kernel) (Nat.le_of_ble_eq_true rfl) ?_
  intro p e s m below meth c Q ar ls hx hb hml hts hown hexc hlocks hQ hP hK hev hl
  have hown : s.vm.findClass nR_Room = some m.cls := hown
  have hl : lv_has ls 2 [(0, .ref qa0), (1, .int x1)] := hl
  unfold fn_Room_dew at hR
  refine lv_iload_n hx hb nd_Room_dew_0 rfl (lv_at hl 1 rfl) ?_
  refine lv_aload_n hx hb nd_Room_dew_1 rfl (lv_at hl 0 rfl) ?_
  refine va_get (D := D) (ci := 8) (v := .ref qhouse) (C := nR_Room) (T := nT_Room) (N := 7) hx hb hts ni_Room hown hK hP 0 rfl rfl 0 (by decide) (hts (.fieldLink nR_Room 19 "RoomClimate" "house" "LRoomClimate$House;") tt_222) (fun _ h9 => h9) rfl nd_Room_dew_2 ?_
  refine va_getN (D := D) (ci := 2) (v := .ref qwalls) (C := nR_House) (T := nT_House) (N := 4) hx hb hts ni_House hown hK hP 1 rfl rfl 1 (by decide) (hts (.fieldLinkNest nR_Room 68 "RoomClimate$House" "walls" "LRoomClimate$Walls;" "RoomClimate") tt_152) (fun _ h9 => h9) rfl nd_Room_dew_5 ?_
  refine va_getN (D := D) (ci := 7) (v := .int layers_) (C := nR_Walls) (T := nT_Walls) (N := 4) hx hb hts ni_Walls hown hK hP 2 rfl rfl 3 (by decide) (hts (.fieldLinkNest nR_Room 72 "RoomClimate$Walls" "layers" "I" "RoomClimate") tt_96) (fun _ h9 => h9) rfl nd_Room_dew_8 ?_
  rcases q_xx hR with e1 | ⟨e1, hR⟩
  ·
    exact k_xS (As := [.int x1, .int layers_]) (rest := []) hx hb hml hown hts hexc hlocks hQ hev (cx_Room_requireIndex l hlt D ca x1 layers_ n9 e1) kc_Room_requireIndex ks_Room_requireIndex tt_416 ⟨by decide, by decide⟩ rfl rfl hP hK [] rfl rfl hl.1 (Nat.le_of_ble_eq_true rfl) rfl nd_Room_dew_11 ⟨by decide, by decide⟩
  exact (q_lx hR).elim
def rx_Room_risk : Room := { frames := 9, cells := 1, slots := 6, locals := 162 }
set_option maxHeartbeats 4000000 in
set_option maxRecDepth 100000 in
theorem cx_Room_risk (l : Launch) (hlt : l.stackTraces = false) (D : va_G) (ca : Nat → ClassId) (qa0 qhouse qtrial qrisks qriskPoints qrules qgauge qrisks0 qrisks1 qrisks2 qrisks3 qlevels qamounts qlevels2 qamounts2 qlevels3 qamounts3 qlevels4 qamounts4 : Nat) (hoursGone_ : Int32) (size_ : Int32) (levels_ : Nat → Int32) (amounts_ : Nat → Int32) (size_2 : Int32) (levels_2 : Nat → Int32) (amounts_2 : Nat → Int32) (size_3 : Int32) (levels_3 : Nat → Int32) (amounts_3 : Nat → Int32) (size_4 : Int32) (levels_4 : Nat → Int32) (amounts_4 : Nat → Int32) (x1 : Int32) (x2 : Int32) (x3 : Int32) (n9 : Nat) (hR : fn_Room_risk size_ levels_ amounts_ size_2 levels_2 amounts_2 size_3 levels_3 amounts_3 size_4 levels_4 amounts_4 x1 x2 x3 = some (.inl n9)) : xm_Met l nY_Room_risk (Cond.code nY_Room_risk nC_Room_risk 4 (some .int) :: TT) rx_Room_risk (xt_P [.ref qa0, .int x1, .int x2, .int x3] D ca [oc_Room qa0 qhouse qtrial qrisks qriskPoints qrules qgauge hoursGone_, aS qrisks ca (rq4 qrisks0 qrisks1 qrisks2 qrisks3), oc_Steps qrisks0 qlevels qamounts size_, aI qlevels ca 5 levels_, aI qamounts ca 5 amounts_, oc_Steps qrisks1 qlevels2 qamounts2 size_2, aI qlevels2 ca 5 levels_2, aI qamounts2 ca 5 amounts_2, oc_Steps qrisks2 qlevels3 qamounts3 size_3, aI qlevels3 ca 5 levels_3, aI qamounts3 ca 5 amounts_3, oc_Steps qrisks3 qlevels4 qamounts4 size_4, aI qlevels4 ca 5 levels_4, aI qamounts4 ca 5 amounts_4]) n9 := by
  refine xm_of (by decide +kernel) (Nat.le_of_ble_eq_true rfl) ?_
  intro p e s m below meth c Q ar ls hx hb hml hts hown hexc hlocks hQ hP hK hev hl
  have hown : s.vm.findClass nR_Room = some m.cls := hown
  have hl : lv_has ls 4 [(0, .ref qa0), (1, .int x1), (2, .int x2), (3, .int x3)] := hl
  unfold fn_Room_risk at hR
  refine lv_iload_n hx hb nd_Room_risk_0 rfl (lv_at hl 1 rfl) ?_
  refine lv_iconst (v := 4) hx hb nd_Room_risk_1 (by decide) ?_
  rcases q_xx hR with e1 | ⟨e1, hR⟩
  ·
    exact k_xS (As := [.int x1, .int (4 : Int32)]) (rest := []) hx hb hml hown hts hexc hlocks hQ hev (cx_Room_requireIndex l hlt D ca x1 (4 : Int32) n9 e1) kc_Room_requireIndex ks_Room_requireIndex tt_416 ⟨by decide, by decide⟩ rfl rfl hP hK [] rfl rfl hl.1 (Nat.le_of_ble_eq_true rfl) rfl nd_Room_risk_2 ⟨by decide, by decide⟩
  refine k_rSV (As := [.int x1, .int (4 : Int32)]) (rest := []) hx hb hml hown hts (cn_Room_requireIndex l D ca x1 (4 : Int32) e1) kc_Room_requireIndex ks_Room_requireIndex tt_416 ⟨by decide, by decide⟩ rfl rfl hP hK [] rfl rfl hl.1 (Nat.le_of_ble_eq_true rfl) rfl nd_Room_risk_2 ⟨Nat.zero_le _, Nat.zero_le _⟩ ?_
  refine lv_aload_n hx hb nd_Room_risk_5 rfl (lv_at hl 0 rfl) ?_
  refine va_get (D := D) (ci := 8) (v := .ref qrisks) (C := nR_Room) (T := nT_Room) (N := 7) hx hb hts ni_Room hown hK hP 0 rfl rfl 2 (by decide) (hts (.fieldLink nR_Room 26 "RoomClimate" "risks" "[LRoomClimate$Steps;") tt_224) (fun _ h9 => h9) rfl nd_Room_risk_6 ?_
  refine lv_iload_n hx hb nd_Room_risk_9 rfl (lv_at hl 1 rfl) ?_
  by_cases c2 : x1 = 0
  · replace hR := q_p c2 hR
    refine k_aldq (k := 0) hx hb hK hP 1 3 rfl rfl c2 (by decide) (by decide) rfl nd_Room_risk_10 ?_
    refine va_getN (D := D) (ci := 6) (v := .int size_) (C := nR_Steps) (T := nT_Steps) (N := 3) hx hb hts ni_Steps hown hK hP 2 rfl rfl 2 (by decide) (hts (.fieldLinkNest nR_Room 98 "RoomClimate$Steps" "size" "I" "RoomClimate") tt_35) (fun _ h9 => h9) rfl nd_Room_risk_11 ?_
    refine lv_iconst (v := 5) hx hb nd_Room_risk_14 (by decide) ?_
    rcases q_xx hR with e3 | ⟨e3, hR⟩
    ·
      exact k_xS (As := [.int size_, .int (5 : Int32)]) (rest := []) hx hb hml hown hts hexc hlocks hQ hev (cx_Room_requireSpace l hlt D ca size_ (5 : Int32) n9 e3) kc_Room_requireSpace ks_Room_requireSpace tt_357 ⟨by decide, by decide⟩ rfl rfl hP hK [] rfl rfl hl.1 (Nat.le_of_ble_eq_true rfl) rfl nd_Room_risk_15 ⟨by decide, by decide⟩
    refine k_rSV (As := [.int size_, .int (5 : Int32)]) (rest := []) hx hb hml hown hts (cn_Room_requireSpace l D ca size_ (5 : Int32) e3) kc_Room_requireSpace ks_Room_requireSpace tt_357 ⟨by decide, by decide⟩ rfl rfl hP hK [] rfl rfl hl.1 (Nat.le_of_ble_eq_true rfl) rfl nd_Room_risk_15 ⟨Nat.zero_le _, Nat.zero_le _⟩ ?_
    refine lv_iload_n hx hb nd_Room_risk_18 rfl (lv_at hl 2 rfl) ?_
    refine lv_ldc hx hb hown (hts _ tt_435) nd_Room_risk_19 ?_
    refine lv_ldc hx hb hown (hts _ tt_395) nd_Room_risk_21 ?_
    rcases q_xx hR with e4 | ⟨e4, hR⟩
    ·
      exact k_xS (As := [.int x2, .int (-60000 : Int32), .int (60000 : Int32)]) (rest := []) hx hb hml hown hts hexc hlocks hQ hev (cx_Room_requireWithin l hlt D ca x2 (-60000 : Int32) (60000 : Int32) n9 e4) kc_Room_requireWithin ks_Room_requireWithin tt_278 ⟨by decide, by decide⟩ rfl rfl hP hK [] rfl rfl hl.1 (Nat.le_of_ble_eq_true rfl) rfl nd_Room_risk_23 ⟨by decide, by decide⟩
    refine k_rSV (As := [.int x2, .int (-60000 : Int32), .int (60000 : Int32)]) (rest := []) hx hb hml hown hts (cn_Room_requireWithin l D ca x2 (-60000 : Int32) (60000 : Int32) e4) kc_Room_requireWithin ks_Room_requireWithin tt_278 ⟨by decide, by decide⟩ rfl rfl hP hK [] rfl rfl hl.1 (Nat.le_of_ble_eq_true rfl) rfl nd_Room_risk_23 ⟨Nat.zero_le _, Nat.zero_le _⟩ ?_
    refine lv_aload_n hx hb nd_Room_risk_26 rfl (lv_at hl 0 rfl) ?_
    refine va_get (D := D) (ci := 8) (v := .ref qrisks) (C := nR_Room) (T := nT_Room) (N := 7) hx hb hts ni_Room hown hK hP 0 rfl rfl 2 (by decide) (hts (.fieldLink nR_Room 26 "RoomClimate" "risks" "[LRoomClimate$Steps;") tt_224) (fun _ h9 => h9) rfl nd_Room_risk_27 ?_
    refine lv_iload_n hx hb nd_Room_risk_30 rfl (lv_at hl 1 rfl) ?_
    refine k_aldq (k := 0) hx hb hK hP 1 3 rfl rfl c2 (by decide) (by decide) rfl nd_Room_risk_31 ?_
    refine lv_iload_n hx hb nd_Room_risk_32 rfl (lv_at hl 2 rfl) ?_
    rcases q_xx hR with e5 | ⟨e5, hR⟩
    ·
      exact k_xS (As := [.ref qrisks0, .int x2]) (rest := []) hx hb hml hown hts hexc hlocks hQ hev (cx_Room_requireRise l hlt D ca qrisks0 qlevels qamounts size_ levels_ 5 x2 n9 e5) kc_Room_requireRise ks_Room_requireRise tt_396 ⟨by decide, by decide⟩ rfl rfl hP hK [2, 3] rfl rfl hl.1 (Nat.le_of_ble_eq_true rfl) rfl nd_Room_risk_33 ⟨by decide, by decide⟩
    refine k_rSV (As := [.ref qrisks0, .int x2]) (rest := []) hx hb hml hown hts (cn_Room_requireRise l D ca qrisks0 qlevels qamounts size_ levels_ 5 x2 e5) kc_Room_requireRise ks_Room_requireRise tt_396 ⟨by decide, by decide⟩ rfl rfl hP hK [2, 3] rfl rfl hl.1 (Nat.le_of_ble_eq_true rfl) rfl nd_Room_risk_33 ⟨Nat.zero_le _, Nat.zero_le _⟩ ?_
    refine lv_iload_n hx hb nd_Room_risk_36 rfl (lv_at hl 3 rfl) ?_
    refine lv_iconst (v := 0) hx hb nd_Room_risk_37 (by decide) ?_
    refine lv_sipush (v := 1000) hx hb nd_Room_risk_38 (by decide) ?_
    rcases q_xx hR with e6 | ⟨e6, hR⟩
    ·
      exact k_xS (As := [.int x3, .int (0 : Int32), .int (1000 : Int32)]) (rest := []) hx hb hml hown hts hexc hlocks hQ hev (cx_Room_requireWithin l hlt D ca x3 (0 : Int32) (1000 : Int32) n9 e6) kc_Room_requireWithin ks_Room_requireWithin tt_278 ⟨by decide, by decide⟩ rfl rfl hP hK [] rfl rfl hl.1 (Nat.le_of_ble_eq_true rfl) rfl nd_Room_risk_41 ⟨by decide, by decide⟩
    exact (q_lx hR).elim
  replace hR := q_n c2 hR
  by_cases c8 : x1 = 1
  · replace hR := q_p c8 hR
    refine k_aldq (k := 1) hx hb hK hP 1 3 rfl rfl c8 (by decide) (by decide) rfl nd_Room_risk_10 ?_
    refine va_getN (D := D) (ci := 6) (v := .int size_2) (C := nR_Steps) (T := nT_Steps) (N := 3) hx hb hts ni_Steps hown hK hP 5 rfl rfl 2 (by decide) (hts (.fieldLinkNest nR_Room 98 "RoomClimate$Steps" "size" "I" "RoomClimate") tt_35) (fun _ h9 => h9) rfl nd_Room_risk_11 ?_
    refine lv_iconst (v := 5) hx hb nd_Room_risk_14 (by decide) ?_
    rcases q_xx hR with e9 | ⟨e9, hR⟩
    ·
      exact k_xS (As := [.int size_2, .int (5 : Int32)]) (rest := []) hx hb hml hown hts hexc hlocks hQ hev (cx_Room_requireSpace l hlt D ca size_2 (5 : Int32) n9 e9) kc_Room_requireSpace ks_Room_requireSpace tt_357 ⟨by decide, by decide⟩ rfl rfl hP hK [] rfl rfl hl.1 (Nat.le_of_ble_eq_true rfl) rfl nd_Room_risk_15 ⟨by decide, by decide⟩
    refine k_rSV (As := [.int size_2, .int (5 : Int32)]) (rest := []) hx hb hml hown hts (cn_Room_requireSpace l D ca size_2 (5 : Int32) e9) kc_Room_requireSpace ks_Room_requireSpace tt_357 ⟨by decide, by decide⟩ rfl rfl hP hK [] rfl rfl hl.1 (Nat.le_of_ble_eq_true rfl) rfl nd_Room_risk_15 ⟨Nat.zero_le _, Nat.zero_le _⟩ ?_
    refine lv_iload_n hx hb nd_Room_risk_18 rfl (lv_at hl 2 rfl) ?_
    refine lv_ldc hx hb hown (hts _ tt_435) nd_Room_risk_19 ?_
    refine lv_ldc hx hb hown (hts _ tt_395) nd_Room_risk_21 ?_
    rcases q_xx hR with e10 | ⟨e10, hR⟩
    ·
      exact k_xS (As := [.int x2, .int (-60000 : Int32), .int (60000 : Int32)]) (rest := []) hx hb hml hown hts hexc hlocks hQ hev (cx_Room_requireWithin l hlt D ca x2 (-60000 : Int32) (60000 : Int32) n9 e10) kc_Room_requireWithin ks_Room_requireWithin tt_278 ⟨by decide, by decide⟩ rfl rfl hP hK [] rfl rfl hl.1 (Nat.le_of_ble_eq_true rfl) rfl nd_Room_risk_23 ⟨by decide, by decide⟩
    refine k_rSV (As := [.int x2, .int (-60000 : Int32), .int (60000 : Int32)]) (rest := []) hx hb hml hown hts (cn_Room_requireWithin l D ca x2 (-60000 : Int32) (60000 : Int32) e10) kc_Room_requireWithin ks_Room_requireWithin tt_278 ⟨by decide, by decide⟩ rfl rfl hP hK [] rfl rfl hl.1 (Nat.le_of_ble_eq_true rfl) rfl nd_Room_risk_23 ⟨Nat.zero_le _, Nat.zero_le _⟩ ?_
    refine lv_aload_n hx hb nd_Room_risk_26 rfl (lv_at hl 0 rfl) ?_
    refine va_get (D := D) (ci := 8) (v := .ref qrisks) (C := nR_Room) (T := nT_Room) (N := 7) hx hb hts ni_Room hown hK hP 0 rfl rfl 2 (by decide) (hts (.fieldLink nR_Room 26 "RoomClimate" "risks" "[LRoomClimate$Steps;") tt_224) (fun _ h9 => h9) rfl nd_Room_risk_27 ?_
    refine lv_iload_n hx hb nd_Room_risk_30 rfl (lv_at hl 1 rfl) ?_
    refine k_aldq (k := 1) hx hb hK hP 1 3 rfl rfl c8 (by decide) (by decide) rfl nd_Room_risk_31 ?_
    refine lv_iload_n hx hb nd_Room_risk_32 rfl (lv_at hl 2 rfl) ?_
    rcases q_xx hR with e11 | ⟨e11, hR⟩
    ·
      exact k_xS (As := [.ref qrisks1, .int x2]) (rest := []) hx hb hml hown hts hexc hlocks hQ hev (cx_Room_requireRise l hlt D ca qrisks1 qlevels2 qamounts2 size_2 levels_2 5 x2 n9 e11) kc_Room_requireRise ks_Room_requireRise tt_396 ⟨by decide, by decide⟩ rfl rfl hP hK [5, 6] rfl rfl hl.1 (Nat.le_of_ble_eq_true rfl) rfl nd_Room_risk_33 ⟨by decide, by decide⟩
    refine k_rSV (As := [.ref qrisks1, .int x2]) (rest := []) hx hb hml hown hts (cn_Room_requireRise l D ca qrisks1 qlevels2 qamounts2 size_2 levels_2 5 x2 e11) kc_Room_requireRise ks_Room_requireRise tt_396 ⟨by decide, by decide⟩ rfl rfl hP hK [5, 6] rfl rfl hl.1 (Nat.le_of_ble_eq_true rfl) rfl nd_Room_risk_33 ⟨Nat.zero_le _, Nat.zero_le _⟩ ?_
    refine lv_iload_n hx hb nd_Room_risk_36 rfl (lv_at hl 3 rfl) ?_
    refine lv_iconst (v := 0) hx hb nd_Room_risk_37 (by decide) ?_
    refine lv_sipush (v := 1000) hx hb nd_Room_risk_38 (by decide) ?_
    rcases q_xx hR with e12 | ⟨e12, hR⟩
    ·
      exact k_xS (As := [.int x3, .int (0 : Int32), .int (1000 : Int32)]) (rest := []) hx hb hml hown hts hexc hlocks hQ hev (cx_Room_requireWithin l hlt D ca x3 (0 : Int32) (1000 : Int32) n9 e12) kc_Room_requireWithin ks_Room_requireWithin tt_278 ⟨by decide, by decide⟩ rfl rfl hP hK [] rfl rfl hl.1 (Nat.le_of_ble_eq_true rfl) rfl nd_Room_risk_41 ⟨by decide, by decide⟩
    exact (q_lx hR).elim
  replace hR := q_n c8 hR
  by_cases c14 : x1 = 2
  · replace hR := q_p c14 hR
    refine k_aldq (k := 2) hx hb hK hP 1 3 rfl rfl c14 (by decide) (by decide) rfl nd_Room_risk_10 ?_
    refine va_getN (D := D) (ci := 6) (v := .int size_3) (C := nR_Steps) (T := nT_Steps) (N := 3) hx hb hts ni_Steps hown hK hP 8 rfl rfl 2 (by decide) (hts (.fieldLinkNest nR_Room 98 "RoomClimate$Steps" "size" "I" "RoomClimate") tt_35) (fun _ h9 => h9) rfl nd_Room_risk_11 ?_
    refine lv_iconst (v := 5) hx hb nd_Room_risk_14 (by decide) ?_
    rcases q_xx hR with e15 | ⟨e15, hR⟩
    ·
      exact k_xS (As := [.int size_3, .int (5 : Int32)]) (rest := []) hx hb hml hown hts hexc hlocks hQ hev (cx_Room_requireSpace l hlt D ca size_3 (5 : Int32) n9 e15) kc_Room_requireSpace ks_Room_requireSpace tt_357 ⟨by decide, by decide⟩ rfl rfl hP hK [] rfl rfl hl.1 (Nat.le_of_ble_eq_true rfl) rfl nd_Room_risk_15 ⟨by decide, by decide⟩
    refine k_rSV (As := [.int size_3, .int (5 : Int32)]) (rest := []) hx hb hml hown hts (cn_Room_requireSpace l D ca size_3 (5 : Int32) e15) kc_Room_requireSpace ks_Room_requireSpace tt_357 ⟨by decide, by decide⟩ rfl rfl hP hK [] rfl rfl hl.1 (Nat.le_of_ble_eq_true rfl) rfl nd_Room_risk_15 ⟨Nat.zero_le _, Nat.zero_le _⟩ ?_
    refine lv_iload_n hx hb nd_Room_risk_18 rfl (lv_at hl 2 rfl) ?_
    refine lv_ldc hx hb hown (hts _ tt_435) nd_Room_risk_19 ?_
    refine lv_ldc hx hb hown (hts _ tt_395) nd_Room_risk_21 ?_
    rcases q_xx hR with e16 | ⟨e16, hR⟩
    ·
      exact k_xS (As := [.int x2, .int (-60000 : Int32), .int (60000 : Int32)]) (rest := []) hx hb hml hown hts hexc hlocks hQ hev (cx_Room_requireWithin l hlt D ca x2 (-60000 : Int32) (60000 : Int32) n9 e16) kc_Room_requireWithin ks_Room_requireWithin tt_278 ⟨by decide, by decide⟩ rfl rfl hP hK [] rfl rfl hl.1 (Nat.le_of_ble_eq_true rfl) rfl nd_Room_risk_23 ⟨by decide, by decide⟩
    refine k_rSV (As := [.int x2, .int (-60000 : Int32), .int (60000 : Int32)]) (rest := []) hx hb hml hown hts (cn_Room_requireWithin l D ca x2 (-60000 : Int32) (60000 : Int32) e16) kc_Room_requireWithin ks_Room_requireWithin tt_278 ⟨by decide, by decide⟩ rfl rfl hP hK [] rfl rfl hl.1 (Nat.le_of_ble_eq_true rfl) rfl nd_Room_risk_23 ⟨Nat.zero_le _, Nat.zero_le _⟩ ?_
    refine lv_aload_n hx hb nd_Room_risk_26 rfl (lv_at hl 0 rfl) ?_
    refine va_get (D := D) (ci := 8) (v := .ref qrisks) (C := nR_Room) (T := nT_Room) (N := 7) hx hb hts ni_Room hown hK hP 0 rfl rfl 2 (by decide) (hts (.fieldLink nR_Room 26 "RoomClimate" "risks" "[LRoomClimate$Steps;") tt_224) (fun _ h9 => h9) rfl nd_Room_risk_27 ?_
    refine lv_iload_n hx hb nd_Room_risk_30 rfl (lv_at hl 1 rfl) ?_
    refine k_aldq (k := 2) hx hb hK hP 1 3 rfl rfl c14 (by decide) (by decide) rfl nd_Room_risk_31 ?_
    refine lv_iload_n hx hb nd_Room_risk_32 rfl (lv_at hl 2 rfl) ?_
    rcases q_xx hR with e17 | ⟨e17, hR⟩
    ·
      exact k_xS (As := [.ref qrisks2, .int x2]) (rest := []) hx hb hml hown hts hexc hlocks hQ hev (cx_Room_requireRise l hlt D ca qrisks2 qlevels3 qamounts3 size_3 levels_3 5 x2 n9 e17) kc_Room_requireRise ks_Room_requireRise tt_396 ⟨by decide, by decide⟩ rfl rfl hP hK [8, 9] rfl rfl hl.1 (Nat.le_of_ble_eq_true rfl) rfl nd_Room_risk_33 ⟨by decide, by decide⟩
    refine k_rSV (As := [.ref qrisks2, .int x2]) (rest := []) hx hb hml hown hts (cn_Room_requireRise l D ca qrisks2 qlevels3 qamounts3 size_3 levels_3 5 x2 e17) kc_Room_requireRise ks_Room_requireRise tt_396 ⟨by decide, by decide⟩ rfl rfl hP hK [8, 9] rfl rfl hl.1 (Nat.le_of_ble_eq_true rfl) rfl nd_Room_risk_33 ⟨Nat.zero_le _, Nat.zero_le _⟩ ?_
    refine lv_iload_n hx hb nd_Room_risk_36 rfl (lv_at hl 3 rfl) ?_
    refine lv_iconst (v := 0) hx hb nd_Room_risk_37 (by decide) ?_
    refine lv_sipush (v := 1000) hx hb nd_Room_risk_38 (by decide) ?_
    rcases q_xx hR with e18 | ⟨e18, hR⟩
    ·
      exact k_xS (As := [.int x3, .int (0 : Int32), .int (1000 : Int32)]) (rest := []) hx hb hml hown hts hexc hlocks hQ hev (cx_Room_requireWithin l hlt D ca x3 (0 : Int32) (1000 : Int32) n9 e18) kc_Room_requireWithin ks_Room_requireWithin tt_278 ⟨by decide, by decide⟩ rfl rfl hP hK [] rfl rfl hl.1 (Nat.le_of_ble_eq_true rfl) rfl nd_Room_risk_41 ⟨by decide, by decide⟩
    exact (q_lx hR).elim
  replace hR := q_n c14 hR
  by_cases c20 : x1 = 3
  · replace hR := q_p c20 hR
    refine k_aldq (k := 3) hx hb hK hP 1 3 rfl rfl c20 (by decide) (by decide) rfl nd_Room_risk_10 ?_
    refine va_getN (D := D) (ci := 6) (v := .int size_4) (C := nR_Steps) (T := nT_Steps) (N := 3) hx hb hts ni_Steps hown hK hP 11 rfl rfl 2 (by decide) (hts (.fieldLinkNest nR_Room 98 "RoomClimate$Steps" "size" "I" "RoomClimate") tt_35) (fun _ h9 => h9) rfl nd_Room_risk_11 ?_
    refine lv_iconst (v := 5) hx hb nd_Room_risk_14 (by decide) ?_
    rcases q_xx hR with e21 | ⟨e21, hR⟩
    ·
      exact k_xS (As := [.int size_4, .int (5 : Int32)]) (rest := []) hx hb hml hown hts hexc hlocks hQ hev (cx_Room_requireSpace l hlt D ca size_4 (5 : Int32) n9 e21) kc_Room_requireSpace ks_Room_requireSpace tt_357 ⟨by decide, by decide⟩ rfl rfl hP hK [] rfl rfl hl.1 (Nat.le_of_ble_eq_true rfl) rfl nd_Room_risk_15 ⟨by decide, by decide⟩
    refine k_rSV (As := [.int size_4, .int (5 : Int32)]) (rest := []) hx hb hml hown hts (cn_Room_requireSpace l D ca size_4 (5 : Int32) e21) kc_Room_requireSpace ks_Room_requireSpace tt_357 ⟨by decide, by decide⟩ rfl rfl hP hK [] rfl rfl hl.1 (Nat.le_of_ble_eq_true rfl) rfl nd_Room_risk_15 ⟨Nat.zero_le _, Nat.zero_le _⟩ ?_
    refine lv_iload_n hx hb nd_Room_risk_18 rfl (lv_at hl 2 rfl) ?_
    refine lv_ldc hx hb hown (hts _ tt_435) nd_Room_risk_19 ?_
    refine lv_ldc hx hb hown (hts _ tt_395) nd_Room_risk_21 ?_
    rcases q_xx hR with e22 | ⟨e22, hR⟩
    ·
      exact k_xS (As := [.int x2, .int (-60000 : Int32), .int (60000 : Int32)]) (rest := []) hx hb hml hown hts hexc hlocks hQ hev (cx_Room_requireWithin l hlt D ca x2 (-60000 : Int32) (60000 : Int32) n9 e22) kc_Room_requireWithin ks_Room_requireWithin tt_278 ⟨by decide, by decide⟩ rfl rfl hP hK [] rfl rfl hl.1 (Nat.le_of_ble_eq_true rfl) rfl nd_Room_risk_23 ⟨by decide, by decide⟩
    refine k_rSV (As := [.int x2, .int (-60000 : Int32), .int (60000 : Int32)]) (rest := []) hx hb hml hown hts (cn_Room_requireWithin l D ca x2 (-60000 : Int32) (60000 : Int32) e22) kc_Room_requireWithin ks_Room_requireWithin tt_278 ⟨by decide, by decide⟩ rfl rfl hP hK [] rfl rfl hl.1 (Nat.le_of_ble_eq_true rfl) rfl nd_Room_risk_23 ⟨Nat.zero_le _, Nat.zero_le _⟩ ?_
    refine lv_aload_n hx hb nd_Room_risk_26 rfl (lv_at hl 0 rfl) ?_
    refine va_get (D := D) (ci := 8) (v := .ref qrisks) (C := nR_Room) (T := nT_Room) (N := 7) hx hb hts ni_Room hown hK hP 0 rfl rfl 2 (by decide) (hts (.fieldLink nR_Room 26 "RoomClimate" "risks" "[LRoomClimate$Steps;") tt_224) (fun _ h9 => h9) rfl nd_Room_risk_27 ?_
    refine lv_iload_n hx hb nd_Room_risk_30 rfl (lv_at hl 1 rfl) ?_
    refine k_aldq (k := 3) hx hb hK hP 1 3 rfl rfl c20 (by decide) (by decide) rfl nd_Room_risk_31 ?_
    refine lv_iload_n hx hb nd_Room_risk_32 rfl (lv_at hl 2 rfl) ?_
    rcases q_xx hR with e23 | ⟨e23, hR⟩
    ·
      exact k_xS (As := [.ref qrisks3, .int x2]) (rest := []) hx hb hml hown hts hexc hlocks hQ hev (cx_Room_requireRise l hlt D ca qrisks3 qlevels4 qamounts4 size_4 levels_4 5 x2 n9 e23) kc_Room_requireRise ks_Room_requireRise tt_396 ⟨by decide, by decide⟩ rfl rfl hP hK [11, 12] rfl rfl hl.1 (Nat.le_of_ble_eq_true rfl) rfl nd_Room_risk_33 ⟨by decide, by decide⟩
    refine k_rSV (As := [.ref qrisks3, .int x2]) (rest := []) hx hb hml hown hts (cn_Room_requireRise l D ca qrisks3 qlevels4 qamounts4 size_4 levels_4 5 x2 e23) kc_Room_requireRise ks_Room_requireRise tt_396 ⟨by decide, by decide⟩ rfl rfl hP hK [11, 12] rfl rfl hl.1 (Nat.le_of_ble_eq_true rfl) rfl nd_Room_risk_33 ⟨Nat.zero_le _, Nat.zero_le _⟩ ?_
    refine lv_iload_n hx hb nd_Room_risk_36 rfl (lv_at hl 3 rfl) ?_
    refine lv_iconst (v := 0) hx hb nd_Room_risk_37 (by decide) ?_
    refine lv_sipush (v := 1000) hx hb nd_Room_risk_38 (by decide) ?_
    rcases q_xx hR with e24 | ⟨e24, hR⟩
    ·
      exact k_xS (As := [.int x3, .int (0 : Int32), .int (1000 : Int32)]) (rest := []) hx hb hml hown hts hexc hlocks hQ hev (cx_Room_requireWithin l hlt D ca x3 (0 : Int32) (1000 : Int32) n9 e24) kc_Room_requireWithin ks_Room_requireWithin tt_278 ⟨by decide, by decide⟩ rfl rfl hP hK [] rfl rfl hl.1 (Nat.le_of_ble_eq_true rfl) rfl nd_Room_risk_41 ⟨by decide, by decide⟩
    exact (q_lx hR).elim
  replace hR := q_n c20 hR
  exact nomatch hR
def rx_Room_points : Room := { frames := 9, cells := 1, slots := 6, locals := 161 }
set_option maxHeartbeats 4000000 in
set_option maxRecDepth 100000 in
theorem cx_Room_points (l : Launch) (hlt : l.stackTraces = false) (D : va_G) (ca : Nat → ClassId) (qa0 qhouse qtrial qrisks qriskPoints qrules qgauge : Nat) (hoursGone_ : Int32) (riskPoints_ : Nat → Int32) (x1 : Int32) (n9 : Nat) (hR : fn_Room_points riskPoints_ x1 = some (.inl n9)) : xm_Met l nY_Room_points (Cond.code nY_Room_points nC_Room_points 2 (some .int) :: TT) rx_Room_points (xt_P [.ref qa0, .int x1] D ca [oc_Room qa0 qhouse qtrial qrisks qriskPoints qrules qgauge hoursGone_, aI qriskPoints ca 4 riskPoints_]) n9 := by
  refine xm_of (by decide +kernel) (Nat.le_of_ble_eq_true rfl) ?_
  intro p e s m below meth c Q ar ls hx hb hml hts hown hexc hlocks hQ hP hK hev hl
  have hown : s.vm.findClass nR_Room = some m.cls := hown
  have hl : lv_has ls 2 [(0, .ref qa0), (1, .int x1)] := hl
  unfold fn_Room_points at hR
  refine lv_iload_n hx hb nd_Room_points_0 rfl (lv_at hl 1 rfl) ?_
  refine lv_iconst (v := 4) hx hb nd_Room_points_1 (by decide) ?_
  rcases q_xx hR with e1 | ⟨e1, hR⟩
  ·
    exact k_xS (As := [.int x1, .int (4 : Int32)]) (rest := []) hx hb hml hown hts hexc hlocks hQ hev (cx_Room_requireIndex l hlt D ca x1 (4 : Int32) n9 e1) kc_Room_requireIndex ks_Room_requireIndex tt_416 ⟨by decide, by decide⟩ rfl rfl hP hK [] rfl rfl hl.1 (Nat.le_of_ble_eq_true rfl) rfl nd_Room_points_2 ⟨by decide, by decide⟩
  exact (q_lx hR).elim
def rx_Room_rule : Room := { frames := 9, cells := 1, slots := 6, locals := 162 }
set_option maxHeartbeats 4000000 in
set_option maxRecDepth 100000 in
theorem cx_Room_rule (l : Launch) (hlt : l.stackTraces = false) (D : va_G) (ca : Nat → ClassId) (qa0 qhouse qtrial qrisks qriskPoints qrules qgauge qkinds qlevels qholds qalarmCounts qalarmHours : Nat) (hoursGone_ : Int32) (size_ : Int32) (kinds_ : Nat → Int32) (levels_ : Nat → Int32) (holds_ : Nat → Int32) (x1 : Int32) (x2 : Int32) (x3 : Int32) (n9 : Nat) (hR : fn_Room_rule size_ kinds_ levels_ holds_ x1 x2 x3 = some (.inl n9)) : xm_Met l nY_Room_rule (Cond.code nY_Room_rule nC_Room_rule 4 (some .int) :: TT) rx_Room_rule (xt_P [.ref qa0, .int x1, .int x2, .int x3] D ca [oc_Room qa0 qhouse qtrial qrisks qriskPoints qrules qgauge hoursGone_, oc_Rules qrules qkinds qlevels qholds qalarmCounts qalarmHours size_, aI qkinds ca 4 kinds_, aI qlevels ca 4 levels_, aI qholds ca 4 holds_]) n9 := by
  refine xm_of (by decide +kernel) (Nat.le_of_ble_eq_true rfl) ?_
  intro p e s m below meth c Q ar ls hx hb hml hts hown hexc hlocks hQ hP hK hev hl
  have hown : s.vm.findClass nR_Room = some m.cls := hown
  have hl : lv_has ls 4 [(0, .ref qa0), (1, .int x1), (2, .int x2), (3, .int x3)] := hl
  unfold fn_Room_rule at hR
  refine lv_aload_n hx hb nd_Room_rule_0 rfl (lv_at hl 0 rfl) ?_
  refine va_get (D := D) (ci := 8) (v := .ref qrules) (C := nR_Room) (T := nT_Room) (N := 7) hx hb hts ni_Room hown hK hP 0 rfl rfl 4 (by decide) (hts (.fieldLink nR_Room 37 "RoomClimate" "rules" "LRoomClimate$Rules;") tt_226) (fun _ h9 => h9) rfl nd_Room_rule_1 ?_
  refine va_getN (D := D) (ci := 5) (v := .int size_) (C := nR_Rules) (T := nT_Rules) (N := 6) hx hb hts ni_Rules hown hK hP 1 rfl rfl 5 (by decide) (hts (.fieldLinkNest nR_Room 169 "RoomClimate$Rules" "size" "I" "RoomClimate") tt_183) (fun _ h9 => h9) rfl nd_Room_rule_4 ?_
  refine lv_iconst (v := 4) hx hb nd_Room_rule_7 (by decide) ?_
  rcases q_xx hR with e1 | ⟨e1, hR⟩
  ·
    exact k_xS (As := [.int size_, .int (4 : Int32)]) (rest := []) hx hb hml hown hts hexc hlocks hQ hev (cx_Room_requireSpace l hlt D ca size_ (4 : Int32) n9 e1) kc_Room_requireSpace ks_Room_requireSpace tt_357 ⟨by decide, by decide⟩ rfl rfl hP hK [] rfl rfl hl.1 (Nat.le_of_ble_eq_true rfl) rfl nd_Room_rule_8 ⟨by decide, by decide⟩
  refine k_rSV (As := [.int size_, .int (4 : Int32)]) (rest := []) hx hb hml hown hts (cn_Room_requireSpace l D ca size_ (4 : Int32) e1) kc_Room_requireSpace ks_Room_requireSpace tt_357 ⟨by decide, by decide⟩ rfl rfl hP hK [] rfl rfl hl.1 (Nat.le_of_ble_eq_true rfl) rfl nd_Room_rule_8 ⟨Nat.zero_le _, Nat.zero_le _⟩ ?_
  refine lv_iload_n hx hb nd_Room_rule_11 rfl (lv_at hl 1 rfl) ?_
  refine lv_iconst (v := 0) hx hb nd_Room_rule_12 (by decide) ?_
  refine lv_iconst (v := 3) hx hb nd_Room_rule_13 (by decide) ?_
  rcases q_xx hR with e2 | ⟨e2, hR⟩
  ·
    exact k_xS (As := [.int x1, .int (0 : Int32), .int (3 : Int32)]) (rest := []) hx hb hml hown hts hexc hlocks hQ hev (cx_Room_requireWithin l hlt D ca x1 (0 : Int32) (3 : Int32) n9 e2) kc_Room_requireWithin ks_Room_requireWithin tt_278 ⟨by decide, by decide⟩ rfl rfl hP hK [] rfl rfl hl.1 (Nat.le_of_ble_eq_true rfl) rfl nd_Room_rule_14 ⟨by decide, by decide⟩
  refine k_rSV (As := [.int x1, .int (0 : Int32), .int (3 : Int32)]) (rest := []) hx hb hml hown hts (cn_Room_requireWithin l D ca x1 (0 : Int32) (3 : Int32) e2) kc_Room_requireWithin ks_Room_requireWithin tt_278 ⟨by decide, by decide⟩ rfl rfl hP hK [] rfl rfl hl.1 (Nat.le_of_ble_eq_true rfl) rfl nd_Room_rule_14 ⟨Nat.zero_le _, Nat.zero_le _⟩ ?_
  refine lv_iload_n hx hb nd_Room_rule_17 rfl (lv_at hl 2 rfl) ?_
  refine lv_ldc hx hb hown (hts _ tt_435) nd_Room_rule_18 ?_
  refine lv_ldc hx hb hown (hts _ tt_395) nd_Room_rule_20 ?_
  rcases q_xx hR with e3 | ⟨e3, hR⟩
  ·
    exact k_xS (As := [.int x2, .int (-60000 : Int32), .int (60000 : Int32)]) (rest := []) hx hb hml hown hts hexc hlocks hQ hev (cx_Room_requireWithin l hlt D ca x2 (-60000 : Int32) (60000 : Int32) n9 e3) kc_Room_requireWithin ks_Room_requireWithin tt_278 ⟨by decide, by decide⟩ rfl rfl hP hK [] rfl rfl hl.1 (Nat.le_of_ble_eq_true rfl) rfl nd_Room_rule_22 ⟨by decide, by decide⟩
  refine k_rSV (As := [.int x2, .int (-60000 : Int32), .int (60000 : Int32)]) (rest := []) hx hb hml hown hts (cn_Room_requireWithin l D ca x2 (-60000 : Int32) (60000 : Int32) e3) kc_Room_requireWithin ks_Room_requireWithin tt_278 ⟨by decide, by decide⟩ rfl rfl hP hK [] rfl rfl hl.1 (Nat.le_of_ble_eq_true rfl) rfl nd_Room_rule_22 ⟨Nat.zero_le _, Nat.zero_le _⟩ ?_
  refine lv_iload_n hx hb nd_Room_rule_25 rfl (lv_at hl 3 rfl) ?_
  refine lv_iconst (v := 1) hx hb nd_Room_rule_26 (by decide) ?_
  refine lv_bipush (v := 99) hx hb nd_Room_rule_27 (by decide) ?_
  rcases q_xx hR with e4 | ⟨e4, hR⟩
  ·
    exact k_xS (As := [.int x3, .int (1 : Int32), .int (99 : Int32)]) (rest := []) hx hb hml hown hts hexc hlocks hQ hev (cx_Room_requireWithin l hlt D ca x3 (1 : Int32) (99 : Int32) n9 e4) kc_Room_requireWithin ks_Room_requireWithin tt_278 ⟨by decide, by decide⟩ rfl rfl hP hK [] rfl rfl hl.1 (Nat.le_of_ble_eq_true rfl) rfl nd_Room_rule_29 ⟨by decide, by decide⟩
  exact (q_lx hR).elim
def rx_Room_alarm : Room := { frames := 9, cells := 1, slots := 6, locals := 161 }
set_option maxHeartbeats 4000000 in
set_option maxRecDepth 100000 in
theorem cx_Room_alarm (l : Launch) (hlt : l.stackTraces = false) (D : va_G) (ca : Nat → ClassId) (qa0 qhouse qtrial qrisks qriskPoints qrules qgauge qkinds qlevels qholds qalarmCounts qalarmHours qalarmHours0 qalarmHours1 qalarmHours2 qalarmHours3 : Nat) (hoursGone_ : Int32) (size_ : Int32) (alarmCounts_ : Nat → Int32) (alarmHours0_ : Nat → Int32) (alarmHours1_ : Nat → Int32) (alarmHours2_ : Nat → Int32) (alarmHours3_ : Nat → Int32) (x1 : Int32) (x2 : Int32) (n9 : Nat) (hR : fn_Room_alarm size_ alarmCounts_ alarmHours0_ alarmHours1_ alarmHours2_ alarmHours3_ x1 x2 = some (.inl n9)) : xm_Met l nY_Room_alarm (Cond.code nY_Room_alarm nC_Room_alarm 4 (some .int) :: TT) rx_Room_alarm (xt_P [.ref qa0, .int x1, .int x2] D ca [oc_Room qa0 qhouse qtrial qrisks qriskPoints qrules qgauge hoursGone_, oc_Rules qrules qkinds qlevels qholds qalarmCounts qalarmHours size_, aI qalarmCounts ca 4 alarmCounts_, aG qalarmHours ca (rq4 qalarmHours0 qalarmHours1 qalarmHours2 qalarmHours3), aI qalarmHours0 ca 300 alarmHours0_, aI qalarmHours1 ca 300 alarmHours1_, aI qalarmHours2 ca 300 alarmHours2_, aI qalarmHours3 ca 300 alarmHours3_]) n9 := by
  refine xm_of (by decide +kernel) (Nat.le_of_ble_eq_true rfl) ?_
  intro p e s m below meth c Q ar ls hx hb hml hts hown hexc hlocks hQ hP hK hev hl
  have hown : s.vm.findClass nR_Room = some m.cls := hown
  have hl : lv_has ls 4 [(0, .ref qa0), (1, .int x1), (2, .int x2)] := hl
  unfold fn_Room_alarm at hR
  refine lv_iload_n hx hb nd_Room_alarm_0 rfl (lv_at hl 1 rfl) ?_
  refine lv_aload_n hx hb nd_Room_alarm_1 rfl (lv_at hl 0 rfl) ?_
  refine va_get (D := D) (ci := 8) (v := .ref qrules) (C := nR_Room) (T := nT_Room) (N := 7) hx hb hts ni_Room hown hK hP 0 rfl rfl 4 (by decide) (hts (.fieldLink nR_Room 37 "RoomClimate" "rules" "LRoomClimate$Rules;") tt_226) (fun _ h9 => h9) rfl nd_Room_alarm_2 ?_
  refine va_getN (D := D) (ci := 5) (v := .int size_) (C := nR_Rules) (T := nT_Rules) (N := 6) hx hb hts ni_Rules hown hK hP 1 rfl rfl 5 (by decide) (hts (.fieldLinkNest nR_Room 169 "RoomClimate$Rules" "size" "I" "RoomClimate") tt_183) (fun _ h9 => h9) rfl nd_Room_alarm_5 ?_
  rcases q_xx hR with e1 | ⟨e1, hR⟩
  ·
    exact k_xS (As := [.int x1, .int size_]) (rest := []) hx hb hml hown hts hexc hlocks hQ hev (cx_Room_requireIndex l hlt D ca x1 size_ n9 e1) kc_Room_requireIndex ks_Room_requireIndex tt_416 ⟨by decide, by decide⟩ rfl rfl hP hK [] rfl rfl hl.1 (Nat.le_of_ble_eq_true rfl) rfl nd_Room_alarm_8 ⟨by decide, by decide⟩
  refine k_rSV (As := [.int x1, .int size_]) (rest := []) hx hb hml hown hts (cn_Room_requireIndex l D ca x1 size_ e1) kc_Room_requireIndex ks_Room_requireIndex tt_416 ⟨by decide, by decide⟩ rfl rfl hP hK [] rfl rfl hl.1 (Nat.le_of_ble_eq_true rfl) rfl nd_Room_alarm_8 ⟨Nat.zero_le _, Nat.zero_le _⟩ ?_
  refine lv_iload_n hx hb nd_Room_alarm_11 rfl (lv_at hl 2 rfl) ?_
  refine lv_iconst (v := -1) hx hb nd_Room_alarm_12 (by decide) ?_
  refine lv_icmp_ge (tgt := 26) hx hb nd_Room_alarm_13 (by decide) (fun c2 => ?_) (fun c2 => ?_)
  · replace hR := q_p c2 hR
    exact (q_lx hR).elim
  · replace hR := q_n c2 hR
    cases hR
    exact k_throw (own := nR_Room) (n := 1) (text := "no alarm has such a number") hx hb hml hown hts hexc hlocks hQ hev hlt (by decide +kernel) (by decide +kernel) tt_419 tt_16 tt_603 xo_1_177 hl.1 nd_Room_alarm_16 nd_Room_alarm_19 nd_Room_alarm_20 nd_Room_alarm_22 nd_Room_alarm_25 (by decide) (Nat.le_of_ble_eq_true rfl) (by decide) (by decide)
def rx_Room_sensor : Room := { frames := 9, cells := 1, slots := 6, locals := 162 }
set_option maxHeartbeats 4000000 in
set_option maxRecDepth 100000 in
theorem cx_Room_sensor (l : Launch) (hlt : l.stackTraces = false) (D : va_G) (ca : Nat → ClassId) (qa0 qhouse qtrial qrisks qriskPoints qrules qgauge qvalues qsensed qrights qchecked : Nat) (hoursGone_ : Int32) (checks_ : Int32) (values_ : Nat → Int32) (sensed_ : Nat → Int32) (x1 : Int32) (x2 : Int32) (n9 : Nat) (hR : fn_Room_sensor hoursGone_ values_ sensed_ x1 x2 = some (.inl n9)) : xm_Met l nY_Room_sensor (Cond.code nY_Room_sensor nC_Room_sensor 3 none :: TT) rx_Room_sensor (xt_P [.ref qa0, .int x1, .int x2] D ca [oc_Room qa0 qhouse qtrial qrisks qriskPoints qrules qgauge hoursGone_, oc_Gauge qgauge qvalues qsensed qrights qchecked checks_, aI qvalues ca 300 values_, aZ qsensed ca 300 sensed_]) n9 := by
  refine xm_of (by decide +kernel) (Nat.le_of_ble_eq_true rfl) ?_
  intro p e s m below meth c Q ar ls hx hb hml hts hown hexc hlocks hQ hP hK hev hl
  have hown : s.vm.findClass nR_Room = some m.cls := hown
  have hl : lv_has ls 3 [(0, .ref qa0), (1, .int x1), (2, .int x2)] := hl
  unfold fn_Room_sensor at hR
  refine lv_iload_n hx hb nd_Room_sensor_0 rfl (lv_at hl 1 rfl) ?_
  refine lv_aload_n hx hb nd_Room_sensor_1 rfl (lv_at hl 0 rfl) ?_
  refine va_get (D := D) (ci := 8) (v := .int hoursGone_) (C := nR_Room) (T := nT_Room) (N := 7) hx hb hts ni_Room hown hK hP 0 rfl rfl 6 (by decide) (hts (.fieldLink nR_Room 48 "RoomClimate" "hoursGone" "I") tt_228) (fun _ h9 => h9) rfl nd_Room_sensor_2 ?_
  rcases q_xx hR with e1 | ⟨e1, hR⟩
  ·
    exact k_xS (As := [.int x1, .int hoursGone_]) (rest := []) hx hb hml hown hts hexc hlocks hQ hev (cx_Room_requireIndex l hlt D ca x1 hoursGone_ n9 e1) kc_Room_requireIndex ks_Room_requireIndex tt_416 ⟨by decide, by decide⟩ rfl rfl hP hK [] rfl rfl hl.1 (Nat.le_of_ble_eq_true rfl) rfl nd_Room_sensor_5 ⟨by decide, by decide⟩
  refine k_rSV (As := [.int x1, .int hoursGone_]) (rest := []) hx hb hml hown hts (cn_Room_requireIndex l D ca x1 hoursGone_ e1) kc_Room_requireIndex ks_Room_requireIndex tt_416 ⟨by decide, by decide⟩ rfl rfl hP hK [] rfl rfl hl.1 (Nat.le_of_ble_eq_true rfl) rfl nd_Room_sensor_5 ⟨Nat.zero_le _, Nat.zero_le _⟩ ?_
  refine lv_iload_n hx hb nd_Room_sensor_8 rfl (lv_at hl 2 rfl) ?_
  refine lv_ldc hx hb hown (hts _ tt_611) nd_Room_sensor_9 ?_
  refine lv_ldc hx hb hown (hts _ tt_436) nd_Room_sensor_11 ?_
  rcases q_xx hR with e2 | ⟨e2, hR⟩
  ·
    exact k_xS (As := [.int x2, .int (-100000 : Int32), .int (100000 : Int32)]) (rest := []) hx hb hml hown hts hexc hlocks hQ hev (cx_Room_requireWithin l hlt D ca x2 (-100000 : Int32) (100000 : Int32) n9 e2) kc_Room_requireWithin ks_Room_requireWithin tt_278 ⟨by decide, by decide⟩ rfl rfl hP hK [] rfl rfl hl.1 (Nat.le_of_ble_eq_true rfl) rfl nd_Room_sensor_13 ⟨by decide, by decide⟩
  exact (q_lx hR).elim
def rx_Room_check : Room := { frames := 9, cells := 1, slots := 6, locals := 162 }
set_option maxHeartbeats 4000000 in
set_option maxRecDepth 100000 in
theorem cx_Room_check (l : Launch) (hlt : l.stackTraces = false) (D : va_G) (ca : Nat → ClassId) (qa0 qhouse qtrial qrisks qriskPoints qrules qgauge qvalues qsensed qrights qchecked : Nat) (hoursGone_ : Int32) (checks_ : Int32) (sensed_ : Nat → Int32) (checked_ : Nat → Int32) (rights_ : Nat → Int32) (x1 : Int32) (x2 : Int32) (n9 : Nat) (hR : fn_Room_check hoursGone_ checks_ sensed_ checked_ rights_ x1 x2 = some (.inl n9)) : xm_Met l nY_Room_check (Cond.code nY_Room_check nC_Room_check 3 none :: TT) rx_Room_check (xt_P [.ref qa0, .int x1, .int x2] D ca [oc_Room qa0 qhouse qtrial qrisks qriskPoints qrules qgauge hoursGone_, oc_Gauge qgauge qvalues qsensed qrights qchecked checks_, aZ qsensed ca 300 sensed_, aZ qchecked ca 300 checked_, aI qrights ca 300 rights_]) n9 := by
  refine xm_of (by decide +kernel) (Nat.le_of_ble_eq_true rfl) ?_
  intro p e s m below meth c Q ar ls hx hb hml hts hown hexc hlocks hQ hP hK hev hl
  have hown : s.vm.findClass nR_Room = some m.cls := hown
  have hl : lv_has ls 3 [(0, .ref qa0), (1, .int x1), (2, .int x2)] := hl
  unfold fn_Room_check at hR
  refine lv_iload_n hx hb nd_Room_check_0 rfl (lv_at hl 1 rfl) ?_
  refine lv_aload_n hx hb nd_Room_check_1 rfl (lv_at hl 0 rfl) ?_
  refine va_get (D := D) (ci := 8) (v := .int hoursGone_) (C := nR_Room) (T := nT_Room) (N := 7) hx hb hts ni_Room hown hK hP 0 rfl rfl 6 (by decide) (hts (.fieldLink nR_Room 48 "RoomClimate" "hoursGone" "I") tt_228) (fun _ h9 => h9) rfl nd_Room_check_2 ?_
  rcases q_xx hR with e1 | ⟨e1, hR⟩
  ·
    exact k_xS (As := [.int x1, .int hoursGone_]) (rest := []) hx hb hml hown hts hexc hlocks hQ hev (cx_Room_requireIndex l hlt D ca x1 hoursGone_ n9 e1) kc_Room_requireIndex ks_Room_requireIndex tt_416 ⟨by decide, by decide⟩ rfl rfl hP hK [] rfl rfl hl.1 (Nat.le_of_ble_eq_true rfl) rfl nd_Room_check_5 ⟨by decide, by decide⟩
  refine k_rSV (As := [.int x1, .int hoursGone_]) (rest := []) hx hb hml hown hts (cn_Room_requireIndex l D ca x1 hoursGone_ e1) kc_Room_requireIndex ks_Room_requireIndex tt_416 ⟨by decide, by decide⟩ rfl rfl hP hK [] rfl rfl hl.1 (Nat.le_of_ble_eq_true rfl) rfl nd_Room_check_5 ⟨Nat.zero_le _, Nat.zero_le _⟩ ?_
  refine lv_aload_n hx hb nd_Room_check_8 rfl (lv_at hl 0 rfl) ?_
  refine va_get (D := D) (ci := 8) (v := .ref qgauge) (C := nR_Room) (T := nT_Room) (N := 7) hx hb hts ni_Room hown hK hP 0 rfl rfl 5 (by decide) (hts (.fieldLink nR_Room 44 "RoomClimate" "gauge" "LRoomClimate$Gauge;") tt_227) (fun _ h9 => h9) rfl nd_Room_check_9 ?_
  refine va_getN (D := D) (ci := 0) (v := .ref qsensed) (C := nR_Gauge) (T := nT_Gauge) (N := 5) hx hb hts ni_Gauge hown hK hP 1 rfl rfl 1 (by decide) (hts (.fieldLinkNest nR_Room 191 "RoomClimate$Gauge" "sensed" "[Z" "RoomClimate") tt_206) (fun _ h9 => h9) rfl nd_Room_check_12 ?_
  refine lv_iload_n hx hb nd_Room_check_15 rfl (lv_at hl 1 rfl) ?_
  obtain ⟨h2, hR⟩ := q_ix hR
  refine va_zald hx hb hK hP 2 2 rfl rfl h2 nd_Room_check_16 ?_
  refine lv_if_ne (tgt := 30) hx hb nd_Room_check_17 (by decide) (fun c3 => ?_) (fun c3 => ?_)
  · replace hR := q_n c3 hR
    refine lv_iload_n hx hb nd_Room_check_30 rfl (lv_at hl 2 rfl) ?_
    refine lv_ldc hx hb hown (hts _ tt_611) nd_Room_check_31 ?_
    refine lv_ldc hx hb hown (hts _ tt_436) nd_Room_check_33 ?_
    rcases q_xx hR with e4 | ⟨e4, hR⟩
    ·
      exact k_xS (As := [.int x2, .int (-100000 : Int32), .int (100000 : Int32)]) (rest := []) hx hb hml hown hts hexc hlocks hQ hev (cx_Room_requireWithin l hlt D ca x2 (-100000 : Int32) (100000 : Int32) n9 e4) kc_Room_requireWithin ks_Room_requireWithin tt_278 ⟨by decide, by decide⟩ rfl rfl hP hK [] rfl rfl hl.1 (Nat.le_of_ble_eq_true rfl) rfl nd_Room_check_35 ⟨by decide, by decide⟩
    exact (q_lx hR).elim
  · replace hR := q_p c3 hR
    cases hR
    exact k_throw (own := nR_Room) (n := 2) (text := "this hour has no value to check") hx hb hml hown hts hexc hlocks hQ hev hlt (by decide +kernel) (by decide +kernel) tt_360 tt_15 tt_623 xo_2_198 hl.1 nd_Room_check_20 nd_Room_check_23 nd_Room_check_24 nd_Room_check_26 nd_Room_check_29 (by decide) (Nat.le_of_ble_eq_true rfl) (by decide) (by decide)
def rx_Room_corrected : Room := { frames := 9, cells := 1, slots := 6, locals := 161 }
set_option maxHeartbeats 4000000 in
set_option maxRecDepth 100000 in
theorem cx_Room_corrected (l : Launch) (hlt : l.stackTraces = false) (D : va_G) (ca : Nat → ClassId) (qa0 qhouse qtrial qrisks qriskPoints qrules qgauge qvalues qsensed qrights qchecked : Nat) (hoursGone_ : Int32) (checks_ : Int32) (sensed_ : Nat → Int32) (values_ : Nat → Int32) (checked_ : Nat → Int32) (rights_ : Nat → Int32) (x1 : Int32) (n9 : Nat) (hR : fn_Room_corrected hoursGone_ sensed_ values_ checked_ rights_ x1 = some (.inl n9)) : xm_Met l nY_Room_corrected (Cond.code nY_Room_corrected nC_Room_corrected 2 (some .int) :: TT) rx_Room_corrected (xt_P [.ref qa0, .int x1] D ca [oc_Room qa0 qhouse qtrial qrisks qriskPoints qrules qgauge hoursGone_, oc_Gauge qgauge qvalues qsensed qrights qchecked checks_, aZ qsensed ca 300 sensed_, aI qvalues ca 300 values_, aZ qchecked ca 300 checked_, aI qrights ca 300 rights_]) n9 := by
  refine xm_of (by decide +kernel) (Nat.le_of_ble_eq_true rfl) ?_
  intro p e s m below meth c Q ar ls hx hb hml hts hown hexc hlocks hQ hP hK hev hl
  have hown : s.vm.findClass nR_Room = some m.cls := hown
  have hl : lv_has ls 2 [(0, .ref qa0), (1, .int x1)] := hl
  unfold fn_Room_corrected at hR
  refine lv_iload_n hx hb nd_Room_corrected_0 rfl (lv_at hl 1 rfl) ?_
  refine lv_aload_n hx hb nd_Room_corrected_1 rfl (lv_at hl 0 rfl) ?_
  refine va_get (D := D) (ci := 8) (v := .int hoursGone_) (C := nR_Room) (T := nT_Room) (N := 7) hx hb hts ni_Room hown hK hP 0 rfl rfl 6 (by decide) (hts (.fieldLink nR_Room 48 "RoomClimate" "hoursGone" "I") tt_228) (fun _ h9 => h9) rfl nd_Room_corrected_2 ?_
  rcases q_xx hR with e1 | ⟨e1, hR⟩
  ·
    exact k_xS (As := [.int x1, .int hoursGone_]) (rest := []) hx hb hml hown hts hexc hlocks hQ hev (cx_Room_requireIndex l hlt D ca x1 hoursGone_ n9 e1) kc_Room_requireIndex ks_Room_requireIndex tt_416 ⟨by decide, by decide⟩ rfl rfl hP hK [] rfl rfl hl.1 (Nat.le_of_ble_eq_true rfl) rfl nd_Room_corrected_5 ⟨by decide, by decide⟩
  exact (q_lx hR).elim
def rx_Room_silent : Room := { frames := 9, cells := 1, slots := 6, locals := 161 }
set_option maxHeartbeats 4000000 in
set_option maxRecDepth 100000 in
theorem cx_Room_silent (l : Launch) (hlt : l.stackTraces = false) (D : va_G) (ca : Nat → ClassId) (qa0 qhouse qtrial qrisks qriskPoints qrules qgauge qvalues qsensed qrights qchecked : Nat) (hoursGone_ : Int32) (checks_ : Int32) (sensed_ : Nat → Int32) (x1 : Int32) (n9 : Nat) (hR : fn_Room_silent hoursGone_ sensed_ x1 = some (.inl n9)) : xm_Met l nY_Room_silent (Cond.code nY_Room_silent nC_Room_silent 2 (some .int) :: TT) rx_Room_silent (xt_P [.ref qa0, .int x1] D ca [oc_Room qa0 qhouse qtrial qrisks qriskPoints qrules qgauge hoursGone_, oc_Gauge qgauge qvalues qsensed qrights qchecked checks_, aZ qsensed ca 300 sensed_]) n9 := by
  refine xm_of (by decide +kernel) (Nat.le_of_ble_eq_true rfl) ?_
  intro p e s m below meth c Q ar ls hx hb hml hts hown hexc hlocks hQ hP hK hev hl
  have hown : s.vm.findClass nR_Room = some m.cls := hown
  have hl : lv_has ls 2 [(0, .ref qa0), (1, .int x1)] := hl
  unfold fn_Room_silent at hR
  refine lv_iload_n hx hb nd_Room_silent_0 rfl (lv_at hl 1 rfl) ?_
  refine lv_aload_n hx hb nd_Room_silent_1 rfl (lv_at hl 0 rfl) ?_
  refine va_get (D := D) (ci := 8) (v := .int hoursGone_) (C := nR_Room) (T := nT_Room) (N := 7) hx hb hts ni_Room hown hK hP 0 rfl rfl 6 (by decide) (hts (.fieldLink nR_Room 48 "RoomClimate" "hoursGone" "I") tt_228) (fun _ h9 => h9) rfl nd_Room_silent_2 ?_
  rcases q_xx hR with e1 | ⟨e1, hR⟩
  ·
    exact k_xS (As := [.int x1, .int hoursGone_]) (rest := []) hx hb hml hown hts hexc hlocks hQ hev (cx_Room_requireIndex l hlt D ca x1 hoursGone_ n9 e1) kc_Room_requireIndex ks_Room_requireIndex tt_416 ⟨by decide, by decide⟩ rfl rfl hP hK [] rfl rfl hl.1 (Nat.le_of_ble_eq_true rfl) rfl nd_Room_silent_5 ⟨by decide, by decide⟩
  exact (q_lx hR).elim
def rx_Room_plan : Room := { frames := 9, cells := 1, slots := 6, locals := 162 }
set_option maxHeartbeats 4000000 in
set_option maxRecDepth 100000 in
theorem cx_Room_plan (l : Launch) (hlt : l.stackTraces = false) (D : va_G) (ca : Nat → ClassId) (qa0 qhouse qtrial qrisks qriskPoints qrules qgauge qinside qwalls qgoods qmachines qinside2 qwalls2 qgoods2 qmachines2 qheatBooks qwaterBooks qheatBooks2 qwaterBooks2 qconductances qcapacities qheats qconductances2 qcapacities2 qheats2 qrows qlows qhighs qrates qtold qrunning qlows2 qhighs2 qrates2 qtold2 qrunning2 qlevels qamounts : Nat) (hoursGone_ : Int32) (volume_ : Int32) (share_ : Int32) (heat_ : Int64) (water_ : Int64) (volume_2 : Int32) (share_2 : Int32) (heat_2 : Int64) (water_2 : Int64) (layers_ : Int32) (layers_2 : Int32) (conductances_ : Nat → Int32) (conductances_2 : Nat → Int32) (capacities_ : Nat → Int32) (capacities_2 : Nat → Int32) (heats_ : Nat → Int64) (heats_2 : Nat → Int64) (kilograms_ : Int32) (load_ : Int64) (kilograms_2 : Int32) (load_2 : Int64) (lows_ : Nat → Int32) (lows_2 : Nat → Int32) (highs_ : Nat → Int32) (highs_2 : Nat → Int32) (rates_ : Nat → Int32) (rates_2 : Nat → Int32) (told_ : Nat → Int32) (told_2 : Nat → Int32) (running_ : Nat → Int32) (running_2 : Nat → Int32) (heatBooks_ : Nat → Int64) (waterBooks_ : Nat → Int64) (size_ : Int32) (amounts_ : Nat → Int32) (levels_ : Nat → Int32) (x1 : Int32) (x2 : Int32) (x3 : Int32) (n9 : Nat) (hR : fn_Room_plan volume_ share_ heat_ water_ layers_ conductances_ conductances_2 capacities_ capacities_2 heats_ heats_2 kilograms_ load_ lows_ lows_2 highs_ highs_2 rates_ rates_2 told_ told_2 running_ running_2 heatBooks_ waterBooks_ size_ amounts_ levels_ x1 x2 x3 = some (.inl n9)) : xm_Met l nY_Room_plan (Cond.code nY_Room_plan nC_Room_plan 10 (some .int) :: TT) rx_Room_plan (xt_P [.ref qa0, .int x1, .int x2, .int x3] D ca [oc_Room qa0 qhouse qtrial qrisks qriskPoints qrules qgauge hoursGone_, oc_House qtrial qinside qwalls qgoods qmachines, oc_House qhouse qinside2 qwalls2 qgoods2 qmachines2, oc_Interior qinside2 qheatBooks qwaterBooks volume_ share_ heat_ water_, oc_Interior qinside qheatBooks2 qwaterBooks2 volume_2 share_2 heat_2 water_2, oc_Walls qwalls2 qconductances qcapacities qheats layers_, oc_Walls qwalls qconductances2 qcapacities2 qheats2 layers_2, aI qconductances ca 5 conductances_, aI qconductances2 ca 5 conductances_2, aI qcapacities ca 5 capacities_, aI qcapacities2 ca 5 capacities_2, aJ qheats ca 5 heats_, aJ qheats2 ca 5 heats_2, oc_Goods qgoods2 qrows kilograms_ load_, oc_Goods qgoods qrows kilograms_2 load_2, oc_Machines qmachines qlows qhighs qrates qtold qrunning, oc_Machines qmachines2 qlows2 qhighs2 qrates2 qtold2 qrunning2, aI qlows2 ca 4 lows_, aI qlows ca 4 lows_2, aI qhighs2 ca 4 highs_, aI qhighs ca 4 highs_2, aI qrates2 ca 4 rates_, aI qrates ca 4 rates_2, aZ qtold2 ca 4 told_, aZ qtold ca 4 told_2, aZ qrunning2 ca 4 running_, aZ qrunning ca 4 running_2, aJ qheatBooks2 ca 5 heatBooks_, aJ qwaterBooks2 ca 5 waterBooks_, oc_Steps qrows qlevels qamounts size_, aI qamounts ca 6 amounts_, aI qlevels ca 6 levels_]) n9 := by
  refine xm_of (by decide +kernel) (Nat.le_of_ble_eq_true rfl) ?_
  intro p e s m below meth c Q ar ls hx hb hml hts hown hexc hlocks hQ hP hK hev hl
  have hown : s.vm.findClass nR_Room = some m.cls := hown
  have hl : lv_has ls 10 [(0, .ref qa0), (1, .int x1), (2, .int x2), (3, .int x3)] := hl
  unfold fn_Room_plan at hR
  refine lv_iload_n hx hb nd_Room_plan_0 rfl (lv_at hl 1 rfl) ?_
  refine lv_iconst (v := 1) hx hb nd_Room_plan_1 (by decide) ?_
  refine lv_bipush (v := 24) hx hb nd_Room_plan_2 (by decide) ?_
  rcases q_xx hR with e1 | ⟨e1, hR⟩
  ·
    exact k_xS (As := [.int x1, .int (1 : Int32), .int (24 : Int32)]) (rest := []) hx hb hml hown hts hexc hlocks hQ hev (cx_Room_requireWithin l hlt D ca x1 (1 : Int32) (24 : Int32) n9 e1) kc_Room_requireWithin ks_Room_requireWithin tt_278 ⟨by decide, by decide⟩ rfl rfl hP hK [] rfl rfl hl.1 (Nat.le_of_ble_eq_true rfl) rfl nd_Room_plan_4 ⟨by decide, by decide⟩
  refine k_rSV (As := [.int x1, .int (1 : Int32), .int (24 : Int32)]) (rest := []) hx hb hml hown hts (cn_Room_requireWithin l D ca x1 (1 : Int32) (24 : Int32) e1) kc_Room_requireWithin ks_Room_requireWithin tt_278 ⟨by decide, by decide⟩ rfl rfl hP hK [] rfl rfl hl.1 (Nat.le_of_ble_eq_true rfl) rfl nd_Room_plan_4 ⟨Nat.zero_le _, Nat.zero_le _⟩ ?_
  refine lv_iload_n hx hb nd_Room_plan_7 rfl (lv_at hl 2 rfl) ?_
  refine lv_ldc hx hb hown (hts _ tt_435) nd_Room_plan_8 ?_
  refine lv_ldc hx hb hown (hts _ tt_395) nd_Room_plan_10 ?_
  rcases q_xx hR with e2 | ⟨e2, hR⟩
  ·
    exact k_xS (As := [.int x2, .int (-60000 : Int32), .int (60000 : Int32)]) (rest := []) hx hb hml hown hts hexc hlocks hQ hev (cx_Room_requireWithin l hlt D ca x2 (-60000 : Int32) (60000 : Int32) n9 e2) kc_Room_requireWithin ks_Room_requireWithin tt_278 ⟨by decide, by decide⟩ rfl rfl hP hK [] rfl rfl hl.1 (Nat.le_of_ble_eq_true rfl) rfl nd_Room_plan_12 ⟨by decide, by decide⟩
  refine k_rSV (As := [.int x2, .int (-60000 : Int32), .int (60000 : Int32)]) (rest := []) hx hb hml hown hts (cn_Room_requireWithin l D ca x2 (-60000 : Int32) (60000 : Int32) e2) kc_Room_requireWithin ks_Room_requireWithin tt_278 ⟨by decide, by decide⟩ rfl rfl hP hK [] rfl rfl hl.1 (Nat.le_of_ble_eq_true rfl) rfl nd_Room_plan_12 ⟨Nat.zero_le _, Nat.zero_le _⟩ ?_
  refine lv_iload_n hx hb nd_Room_plan_15 rfl (lv_at hl 3 rfl) ?_
  refine lv_iconst (v := 0) hx hb nd_Room_plan_16 (by decide) ?_
  refine lv_ldc hx hb hown (hts _ tt_395) nd_Room_plan_17 ?_
  rcases q_xx hR with e3 | ⟨e3, hR⟩
  ·
    exact k_xS (As := [.int x3, .int (0 : Int32), .int (60000 : Int32)]) (rest := []) hx hb hml hown hts hexc hlocks hQ hev (cx_Room_requireWithin l hlt D ca x3 (0 : Int32) (60000 : Int32) n9 e3) kc_Room_requireWithin ks_Room_requireWithin tt_278 ⟨by decide, by decide⟩ rfl rfl hP hK [] rfl rfl hl.1 (Nat.le_of_ble_eq_true rfl) rfl nd_Room_plan_19 ⟨by decide, by decide⟩
  exact (q_lx hR).elim
def rx_Room_count : Room := { frames := 8, cells := 1, slots := 6, locals := 140 }
set_option maxHeartbeats 4000000 in
set_option maxRecDepth 100000 in
theorem cx_Room_count (l : Launch) (hlt : l.stackTraces = false) (D : va_G) (ca : Nat → ClassId) (qa0 qhouse qtrial qrisks qriskPoints qrules qgauge qinside qwalls qgoods qmachines qconductances qcapacities qheats qrows qlevels qamounts qkinds qlevels2 qholds qalarmCounts qalarmHours qvalues qsensed qrights qchecked : Nat) (hoursGone_ : Int32) (layers_ : Int32) (kilograms_ : Int32) (load_ : Int64) (size_ : Int32) (size_2 : Int32) (checks_ : Int32) (x1 : Int32) (n9 : Nat) (hR : fn_Room_count hoursGone_ layers_ size_ size_2 checks_ x1 = some (.inl n9)) : xm_Met l nY_Room_count (Cond.code nY_Room_count nC_Room_count 2 (some .int) :: TT) rx_Room_count (xt_P [.ref qa0, .int x1] D ca [oc_Room qa0 qhouse qtrial qrisks qriskPoints qrules qgauge hoursGone_, oc_House qhouse qinside qwalls qgoods qmachines, oc_Walls qwalls qconductances qcapacities qheats layers_, oc_Goods qgoods qrows kilograms_ load_, oc_Steps qrows qlevels qamounts size_, oc_Rules qrules qkinds qlevels2 qholds qalarmCounts qalarmHours size_2, oc_Gauge qgauge qvalues qsensed qrights qchecked checks_]) n9 := by
  refine xm_of (by decide +kernel) (Nat.le_of_ble_eq_true rfl) ?_
  intro p e s m below meth c Q ar ls hx hb hml hts hown hexc hlocks hQ hP hK hev hl
  have hown : s.vm.findClass nR_Room = some m.cls := hown
  have hl : lv_has ls 2 [(0, .ref qa0), (1, .int x1)] := hl
  unfold fn_Room_count at hR
  refine lv_iload_n hx hb nd_Room_count_0 rfl (lv_at hl 1 rfl) ?_
  by_cases c1 : x1 = 0
  · replace hR := q_p c1 hR; refine lv_tableIn (tgt := 36) hx hb nd_Room_count_1 (by rw [c1]; decide) (by rw [c1]; decide) (by rw [c1]; rfl) (by decide) ?_
    exact (q_lx hR).elim
  replace hR := q_n c1 hR
  by_cases c2 : x1 = 1
  · replace hR := q_p c2 hR; refine lv_tableIn (tgt := 41) hx hb nd_Room_count_1 (by rw [c2]; decide) (by rw [c2]; decide) (by rw [c2]; rfl) (by decide) ?_
    exact (q_lx hR).elim
  replace hR := q_n c2 hR
  by_cases c3 : x1 = 2
  · replace hR := q_p c3 hR; refine lv_tableIn (tgt := 52) hx hb nd_Room_count_1 (by rw [c3]; decide) (by rw [c3]; decide) (by rw [c3]; rfl) (by decide) ?_
    exact (q_lx hR).elim
  replace hR := q_n c3 hR
  by_cases c4 : x1 = 3
  · replace hR := q_p c4 hR; refine lv_tableIn (tgt := 66) hx hb nd_Room_count_1 (by rw [c4]; decide) (by rw [c4]; decide) (by rw [c4]; rfl) (by decide) ?_
    exact (q_lx hR).elim
  replace hR := q_n c4 hR
  by_cases c5 : x1 = 4
  · replace hR := q_p c5 hR; refine lv_tableIn (tgt := 74) hx hb nd_Room_count_1 (by rw [c5]; decide) (by rw [c5]; decide) (by rw [c5]; rfl) (by decide) ?_
    exact (q_lx hR).elim
  replace hR := q_n c5 hR
  refine lv_tableOut (tgt := 82) hx hb nd_Room_count_1 (k_out5 0 c1 c2 c3 c4 c5) (by decide) ?_
  cases hR
  exact k_throw (own := nR_Room) (n := 1) (text := "there is no such count") hx hb hml hown hts hexc hlocks hQ hev hlt (by decide +kernel) (by decide +kernel) tt_419 tt_16 tt_713 xo_1_177 hl.1 nd_Room_count_82 nd_Room_count_85 nd_Room_count_86 nd_Room_count_88 nd_Room_count_91 (by decide) (Nat.le_of_ble_eq_true rfl) (by decide) (by decide)
