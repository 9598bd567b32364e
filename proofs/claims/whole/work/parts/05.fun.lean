def fn_Gauge_sense (values_ : Nat → Int32) (sensed_ : Nat → Int32) (x1 : Int32) (x2 : Int32) : Option ((Nat → Int32) × (Nat → Int32)) :=
  (if gx_ix x1 300 then
  some (upd values_ x1.toNatClampNeg x2, upd sensed_ x1.toNatClampNeg (vp_nar .boolean (1 : Int32)))
  else none)
def fn_Gauge_compare (checks_ : Int32) (checked_ : Nat → Int32) (rights_ : Nat → Int32) (x1 : Int32) (x2 : Int32) : Option (Int32 × (Nat → Int32) × (Nat → Int32)) :=
  (if gx_ix x1 300 then
  (gx_b1 (if (checked_ x1.toNatClampNeg) = 0 then
  some (checks_ + (1 : Int32))
  else
  some checks_) fun j3_0 =>
  some (j3_0, upd rights_ x1.toNatClampNeg x2, upd checked_ x1.toNatClampNeg (vp_nar .boolean (1 : Int32))))
  else none)
def fn_Gauge_lastCheckUpTo_L2 (checked_ : Nat → Int32) : Nat → Int32 → Option (Int32)
  | 0, _ => none
  | n + 1, i2_2 =>
    (if i2_2 < 0 then
    some (-1 : Int32)
    else
    (if gx_ix i2_2 300 then
    (if (checked_ i2_2.toNatClampNeg) = 0 then
    fn_Gauge_lastCheckUpTo_L2 checked_ n (i2_2 + (-1))
    else
    some i2_2)
    else none))
def fn_Gauge_lastCheckUpTo (checked_ : Nat → Int32) (x1 : Int32) : Option (Int32) :=
  fn_Gauge_lastCheckUpTo_L2 checked_ 400 x1
def fn_Gauge_firstCheckFrom_L2 (x2 : Int32) (checked_ : Nat → Int32) : Nat → Int32 → Option (Int32)
  | 0, _ => none
  | n + 1, i3_2 =>
    (if x2 ≤ i3_2 then
    some (-1 : Int32)
    else
    (if gx_ix i3_2 300 then
    (if (checked_ i3_2.toNatClampNeg) = 0 then
    fn_Gauge_firstCheckFrom_L2 x2 checked_ n (i3_2 + 1)
    else
    some i3_2)
    else none))
def fn_Gauge_firstCheckFrom (checked_ : Nat → Int32) (x1 : Int32) (x2 : Int32) : Option (Int32) :=
  fn_Gauge_firstCheckFrom_L2 x2 checked_ 400 x1
def fn_Gauge_driftOfCheck (rights_ : Nat → Int32) (values_ : Nat → Int32) (x1 : Int32) : Option (Int32) :=
  (if gx_ix x1 300 then
  some ((rights_ x1.toNatClampNeg) - (values_ x1.toNatClampNeg))
  else none)
def fn_Math_floorDiv (x0 : Int64) (x2 : Int64) : Option (Int64) :=
  (if x2 = 0 then none else
  (if 0 ≤ lg_cmp (x0 ^^^ x2) (0 : Int64) then
  some (x0 / x2)
  else
  (if lg_cmp ((x0 / x2) * x2) x0 = 0 then
  some (x0 / x2)
  else
  some ((x0 / x2) - (1 : Int64)))))
def fn_Room_by (x0 : Int64) (x2 : Int64) : Option (Int64) :=
  (gx_b1 (if lg_cmp x2 (0 : Int64) ≤ 0 then
  some (0 : Int64)
  else
  (gx_b1 (fn_Math_floorDiv x0 x2) fun r3 =>
  some r3)) fun j2_0 =>
  some j2_0)
def fn_Gauge_drift (checked_ : Nat → Int32) (rights_ : Nat → Int32) (values_ : Nat → Int32) (x1 : Int32) (x2 : Int32) : Option (Int32) :=
  (gx_b1 (fn_Gauge_lastCheckUpTo checked_ x1) fun r1 =>
  (gx_b1 (fn_Gauge_firstCheckFrom checked_ x1 x2) fun r2 =>
  (if r1 = (-1 : Int32) then
  (gx_b1 (if r2 = (-1 : Int32) then
  some (0 : Int32)
  else
  (gx_b1 (fn_Gauge_driftOfCheck rights_ values_ r2) fun r14 =>
  some r14)) fun j13_0 =>
  some j13_0)
  else
  (if r2 = (-1 : Int32) then
  (gx_b1 (fn_Gauge_driftOfCheck rights_ values_ r1) fun r5 =>
  some r5)
  else
  (if r2 = r1 then
  (gx_b1 (fn_Gauge_driftOfCheck rights_ values_ r1) fun r11 =>
  some r11)
  else
  (gx_b1 (fn_Gauge_driftOfCheck rights_ values_ r2) fun r7 =>
  (gx_b1 (fn_Gauge_driftOfCheck rights_ values_ r1) fun r8 =>
  (gx_b1 (fn_Gauge_driftOfCheck rights_ values_ r1) fun r9 =>
  (gx_b1 (fn_Room_by (((r7 - r8).toInt64) * ((x1 - r1).toInt64)) ((r2 - r1).toInt64)) fun r10 =>
  some (r9 + r10.toInt32))))))))))
def fn_Gauge_longestGap_L11 (x2 : Int32) (sensed_ : Nat → Int32) : Nat → Int32 → Int32 → Int32 → Int32 → Option (Int32)
  | 0, _, _, _, _ => none
  | n + 1, i3_11, i4_11, i5_11, i6_11 =>
    (if x2 ≤ i6_11 then
    some i3_11
    else
    (if gx_ix i6_11 300 then
    (gx_b1 (if (sensed_ i6_11.toNatClampNeg) = 0 then
    some (i5_11 + (1 : Int32))
    else
    some (0 : Int32)) fun j4_0 =>
    (gx_b2 (if j4_0 ≤ i4_11 then
    some (i3_11, i4_11)
    else
    some ((i6_11 - j4_0) + (1 : Int32), j4_0)) fun j6_0 j6_1 =>
    fn_Gauge_longestGap_L11 x2 sensed_ n j6_0 j6_1 j4_0 (i6_11 + 1)))
    else none))
def fn_Gauge_longestGap (sensed_ : Nat → Int32) (x1 : Int32) (x2 : Int32) : Option (Int32) :=
  fn_Gauge_longestGap_L11 x2 sensed_ 400 (-1 : Int32) (0 : Int32) (0 : Int32) x1
def fn_Interior_moisture (volume_ : Int32) (water_ : Int64) : Option (Int64) :=
  (gx_b1 (fn_Room_by water_ volume_.toInt64) fun r1 =>
  some r1)
def fn_Steps_amountUpTo_L2 (x1 : Int64) (size_ : Int32) (amounts_ : Nat → Int32) (levels_ : Nat → Int32) (n_a0 : Nat) : Nat → Int32 → Option (Int32)
  | 0, _ => none
  | n + 1, i3_2 =>
    (if size_ ≤ i3_2 then
    (gx_b1 (if size_ ≤ 0 then
    some (0 : Int32)
    else
    (if gx_ix (size_ - (1 : Int32)) n_a0 then
    some (amounts_ (size_ - (1 : Int32)).toNatClampNeg)
    else none)) fun j3_0 =>
    some j3_0)
    else
    (if gx_ix i3_2 n_a0 then
    (if lg_cmp ((levels_ i3_2.toNatClampNeg).toInt64) x1 < 0 then
    fn_Steps_amountUpTo_L2 x1 size_ amounts_ levels_ n_a0 n (i3_2 + 1)
    else
    some (amounts_ i3_2.toNatClampNeg))
    else none))
def fn_Steps_amountUpTo (size_ : Int32) (amounts_ : Nat → Int32) (levels_ : Nat → Int32) (n_a0 : Nat) (x1 : Int64) : Option (Int32) :=
  fn_Steps_amountUpTo_L2 x1 size_ amounts_ levels_ n_a0 400 (0 : Int32)
def fn_Interior_gainWater (water_ : Int64) (waterBooks_ : Nat → Int64) (x1 : Int32) (x2 : Int64) : Option (Int64 × (Nat → Int64)) :=
  (if gx_ix x1 5 then
  some (water_ + x2, vp_updL waterBooks_ x1.toNatClampNeg ((waterBooks_ x1.toNatClampNeg) + x2))
  else none)
def fn_Goods_soak (kilograms_ : Int32) (load_ : Int64) (volume_ : Int32) (water_ : Int64) (size_ : Int32) (amounts_ : Nat → Int32) (levels_ : Nat → Int32) (waterBooks_ : Nat → Int64) (n_rows : Nat) : Option (Int64 × Int64 × (Nat → Int64)) :=
  (gx_b1 (fn_Interior_moisture volume_ water_) fun r1 =>
  (gx_b1 (fn_Steps_amountUpTo size_ amounts_ levels_ n_rows r1) fun r2 =>
  (gx_b1 (fn_Room_by ((kilograms_.toInt64 * r2.toInt64) - load_) (4 : Int64)) fun r3 =>
  (gx_b2 (fn_Interior_gainWater water_ waterBooks_ (2 : Int32) (-(if water_ < r3 then water_ else r3))) fun u4_0 u4_1 =>
  some (load_ + (if water_ < r3 then water_ else r3), u4_0, u4_1)))))
def fn_Goods_copyFrom (kilograms_ : Int32) (load_ : Int64) : Option (Int32 × Int64) :=
  some (kilograms_, load_)
def fn_Interior_warmth (volume_ : Int32) (heat_ : Int64) : Option (Int64) :=
  (gx_b1 (fn_Room_by heat_ volume_.toInt64) fun r1 =>
  some r1)
def fn_Interior_gainHeat (heat_ : Int64) (heatBooks_ : Nat → Int64) (x1 : Int32) (x2 : Int64) : Option (Int64 × (Nat → Int64)) :=
  (if gx_ix x1 5 then
  some (heat_ + x2, vp_updL heatBooks_ x1.toNatClampNeg ((heatBooks_ x1.toNatClampNeg) + x2))
  else none)
def fn_Interior_exchangeAir (volume_ : Int32) (share_ : Int32) (heat_ : Int64) (water_ : Int64) (heatBooks_ : Nat → Int64) (waterBooks_ : Nat → Int64) (x1 : Int32) (x2 : Int32) : Option (Int64 × (Nat → Int64) × Int64 × (Nat → Int64)) :=
  (gx_b1 (fn_Interior_warmth volume_ heat_) fun r1 =>
  (gx_b1 (fn_Room_by ((share_.toInt64 * (x1.toInt64 - r1)) * volume_.toInt64) (1000 : Int64)) fun r2 =>
  (gx_b2 (fn_Interior_gainHeat heat_ heatBooks_ (0 : Int32) r2) fun u3_0 u3_1 =>
  (gx_b1 (fn_Interior_moisture volume_ water_) fun r4 =>
  (gx_b1 (fn_Room_by ((share_.toInt64 * (x2.toInt64 - r4)) * volume_.toInt64) (1000 : Int64)) fun r5 =>
  (gx_b2 (fn_Interior_gainWater water_ waterBooks_ (0 : Int32) r5) fun u6_0 u6_1 =>
  some (u3_0, u3_1, u6_0, u6_1)))))))
def fn_Walls_warmth (heats_ : Nat → Int64) (capacities_ : Nat → Int32) (x1 : Int32) : Option (Int64) :=
  (if gx_ix x1 5 then
  (gx_b1 (fn_Room_by (heats_ x1.toNatClampNeg) ((capacities_ x1.toNatClampNeg).toInt64)) fun r2 =>
  some r2)
  else none)
def fn_Walls_conduct_L2 (x2 : Int32) (layers_ : Int32) (conductances_ : Nat → Int32) (capacities_ : Nat → Int32) (volume_ : Int32) : Nat → Int32 → (Nat → Int64) → Int64 → (Nat → Int64) → Option ((Nat → Int64) × Int64 × (Nat → Int64))
  | 0, _, _, _, _ => none
  | n + 1, i3_2, heats_L2, heat_L2, heatBooks_L2 =>
    (if layers_ ≤ i3_2 then
    (gx_b2 (if layers_ ≤ 0 then
    some (i3_2, heats_L2)
    else
    (if gx_ix (layers_ - (1 : Int32)) 5 then
    (gx_b1 (fn_Walls_warmth heats_L2 capacities_ (layers_ - (1 : Int32))) fun r5 =>
    (gx_b1 (fn_Room_by (((conductances_ (layers_ - (1 : Int32)).toNatClampNeg).toInt64) * (x2.toInt64 - r5)) (100 : Int64)) fun r6 =>
    some (layers_ - (1 : Int32), vp_updL heats_L2 (layers_ - (1 : Int32)).toNatClampNeg ((heats_L2 (layers_ - (1 : Int32)).toNatClampNeg) + r6))))
    else none)) fun j3_0 j3_1 =>
    some (j3_1, heat_L2, heatBooks_L2))
    else
    (gx_b1 (if i3_2 = 0 then
    (gx_b1 (fn_Interior_warmth volume_ heat_L2) fun r10 =>
    some r10)
    else
    (gx_b1 (fn_Walls_warmth heats_L2 capacities_ (i3_2 - (1 : Int32))) fun r9 =>
    some r9)) fun j8_0 =>
    (if gx_ix i3_2 5 then
    (gx_b1 (fn_Walls_warmth heats_L2 capacities_ i3_2) fun r12 =>
    (gx_b1 (fn_Room_by (((conductances_ i3_2.toNatClampNeg).toInt64) * (j8_0 - r12)) (100 : Int64)) fun r13 =>
    (gx_b3 (if i3_2 = 0 then
    (gx_b2 (fn_Interior_gainHeat heat_L2 heatBooks_L2 (1 : Int32) (-r13)) fun u17_0 u17_1 =>
    some (heats_L2, u17_0, u17_1))
    else
    (if gx_ix (i3_2 - (1 : Int32)) 5 then
    some (vp_updL heats_L2 (i3_2 - (1 : Int32)).toNatClampNeg ((heats_L2 (i3_2 - (1 : Int32)).toNatClampNeg) - r13), heat_L2, heatBooks_L2)
    else none)) fun j15_0 j15_1 j15_2 =>
    fn_Walls_conduct_L2 x2 layers_ conductances_ capacities_ volume_ n (i3_2 + 1) (vp_updL j15_0 i3_2.toNatClampNeg ((j15_0 i3_2.toNatClampNeg) + r13)) j15_1 j15_2)))
    else none)))
def fn_Walls_conduct (layers_ : Int32) (heats_ : Nat → Int64) (conductances_ : Nat → Int32) (capacities_ : Nat → Int32) (volume_ : Int32) (heat_ : Int64) (heatBooks_ : Nat → Int64) (x2 : Int32) : Option ((Nat → Int64) × Int64 × (Nat → Int64)) :=
  fn_Walls_conduct_L2 x2 layers_ conductances_ capacities_ volume_ 400 (0 : Int32) heats_ heat_ heatBooks_
def fn_Interior_receive (heat_ : Int64) (water_ : Int64) (heatBooks_ : Nat → Int64) (waterBooks_ : Nat → Int64) (x1 : Int32) : Option (Int64 × (Nat → Int64) × Int64 × (Nat → Int64)) :=
  (gx_b2 (fn_Interior_gainHeat heat_ heatBooks_ (3 : Int32) ((100 : Int64) * x1.toInt64)) fun u1_0 u1_1 =>
  (gx_b2 (fn_Interior_gainWater water_ waterBooks_ (3 : Int32) ((50 : Int64) * x1.toInt64)) fun u2_0 u2_1 =>
  some (u1_0, u1_1, u2_0, u2_1)))
def fn_Machines_steer (told_ : Nat → Int32) (lows_ : Nat → Int32) (highs_ : Nat → Int32) (running_ : Nat → Int32) (x1 : Int32) (x2 : Int64) : Option ((Nat → Int32)) :=
  (if gx_ix x1 4 then
  (if (told_ x1.toNatClampNeg) = 0 then
  some running_
  else
  (gx_b1 (if x1 = 0 then
  some (1 : Int32)
  else
  (gx_b1 (if x1 = (2 : Int32) then
  some (1 : Int32)
  else
  some (0 : Int32)) fun j6_0 =>
  some j6_0)) fun j4_0 =>
  (gx_b1 (if 0 ≤ lg_cmp x2 ((lows_ x1.toNatClampNeg).toInt64) then
  (gx_b1 (if lg_cmp x2 ((highs_ x1.toNatClampNeg).toInt64) ≤ 0 then
  some running_
  else
  (gx_b1 (if j4_0 = 0 then
  some (1 : Int32)
  else
  some (0 : Int32)) fun j12_0 =>
  some (upd running_ x1.toNatClampNeg (vp_nar .boolean j12_0)))) fun j10_0 =>
  some j10_0)
  else
  some (upd running_ x1.toNatClampNeg (vp_nar .boolean j4_0))) fun j8_0 =>
  some j8_0)))
  else none)
def fn_Machines_output (running_ : Nat → Int32) (rates_ : Nat → Int32) (x1 : Int32) : Option (Int32) :=
  (if gx_ix x1 4 then
  (gx_b1 (if (running_ x1.toNatClampNeg) = 0 then
  some (0 : Int32)
  else
  some (rates_ x1.toNatClampNeg)) fun j3_0 =>
  some j3_0)
  else none)
def fn_Machines_work (volume_ : Int32) (heat_ : Int64) (water_ : Int64) (told_ : Nat → Int32) (lows_ : Nat → Int32) (highs_ : Nat → Int32) (running_ : Nat → Int32) (rates_ : Nat → Int32) (heatBooks_ : Nat → Int64) (waterBooks_ : Nat → Int64) : Option ((Nat → Int32) × Int64 × (Nat → Int64) × Int64 × (Nat → Int64)) :=
  (gx_b1 (fn_Interior_warmth volume_ heat_) fun r1 =>
  (gx_b1 (fn_Machines_steer told_ lows_ highs_ running_ (0 : Int32) r1) fun u2_0 =>
  (gx_b1 (fn_Machines_output u2_0 rates_ (0 : Int32)) fun r3 =>
  (gx_b2 (fn_Interior_gainHeat heat_ heatBooks_ (4 : Int32) r3.toInt64) fun u4_0 u4_1 =>
  (gx_b1 (fn_Interior_warmth volume_ u4_0) fun r5 =>
  (gx_b1 (fn_Machines_steer told_ lows_ highs_ u2_0 (1 : Int32) r5) fun u6_0 =>
  (gx_b1 (fn_Machines_output u6_0 rates_ (1 : Int32)) fun r7 =>
  (gx_b2 (fn_Interior_gainHeat u4_0 u4_1 (4 : Int32) ((-r7).toInt64)) fun u8_0 u8_1 =>
  (gx_b1 (fn_Interior_moisture volume_ water_) fun r9 =>
  (gx_b1 (fn_Machines_steer told_ lows_ highs_ u6_0 (2 : Int32) r9) fun u10_0 =>
  (gx_b1 (fn_Machines_output u10_0 rates_ (2 : Int32)) fun r11 =>
  (gx_b2 (fn_Interior_gainWater water_ waterBooks_ (4 : Int32) r11.toInt64) fun u12_0 u12_1 =>
  (gx_b1 (fn_Interior_moisture volume_ u12_0) fun r13 =>
  (gx_b1 (fn_Machines_steer told_ lows_ highs_ u10_0 (3 : Int32) r13) fun u14_0 =>
  (gx_b1 (fn_Machines_output u14_0 rates_ (3 : Int32)) fun r15 =>
  (gx_b2 (fn_Interior_gainWater u12_0 u12_1 (4 : Int32) (-(if u12_0 < r15.toInt64 then u12_0 else r15.toInt64))) fun u16_0 u16_1 =>
  some (u14_0, u8_0, u8_1, u16_0, u16_1)))))))))))))))))
def fn_House_pass (volume_ : Int32) (share_ : Int32) (heat_ : Int64) (water_ : Int64) (heatBooks_ : Nat → Int64) (waterBooks_ : Nat → Int64) (layers_ : Int32) (heats_ : Nat → Int64) (conductances_ : Nat → Int32) (capacities_ : Nat → Int32) (kilograms_ : Int32) (load_ : Int64) (size_ : Int32) (amounts_ : Nat → Int32) (levels_ : Nat → Int32) (told_ : Nat → Int32) (lows_ : Nat → Int32) (highs_ : Nat → Int32) (running_ : Nat → Int32) (rates_ : Nat → Int32) (n_rows : Nat) (x1 : Int32) (x2 : Int32) (x3 : Int32) : Option (Int64 × (Nat → Int64) × Int64 × (Nat → Int64) × (Nat → Int64) × Int64 × (Nat → Int32)) :=
  (gx_b4 (fn_Interior_exchangeAir volume_ share_ heat_ water_ heatBooks_ waterBooks_ x1 x2) fun u1_0 u1_1 u1_2 u1_3 =>
  (gx_b3 (fn_Walls_conduct layers_ heats_ conductances_ capacities_ volume_ u1_0 u1_1 x1) fun u2_0 u2_1 u2_2 =>
  (gx_b3 (fn_Goods_soak kilograms_ load_ volume_ u1_2 size_ amounts_ levels_ u1_3 n_rows) fun u3_0 u3_1 u3_2 =>
  (gx_b4 (fn_Interior_receive u2_1 u3_1 u2_2 u3_2 x3) fun u4_0 u4_1 u4_2 u4_3 =>
  (gx_b5 (fn_Machines_work volume_ u4_0 u4_2 told_ lows_ highs_ running_ rates_ u4_1 u4_3) fun u5_0 u5_1 u5_2 u5_3 u5_4 =>
  some (u5_1, u5_2, u5_3, u5_4, u2_0, u3_0, u5_0))))))
def fn_Interior_copyFrom (volume_ : Int32) (share_ : Int32) (heat_ : Int64) (water_ : Int64) : Option (Int32 × Int32 × Int64 × Int64) :=
  some (volume_, share_, heat_, water_)
def fn_Walls_copyFrom_L10 (layers_ : Int32) (conductances_ : Nat → Int32) (capacities_ : Nat → Int32) (heats_ : Nat → Int64) : Nat → Int32 → (Nat → Int32) → (Nat → Int32) → (Nat → Int64) → Option (Int32 × (Nat → Int32) × (Nat → Int32) × (Nat → Int64))
  | 0, _, _, _, _ => none
  | n + 1, i2_10, conductances_2L10, capacities_2L10, heats_2L10 =>
    (if layers_ ≤ i2_10 then
    some (layers_, conductances_2L10, capacities_2L10, heats_2L10)
    else
    (if gx_ix i2_10 5 then
    fn_Walls_copyFrom_L10 layers_ conductances_ capacities_ heats_ n (i2_10 + 1) (upd conductances_2L10 i2_10.toNatClampNeg (conductances_ i2_10.toNatClampNeg)) (upd capacities_2L10 i2_10.toNatClampNeg (capacities_ i2_10.toNatClampNeg)) (vp_updL heats_2L10 i2_10.toNatClampNeg (heats_ i2_10.toNatClampNeg))
    else none))
def fn_Walls_copyFrom (layers_ : Int32) (conductances_ : Nat → Int32) (conductances_2 : Nat → Int32) (capacities_ : Nat → Int32) (capacities_2 : Nat → Int32) (heats_ : Nat → Int64) (heats_2 : Nat → Int64) : Option (Int32 × (Nat → Int32) × (Nat → Int32) × (Nat → Int64)) :=
  fn_Walls_copyFrom_L10 layers_ conductances_ capacities_ heats_ 400 (0 : Int32) conductances_2 capacities_2 heats_2
def fn_Machines_copyFrom_L2 (lows_ : Nat → Int32) (highs_ : Nat → Int32) (rates_ : Nat → Int32) (told_ : Nat → Int32) (running_ : Nat → Int32) : Nat → Int32 → (Nat → Int32) → (Nat → Int32) → (Nat → Int32) → (Nat → Int32) → (Nat → Int32) → Option ((Nat → Int32) × (Nat → Int32) × (Nat → Int32) × (Nat → Int32) × (Nat → Int32))
  | 0, _, _, _, _, _, _ => none
  | n + 1, i2_2, lows_2L2, highs_2L2, rates_2L2, told_2L2, running_2L2 =>
    (if (4 : Int32) ≤ i2_2 then
    some (lows_2L2, highs_2L2, rates_2L2, told_2L2, running_2L2)
    else
    (if gx_ix i2_2 4 then
    fn_Machines_copyFrom_L2 lows_ highs_ rates_ told_ running_ n (i2_2 + 1) (upd lows_2L2 i2_2.toNatClampNeg (lows_ i2_2.toNatClampNeg)) (upd highs_2L2 i2_2.toNatClampNeg (highs_ i2_2.toNatClampNeg)) (upd rates_2L2 i2_2.toNatClampNeg (rates_ i2_2.toNatClampNeg)) (upd told_2L2 i2_2.toNatClampNeg (vp_nar .boolean (told_ i2_2.toNatClampNeg))) (upd running_2L2 i2_2.toNatClampNeg (vp_nar .boolean (running_ i2_2.toNatClampNeg)))
    else none))
def fn_Machines_copyFrom (lows_ : Nat → Int32) (lows_2 : Nat → Int32) (highs_ : Nat → Int32) (highs_2 : Nat → Int32) (rates_ : Nat → Int32) (rates_2 : Nat → Int32) (told_ : Nat → Int32) (told_2 : Nat → Int32) (running_ : Nat → Int32) (running_2 : Nat → Int32) : Option ((Nat → Int32) × (Nat → Int32) × (Nat → Int32) × (Nat → Int32) × (Nat → Int32)) :=
  fn_Machines_copyFrom_L2 lows_ highs_ rates_ told_ running_ 400 (0 : Int32) lows_2 highs_2 rates_2 told_2 running_2
def fn_House_copyFrom (volume_ : Int32) (share_ : Int32) (heat_ : Int64) (water_ : Int64) (layers_ : Int32) (conductances_ : Nat → Int32) (conductances_2 : Nat → Int32) (capacities_ : Nat → Int32) (capacities_2 : Nat → Int32) (heats_ : Nat → Int64) (heats_2 : Nat → Int64) (kilograms_ : Int32) (load_ : Int64) (lows_ : Nat → Int32) (lows_2 : Nat → Int32) (highs_ : Nat → Int32) (highs_2 : Nat → Int32) (rates_ : Nat → Int32) (rates_2 : Nat → Int32) (told_ : Nat → Int32) (told_2 : Nat → Int32) (running_ : Nat → Int32) (running_2 : Nat → Int32) : Option (Int32 × Int32 × Int64 × Int64 × Int32 × (Nat → Int32) × (Nat → Int32) × (Nat → Int64) × Int32 × Int64 × (Nat → Int32) × (Nat → Int32) × (Nat → Int32) × (Nat → Int32) × (Nat → Int32)) :=
  (gx_b4 (fn_Interior_copyFrom volume_ share_ heat_ water_) fun u1_0 u1_1 u1_2 u1_3 =>
  (gx_b4 (fn_Walls_copyFrom layers_ conductances_ conductances_2 capacities_ capacities_2 heats_ heats_2) fun u2_0 u2_1 u2_2 u2_3 =>
  (gx_b2 (fn_Goods_copyFrom kilograms_ load_) fun u3_0 u3_1 =>
  (gx_b5 (fn_Machines_copyFrom lows_ lows_2 highs_ highs_2 rates_ rates_2 told_ told_2 running_ running_2) fun u4_0 u4_1 u4_2 u4_3 u4_4 =>
  some (u1_0, u1_1, u1_2, u1_3, u2_0, u2_1, u2_2, u2_3, u3_0, u3_1, u4_0, u4_1, u4_2, u4_3, u4_4)))))
def fn_Machines_install (lows_ : Nat → Int32) (highs_ : Nat → Int32) (rates_ : Nat → Int32) (told_ : Nat → Int32) (running_ : Nat → Int32) (x1 : Int32) (x2 : Int32) (x3 : Int32) (x4 : Int32) : Option ((Nat → Int32) × (Nat → Int32) × (Nat → Int32) × (Nat → Int32) × (Nat → Int32)) :=
  (if gx_ix x1 4 then
  some (upd lows_ x1.toNatClampNeg x2, upd highs_ x1.toNatClampNeg x3, upd rates_ x1.toNatClampNeg x4, upd told_ x1.toNatClampNeg (vp_nar .boolean (1 : Int32)), upd running_ x1.toNatClampNeg (vp_nar .boolean (0 : Int32)))
  else none)
def fn_Machines_rateOr (told_ : Nat → Int32) (rates_ : Nat → Int32) (x1 : Int32) (x2 : Int32) : Option (Int32) :=
  (if gx_ix x1 4 then
  (gx_b1 (if (told_ x1.toNatClampNeg) = 0 then
  some x2
  else
  some (rates_ x1.toNatClampNeg)) fun j3_0 =>
  some j3_0)
  else none)
def fn_Rules_append (size_ : Int32) (kinds_ : Nat → Int32) (levels_ : Nat → Int32) (holds_ : Nat → Int32) (x1 : Int32) (x2 : Int32) (x3 : Int32) : Option (Int32 × (Nat → Int32) × (Nat → Int32) × (Nat → Int32) × Int32) :=
  (if gx_ix size_ 4 then
  some ((size_ + (1 : Int32)) - (1 : Int32), upd kinds_ size_.toNatClampNeg x1, upd levels_ size_.toNatClampNeg x2, upd holds_ size_.toNatClampNeg x3, size_ + (1 : Int32))
  else none)
def fn_Rules_isBroken (kinds_ : Nat → Int32) (volume_ : Int32) (heat_ : Int64) (water_ : Int64) (levels_ : Nat → Int32) (x1 : Int32) : Option (Int32) :=
  (if gx_ix x1 4 then
  (if (kinds_ x1.toNatClampNeg) = 0 then
  (gx_b1 (fn_Interior_warmth volume_ heat_) fun r3 =>
  (gx_b1 (if lg_cmp r3 ((levels_ x1.toNatClampNeg).toInt64) ≤ 0 then
  some (0 : Int32)
  else
  some (1 : Int32)) fun j5_0 =>
  (if gx_bz j5_0 then
  some j5_0
  else none)))
  else
  (if (kinds_ x1.toNatClampNeg) = 1 then
  (gx_b1 (fn_Interior_warmth volume_ heat_) fun r8 =>
  (gx_b1 (if 0 ≤ lg_cmp r8 ((levels_ x1.toNatClampNeg).toInt64) then
  some (0 : Int32)
  else
  some (1 : Int32)) fun j10_0 =>
  (if gx_bz j10_0 then
  some j10_0
  else none)))
  else
  (if (kinds_ x1.toNatClampNeg) = 2 then
  (gx_b1 (fn_Interior_moisture volume_ water_) fun r13 =>
  (gx_b1 (if lg_cmp r13 ((levels_ x1.toNatClampNeg).toInt64) ≤ 0 then
  some (0 : Int32)
  else
  some (1 : Int32)) fun j15_0 =>
  (if gx_bz j15_0 then
  some j15_0
  else none)))
  else
  (if (kinds_ x1.toNatClampNeg) = 3 then
  (gx_b1 (fn_Interior_moisture volume_ water_) fun r18 =>
  (gx_b1 (if 0 ≤ lg_cmp r18 ((levels_ x1.toNatClampNeg).toInt64) then
  some (0 : Int32)
  else
  some (1 : Int32)) fun j20_0 =>
  (if gx_bz j20_0 then
  some j20_0
  else none)))
  else
  some (0 : Int32)))))
  else none)
def fn_Rules_isHeld (alarmCounts_ : Nat → Int32) (alarmHours0_ : Nat → Int32) (holds_ : Nat → Int32) (alarmHours1_ : Nat → Int32) (alarmHours2_ : Nat → Int32) (alarmHours3_ : Nat → Int32) (x1 : Int32) (x2 : Int32) : Option (Int32) :=
  (if gx_ix x1 4 then
  (if (alarmCounts_ x1.toNatClampNeg) ≤ 0 then
  some (0 : Int32)
  else
  (if x1 = 0 then
  (if gx_ix ((alarmCounts_ x1.toNatClampNeg) - (1 : Int32)) 300 then
  (gx_b1 (if (holds_ x1.toNatClampNeg) ≤ (x2 - (alarmHours0_ ((alarmCounts_ x1.toNatClampNeg) - (1 : Int32)).toNatClampNeg)) then
  some (0 : Int32)
  else
  some (1 : Int32)) fun j6_0 =>
  (if gx_bz j6_0 then
  some j6_0
  else none))
  else none)
  else (if x1 = 1 then
  (if gx_ix ((alarmCounts_ x1.toNatClampNeg) - (1 : Int32)) 300 then
  (gx_b1 (if (holds_ x1.toNatClampNeg) ≤ (x2 - (alarmHours1_ ((alarmCounts_ x1.toNatClampNeg) - (1 : Int32)).toNatClampNeg)) then
  some (0 : Int32)
  else
  some (1 : Int32)) fun j11_0 =>
  (if gx_bz j11_0 then
  some j11_0
  else none))
  else none)
  else (if x1 = 2 then
  (if gx_ix ((alarmCounts_ x1.toNatClampNeg) - (1 : Int32)) 300 then
  (gx_b1 (if (holds_ x1.toNatClampNeg) ≤ (x2 - (alarmHours2_ ((alarmCounts_ x1.toNatClampNeg) - (1 : Int32)).toNatClampNeg)) then
  some (0 : Int32)
  else
  some (1 : Int32)) fun j16_0 =>
  (if gx_bz j16_0 then
  some j16_0
  else none))
  else none)
  else (if x1 = 3 then
  (if gx_ix ((alarmCounts_ x1.toNatClampNeg) - (1 : Int32)) 300 then
  (gx_b1 (if (holds_ x1.toNatClampNeg) ≤ (x2 - (alarmHours3_ ((alarmCounts_ x1.toNatClampNeg) - (1 : Int32)).toNatClampNeg)) then
  some (0 : Int32)
  else
  some (1 : Int32)) fun j21_0 =>
  (if gx_bz j21_0 then
  some j21_0
  else none))
  else none)
  else none)))))
  else none)
def fn_Rules_tell_L2 (x1 : Int32) (size_ : Int32) (kinds_ : Nat → Int32) (volume_ : Int32) (heat_ : Int64) (water_ : Int64) (levels_ : Nat → Int32) (holds_ : Nat → Int32) : Nat → Int32 → (Nat → Int32) → (Nat → Int32) → (Nat → Int32) → (Nat → Int32) → (Nat → Int32) → Option ((Nat → Int32) × (Nat → Int32) × (Nat → Int32) × (Nat → Int32) × (Nat → Int32))
  | 0, _, _, _, _, _, _ => none
  | n + 1, i3_2, alarmHours0_L2, alarmCounts_L2, alarmHours1_L2, alarmHours2_L2, alarmHours3_L2 =>
    (if size_ ≤ i3_2 then
    some (alarmHours0_L2, alarmCounts_L2, alarmHours1_L2, alarmHours2_L2, alarmHours3_L2)
    else
    (gx_b1 (fn_Rules_isBroken kinds_ volume_ heat_ water_ levels_ i3_2) fun r2 =>
    (if r2 = 0 then
    fn_Rules_tell_L2 x1 size_ kinds_ volume_ heat_ water_ levels_ holds_ n (i3_2 + 1) alarmHours0_L2 alarmCounts_L2 alarmHours1_L2 alarmHours2_L2 alarmHours3_L2
    else
    (gx_b1 (fn_Rules_isHeld alarmCounts_L2 alarmHours0_L2 holds_ alarmHours1_L2 alarmHours2_L2 alarmHours3_L2 i3_2 x1) fun r4 =>
    (if r4 = 0 then
    (if i3_2 = 0 then
    (if gx_ix i3_2 4 then
    (if gx_ix (alarmCounts_L2 i3_2.toNatClampNeg) 300 then
    fn_Rules_tell_L2 x1 size_ kinds_ volume_ heat_ water_ levels_ holds_ n (i3_2 + 1) (upd alarmHours0_L2 (alarmCounts_L2 i3_2.toNatClampNeg).toNatClampNeg x1) (upd alarmCounts_L2 i3_2.toNatClampNeg ((alarmCounts_L2 i3_2.toNatClampNeg) + (1 : Int32))) alarmHours1_L2 alarmHours2_L2 alarmHours3_L2
    else none)
    else none)
    else (if i3_2 = 1 then
    (if gx_ix i3_2 4 then
    (if gx_ix (alarmCounts_L2 i3_2.toNatClampNeg) 300 then
    fn_Rules_tell_L2 x1 size_ kinds_ volume_ heat_ water_ levels_ holds_ n (i3_2 + 1) alarmHours0_L2 (upd alarmCounts_L2 i3_2.toNatClampNeg ((alarmCounts_L2 i3_2.toNatClampNeg) + (1 : Int32))) (upd alarmHours1_L2 (alarmCounts_L2 i3_2.toNatClampNeg).toNatClampNeg x1) alarmHours2_L2 alarmHours3_L2
    else none)
    else none)
    else (if i3_2 = 2 then
    (if gx_ix i3_2 4 then
    (if gx_ix (alarmCounts_L2 i3_2.toNatClampNeg) 300 then
    fn_Rules_tell_L2 x1 size_ kinds_ volume_ heat_ water_ levels_ holds_ n (i3_2 + 1) alarmHours0_L2 (upd alarmCounts_L2 i3_2.toNatClampNeg ((alarmCounts_L2 i3_2.toNatClampNeg) + (1 : Int32))) alarmHours1_L2 (upd alarmHours2_L2 (alarmCounts_L2 i3_2.toNatClampNeg).toNatClampNeg x1) alarmHours3_L2
    else none)
    else none)
    else (if i3_2 = 3 then
    (if gx_ix i3_2 4 then
    (if gx_ix (alarmCounts_L2 i3_2.toNatClampNeg) 300 then
    fn_Rules_tell_L2 x1 size_ kinds_ volume_ heat_ water_ levels_ holds_ n (i3_2 + 1) alarmHours0_L2 (upd alarmCounts_L2 i3_2.toNatClampNeg ((alarmCounts_L2 i3_2.toNatClampNeg) + (1 : Int32))) alarmHours1_L2 alarmHours2_L2 (upd alarmHours3_L2 (alarmCounts_L2 i3_2.toNatClampNeg).toNatClampNeg x1)
    else none)
    else none)
    else none))))
    else
    fn_Rules_tell_L2 x1 size_ kinds_ volume_ heat_ water_ levels_ holds_ n (i3_2 + 1) alarmHours0_L2 alarmCounts_L2 alarmHours1_L2 alarmHours2_L2 alarmHours3_L2)))))
def fn_Rules_tell (size_ : Int32) (kinds_ : Nat → Int32) (volume_ : Int32) (heat_ : Int64) (water_ : Int64) (levels_ : Nat → Int32) (alarmCounts_ : Nat → Int32) (alarmHours0_ : Nat → Int32) (holds_ : Nat → Int32) (alarmHours1_ : Nat → Int32) (alarmHours2_ : Nat → Int32) (alarmHours3_ : Nat → Int32) (x1 : Int32) : Option ((Nat → Int32) × (Nat → Int32) × (Nat → Int32) × (Nat → Int32) × (Nat → Int32)) :=
  fn_Rules_tell_L2 x1 size_ kinds_ volume_ heat_ water_ levels_ holds_ 400 (0 : Int32) alarmHours0_ alarmCounts_ alarmHours1_ alarmHours2_ alarmHours3_
def fn_Steps_wouldRise (size_ : Int32) (levels_ : Nat → Int32) (n_a0 : Nat) (x1 : Int32) : Option (Int32) :=
  (gx_b1 (if size_ = 0 then
  some (1 : Int32)
  else
  (if gx_ix (size_ - (1 : Int32)) n_a0 then
  (gx_b1 (if x1 ≤ (levels_ (size_ - (1 : Int32)).toNatClampNeg) then
  some (0 : Int32)
  else
  some (1 : Int32)) fun j5_0 =>
  some j5_0)
  else none)) fun j2_0 =>
  (if gx_bz j2_0 then
  some j2_0
  else none))
def fn_Steps_append (size_ : Int32) (levels_ : Nat → Int32) (amounts_ : Nat → Int32) (n_a0 : Nat) (x1 : Int32) (x2 : Int32) : Option (Int32 × (Nat → Int32) × (Nat → Int32) × Int32) :=
  (if gx_ix size_ n_a0 then
  some ((size_ + (1 : Int32)) - (1 : Int32), upd levels_ size_.toNatClampNeg x1, upd amounts_ size_.toNatClampNeg x2, size_ + (1 : Int32))
  else none)
def fn_Steps_amountFrom_L5 (x1 : Int64) (size_ : Int32) (levels_ : Nat → Int32) (amounts_ : Nat → Int32) (n_a0 : Nat) : Nat → Int32 → Int32 → Option (Int32)
  | 0, _, _ => none
  | n + 1, i3_5, i4_5 =>
    (if size_ ≤ i4_5 then
    some i3_5
    else
    (if gx_ix i4_5 n_a0 then
    (if 0 < lg_cmp ((levels_ i4_5.toNatClampNeg).toInt64) x1 then
    some i3_5
    else
    fn_Steps_amountFrom_L5 x1 size_ levels_ amounts_ n_a0 n (amounts_ i4_5.toNatClampNeg) (i4_5 + 1))
    else none))
def fn_Steps_amountFrom (size_ : Int32) (levels_ : Nat → Int32) (amounts_ : Nat → Int32) (n_a0 : Nat) (x1 : Int64) : Option (Int32) :=
  fn_Steps_amountFrom_L5 x1 size_ levels_ amounts_ n_a0 400 (0 : Int32) (0 : Int32)
def fn_Walls_append (layers_ : Int32) (conductances_ : Nat → Int32) (capacities_ : Nat → Int32) (heats_ : Nat → Int64) (x1 : Int32) (x2 : Int32) : Option (Int32 × (Nat → Int32) × (Nat → Int32) × (Nat → Int64) × Int32) :=
  (if gx_ix layers_ 5 then
  some ((layers_ + (1 : Int32)) - (1 : Int32), upd conductances_ layers_.toNatClampNeg x1, upd capacities_ layers_.toNatClampNeg x2, vp_updL heats_ layers_.toNatClampNeg (x2.toInt64 * (20000 : Int64)), layers_ + (1 : Int32))
  else none)
def fn_Room_requireWithin (x0 : Int32) (x1 : Int32) (x2 : Int32) : Option (Nat ⊕ (Unit)) :=
  (if x0 < x1 then
  some (.inl 3)
  else
  (if x0 ≤ x2 then
  (gx_lift (some ()))
  else
  some (.inl 3)))
def fn_Room_room (x1 : Int32) (x2 : Int32) : Option (Nat ⊕ (Int32 × Int32)) :=
  (gx_xb (fn_Room_requireWithin x1 (1 : Int32) (1000 : Int32))
  (gx_xb (fn_Room_requireWithin x2 (0 : Int32) (1000 : Int32))
  (gx_lift (some (x1, x2)))))
def fn_Room_requireSpace (x0 : Int32) (x1 : Int32) : Option (Nat ⊕ (Unit)) :=
  (if x0 < x1 then
  (gx_lift (some ()))
  else
  some (.inl 2))
def fn_Room_wall (layers_ : Int32) (conductances_ : Nat → Int32) (capacities_ : Nat → Int32) (heats_ : Nat → Int64) (x1 : Int32) (x2 : Int32) : Option (Nat ⊕ (Int32 × (Nat → Int32) × (Nat → Int32) × (Nat → Int64) × Int32)) :=
  (gx_xb (fn_Room_requireSpace layers_ (5 : Int32))
  (gx_xb (fn_Room_requireWithin x1 (0 : Int32) (100 : Int32))
  (gx_xb (fn_Room_requireWithin x2 (1 : Int32) (1000 : Int32))
  (gx_lift (gx_b5 (fn_Walls_append layers_ conductances_ capacities_ heats_ x1 x2) fun r4 u4_0 u4_1 u4_2 u4_3 =>
  some (r4, u4_0, u4_1, u4_2, u4_3))))))
def fn_Room_goods (kilograms_ : Int32) (x1 : Int32) : Option (Nat ⊕ (Int32 × Int32)) :=
  (gx_xb (fn_Room_requireWithin x1 (0 : Int32) (1000 : Int32))
  (gx_lift (some (kilograms_, x1))))
def fn_Room_requireRise (size_ : Int32) (levels_ : Nat → Int32) (n_a0 : Nat) (x1 : Int32) : Option (Nat ⊕ (Unit)) :=
  (gx_b1 (fn_Steps_wouldRise size_ levels_ n_a0 x1) fun r1 =>
  (if r1 = 0 then
  some (.inl 3)
  else
  (gx_lift (some ()))))
def fn_Room_row (size_ : Int32) (levels_ : Nat → Int32) (amounts_ : Nat → Int32) (x1 : Int32) (x2 : Int32) : Option (Nat ⊕ (Int32 × (Nat → Int32) × (Nat → Int32) × Int32)) :=
  (gx_xb (fn_Room_requireSpace size_ (6 : Int32))
  (gx_xb (fn_Room_requireWithin x1 (0 : Int32) (60000 : Int32))
  (gx_xb (fn_Room_requireWithin x2 (0 : Int32) (10000 : Int32))
  (gx_xb (fn_Room_requireRise size_ levels_ 6 x1)
  (gx_lift (gx_b4 (fn_Steps_append size_ levels_ amounts_ 6 x1 x2) fun r5 u5_0 u5_1 u5_2 =>
  some (r5, u5_0, u5_1, u5_2)))))))
def fn_Room_requireIndex (x0 : Int32) (x1 : Int32) : Option (Nat ⊕ (Unit)) :=
  (if x0 < 0 then
  some (.inl 1)
  else
  (if x0 < x1 then
  (gx_lift (some ()))
  else
  some (.inl 1)))
def fn_Room_machine (lows_ : Nat → Int32) (highs_ : Nat → Int32) (rates_ : Nat → Int32) (told_ : Nat → Int32) (running_ : Nat → Int32) (x1 : Int32) (x2 : Int32) (x3 : Int32) (x4 : Int32) : Option (Nat ⊕ ((Nat → Int32) × (Nat → Int32) × (Nat → Int32) × (Nat → Int32) × (Nat → Int32))) :=
  (gx_xb (fn_Room_requireIndex x1 (4 : Int32))
  (gx_xb (fn_Room_requireWithin x2 (-60000 : Int32) (60000 : Int32))
  (gx_xb (fn_Room_requireWithin x3 x2 (60000 : Int32))
  (gx_xb (fn_Room_requireWithin x4 (0 : Int32) (100000 : Int32))
  (gx_lift (gx_b5 (fn_Machines_install lows_ highs_ rates_ told_ running_ x1 x2 x3 x4) fun u5_0 u5_1 u5_2 u5_3 u5_4 =>
  some (u5_0, u5_1, u5_2, u5_3, u5_4)))))))
def fn_Room_addRiskPoints_L2 (volume_ : Int32) (water_ : Int64) (heat_ : Int64) (size_ : Int32) (levels_ : Nat → Int32) (amounts_ : Nat → Int32) (size_2 : Int32) (levels_2 : Nat → Int32) (amounts_2 : Nat → Int32) (size_3 : Int32) (levels_3 : Nat → Int32) (amounts_3 : Nat → Int32) (size_4 : Int32) (levels_4 : Nat → Int32) (amounts_4 : Nat → Int32) : Nat → Int32 → (Nat → Int32) → Option ((Nat → Int32))
  | 0, _, _ => none
  | n + 1, i1_2, riskPoints_L2 =>
    (if (4 : Int32) ≤ i1_2 then
    some riskPoints_L2
    else
    (gx_b1 (if i1_2 < (2 : Int32) then
    some (0 : Int32)
    else
    some (1 : Int32)) fun j3_0 =>
    (gx_b1 (if j3_0 = 0 then
    (gx_b1 (fn_Interior_moisture volume_ water_) fun r6 =>
    some r6)
    else
    (gx_b1 (fn_Interior_warmth volume_ heat_) fun r7 =>
    some r7)) fun j5_0 =>
    (if gx_ix i1_2 4 then
    (if i1_2 = 0 then
    (gx_b1 (fn_Steps_amountFrom size_ levels_ amounts_ 5 j5_0) fun r10 =>
    fn_Room_addRiskPoints_L2 volume_ water_ heat_ size_ levels_ amounts_ size_2 levels_2 amounts_2 size_3 levels_3 amounts_3 size_4 levels_4 amounts_4 n (i1_2 + 1) (upd riskPoints_L2 i1_2.toNatClampNeg ((riskPoints_L2 i1_2.toNatClampNeg) + r10)))
    else (if i1_2 = 1 then
    (gx_b1 (fn_Steps_amountFrom size_2 levels_2 amounts_2 5 j5_0) fun r12 =>
    fn_Room_addRiskPoints_L2 volume_ water_ heat_ size_ levels_ amounts_ size_2 levels_2 amounts_2 size_3 levels_3 amounts_3 size_4 levels_4 amounts_4 n (i1_2 + 1) (upd riskPoints_L2 i1_2.toNatClampNeg ((riskPoints_L2 i1_2.toNatClampNeg) + r12)))
    else (if i1_2 = 2 then
    (gx_b1 (fn_Steps_amountFrom size_3 levels_3 amounts_3 5 j5_0) fun r14 =>
    fn_Room_addRiskPoints_L2 volume_ water_ heat_ size_ levels_ amounts_ size_2 levels_2 amounts_2 size_3 levels_3 amounts_3 size_4 levels_4 amounts_4 n (i1_2 + 1) (upd riskPoints_L2 i1_2.toNatClampNeg ((riskPoints_L2 i1_2.toNatClampNeg) + r14)))
    else (if i1_2 = 3 then
    (gx_b1 (fn_Steps_amountFrom size_4 levels_4 amounts_4 5 j5_0) fun r16 =>
    fn_Room_addRiskPoints_L2 volume_ water_ heat_ size_ levels_ amounts_ size_2 levels_2 amounts_2 size_3 levels_3 amounts_3 size_4 levels_4 amounts_4 n (i1_2 + 1) (upd riskPoints_L2 i1_2.toNatClampNeg ((riskPoints_L2 i1_2.toNatClampNeg) + r16)))
    else none))))
    else none))))
def fn_Room_addRiskPoints (volume_ : Int32) (heat_ : Int64) (water_ : Int64) (riskPoints_ : Nat → Int32) (size_ : Int32) (levels_ : Nat → Int32) (amounts_ : Nat → Int32) (size_2 : Int32) (levels_2 : Nat → Int32) (amounts_2 : Nat → Int32) (size_3 : Int32) (levels_3 : Nat → Int32) (amounts_3 : Nat → Int32) (size_4 : Int32) (levels_4 : Nat → Int32) (amounts_4 : Nat → Int32) : Option ((Nat → Int32)) :=
  fn_Room_addRiskPoints_L2 volume_ water_ heat_ size_ levels_ amounts_ size_2 levels_2 amounts_2 size_3 levels_3 amounts_3 size_4 levels_4 amounts_4 400 (0 : Int32) riskPoints_
def fn_Room_hour (hoursGone_ : Int32) (volume_ : Int32) (share_ : Int32) (heat_ : Int64) (water_ : Int64) (heatBooks_ : Nat → Int64) (waterBooks_ : Nat → Int64) (layers_ : Int32) (heats_ : Nat → Int64) (conductances_ : Nat → Int32) (capacities_ : Nat → Int32) (kilograms_ : Int32) (load_ : Int64) (size_ : Int32) (amounts_ : Nat → Int32) (levels_ : Nat → Int32) (told_ : Nat → Int32) (lows_ : Nat → Int32) (highs_ : Nat → Int32) (running_ : Nat → Int32) (rates_ : Nat → Int32) (riskPoints_ : Nat → Int32) (size_2 : Int32) (levels_2 : Nat → Int32) (amounts_2 : Nat → Int32) (size_3 : Int32) (levels_3 : Nat → Int32) (amounts_3 : Nat → Int32) (size_4 : Int32) (levels_4 : Nat → Int32) (amounts_4 : Nat → Int32) (size_5 : Int32) (levels_5 : Nat → Int32) (amounts_5 : Nat → Int32) (size_6 : Int32) (kinds_ : Nat → Int32) (levels_6 : Nat → Int32) (alarmCounts_ : Nat → Int32) (alarmHours0_ : Nat → Int32) (holds_ : Nat → Int32) (alarmHours1_ : Nat → Int32) (alarmHours2_ : Nat → Int32) (alarmHours3_ : Nat → Int32) (x1 : Int32) (x2 : Int32) (x3 : Int32) : Option (Nat ⊕ (Int32 × Int64 × (Nat → Int64) × Int64 × (Nat → Int64) × (Nat → Int64) × Int64 × (Nat → Int32) × (Nat → Int32) × (Nat → Int32) × (Nat → Int32) × (Nat → Int32) × (Nat → Int32) × (Nat → Int32) × Int32)) :=
  (gx_xb (fn_Room_requireSpace hoursGone_ (300 : Int32))
  (gx_xb (fn_Room_requireWithin x1 (-60000 : Int32) (60000 : Int32))
  (gx_xb (fn_Room_requireWithin x2 (0 : Int32) (60000 : Int32))
  (gx_xb (fn_Room_requireWithin x3 (0 : Int32) (99 : Int32))
  (gx_lift (gx_b7 (fn_House_pass volume_ share_ heat_ water_ heatBooks_ waterBooks_ layers_ heats_ conductances_ capacities_ kilograms_ load_ size_ amounts_ levels_ told_ lows_ highs_ running_ rates_ 6 x1 x2 x3) fun u5_0 u5_1 u5_2 u5_3 u5_4 u5_5 u5_6 =>
  (gx_b1 (fn_Room_addRiskPoints volume_ u5_0 u5_2 riskPoints_ size_2 levels_2 amounts_2 size_3 levels_3 amounts_3 size_4 levels_4 amounts_4 size_5 levels_5 amounts_5) fun u6_0 =>
  (gx_b5 (fn_Rules_tell size_6 kinds_ volume_ u5_0 u5_2 levels_6 alarmCounts_ alarmHours0_ holds_ alarmHours1_ alarmHours2_ alarmHours3_ hoursGone_) fun u7_0 u7_1 u7_2 u7_3 u7_4 =>
  some ((hoursGone_ + (1 : Int32)) - (1 : Int32), u5_0, u5_1, u5_2, u5_3, u5_4, u5_5, u5_6, u6_0, u7_0, u7_1, u7_2, u7_3, u7_4, hoursGone_ + (1 : Int32))))))))))
def fn_Room_degrees (volume_ : Int32) (heat_ : Int64) : Option (Int32) :=
  (gx_b1 (fn_Interior_warmth volume_ heat_) fun r1 =>
  some r1.toInt32)
def fn_Room_damp (volume_ : Int32) (water_ : Int64) : Option (Int32) :=
  (gx_b1 (fn_Interior_moisture volume_ water_) fun r1 =>
  some r1.toInt32)
def fn_Room_layer (layers_ : Int32) (heats_ : Nat → Int64) (capacities_ : Nat → Int32) (x1 : Int32) : Option (Nat ⊕ (Int32)) :=
  (gx_xb (fn_Room_requireIndex x1 layers_)
  (gx_lift (gx_b1 (fn_Walls_warmth heats_ capacities_ x1) fun r2 =>
  some r2.toInt32)))
def fn_Room_held (load_ : Int64) : Option (Int32) :=
  some load_.toInt32
def fn_Room_on (running_ : Nat → Int32) (x1 : Int32) : Option (Nat ⊕ (Int32)) :=
  (gx_xb (fn_Room_requireIndex x1 (4 : Int32))
  (gx_lift (if gx_ix x1 4 then
  (if gx_bz (running_ x1.toNatClampNeg) then
  some (running_ x1.toNatClampNeg)
  else none)
  else none)))
def fn_Room_book (heat_ : Int64) (water_ : Int64) (waterBooks_ : Nat → Int64) (heatBooks_ : Nat → Int64) (x1 : Int32) (x2 : Int32) : Option (Nat ⊕ (Int64)) :=
  (gx_xb (fn_Room_requireIndex x2 (2 : Int32))
  (if x1 = (-1 : Int32) then
  (gx_lift (gx_b1 (if x2 = 0 then
  some heat_
  else
  some water_) fun j9_0 =>
  some j9_0))
  else
  (gx_xb (fn_Room_requireIndex x1 (5 : Int32))
  (gx_lift (gx_b1 (if x2 = 0 then
  (if gx_ix x1 5 then
  some (heatBooks_ x1.toNatClampNeg)
  else none)
  else
  (if gx_ix x1 5 then
  some (waterBooks_ x1.toNatClampNeg)
  else none)) fun j5_0 =>
  some j5_0)))))
def fn_Room_dew (layers_ : Int32) (volume_ : Int32) (water_ : Int64) (heats_ : Nat → Int64) (capacities_ : Nat → Int32) (x1 : Int32) : Option (Nat ⊕ (Int32)) :=
  (gx_xb (fn_Room_requireIndex x1 layers_)
  (gx_lift (gx_b1 (fn_Interior_moisture volume_ water_) fun r2 =>
  (gx_b1 (fn_Walls_warmth heats_ capacities_ x1) fun r3 =>
  (gx_b1 (if lg_cmp r2 (if (0 : Int64) < r3 then r3 else (0 : Int64)) ≤ 0 then
  some (0 : Int32)
  else
  some (1 : Int32)) fun j5_0 =>
  (if gx_bz j5_0 then
  some j5_0
  else none))))))
def fn_Room_risk (size_ : Int32) (levels_ : Nat → Int32) (amounts_ : Nat → Int32) (size_2 : Int32) (levels_2 : Nat → Int32) (amounts_2 : Nat → Int32) (size_3 : Int32) (levels_3 : Nat → Int32) (amounts_3 : Nat → Int32) (size_4 : Int32) (levels_4 : Nat → Int32) (amounts_4 : Nat → Int32) (x1 : Int32) (x2 : Int32) (x3 : Int32) : Option (Nat ⊕ (Int32 × (Nat → Int32) × (Nat → Int32) × Int32 × (Nat → Int32) × (Nat → Int32) × Int32 × (Nat → Int32) × (Nat → Int32) × Int32 × (Nat → Int32) × (Nat → Int32) × Int32)) :=
  (gx_xb (fn_Room_requireIndex x1 (4 : Int32))
  (if x1 = 0 then
  (gx_xb (fn_Room_requireSpace size_ (5 : Int32))
  (gx_xb (fn_Room_requireWithin x2 (-60000 : Int32) (60000 : Int32))
  (gx_xb (fn_Room_requireRise size_ levels_ 5 x2)
  (gx_xb (fn_Room_requireWithin x3 (0 : Int32) (1000 : Int32))
  (gx_lift (gx_b4 (fn_Steps_append size_ levels_ amounts_ 5 x2 x3) fun r7 u7_0 u7_1 u7_2 =>
  some (r7, u7_0, u7_1, u7_2, levels_2, amounts_2, size_2, levels_3, amounts_3, size_3, levels_4, amounts_4, size_4)))))))
  else (if x1 = 1 then
  (gx_xb (fn_Room_requireSpace size_2 (5 : Int32))
  (gx_xb (fn_Room_requireWithin x2 (-60000 : Int32) (60000 : Int32))
  (gx_xb (fn_Room_requireRise size_2 levels_2 5 x2)
  (gx_xb (fn_Room_requireWithin x3 (0 : Int32) (1000 : Int32))
  (gx_lift (gx_b4 (fn_Steps_append size_2 levels_2 amounts_2 5 x2 x3) fun r13 u13_0 u13_1 u13_2 =>
  some (r13, levels_, amounts_, size_, u13_0, u13_1, u13_2, levels_3, amounts_3, size_3, levels_4, amounts_4, size_4)))))))
  else (if x1 = 2 then
  (gx_xb (fn_Room_requireSpace size_3 (5 : Int32))
  (gx_xb (fn_Room_requireWithin x2 (-60000 : Int32) (60000 : Int32))
  (gx_xb (fn_Room_requireRise size_3 levels_3 5 x2)
  (gx_xb (fn_Room_requireWithin x3 (0 : Int32) (1000 : Int32))
  (gx_lift (gx_b4 (fn_Steps_append size_3 levels_3 amounts_3 5 x2 x3) fun r19 u19_0 u19_1 u19_2 =>
  some (r19, levels_, amounts_, size_, levels_2, amounts_2, size_2, u19_0, u19_1, u19_2, levels_4, amounts_4, size_4)))))))
  else (if x1 = 3 then
  (gx_xb (fn_Room_requireSpace size_4 (5 : Int32))
  (gx_xb (fn_Room_requireWithin x2 (-60000 : Int32) (60000 : Int32))
  (gx_xb (fn_Room_requireRise size_4 levels_4 5 x2)
  (gx_xb (fn_Room_requireWithin x3 (0 : Int32) (1000 : Int32))
  (gx_lift (gx_b4 (fn_Steps_append size_4 levels_4 amounts_4 5 x2 x3) fun r25 u25_0 u25_1 u25_2 =>
  some (r25, levels_, amounts_, size_, levels_2, amounts_2, size_2, levels_3, amounts_3, size_3, u25_0, u25_1, u25_2)))))))
  else none)))))
def fn_Room_points (riskPoints_ : Nat → Int32) (x1 : Int32) : Option (Nat ⊕ (Int32)) :=
  (gx_xb (fn_Room_requireIndex x1 (4 : Int32))
  (gx_lift (if gx_ix x1 4 then
  some (riskPoints_ x1.toNatClampNeg)
  else none)))
def fn_Room_rule (size_ : Int32) (kinds_ : Nat → Int32) (levels_ : Nat → Int32) (holds_ : Nat → Int32) (x1 : Int32) (x2 : Int32) (x3 : Int32) : Option (Nat ⊕ (Int32 × (Nat → Int32) × (Nat → Int32) × (Nat → Int32) × Int32)) :=
  (gx_xb (fn_Room_requireSpace size_ (4 : Int32))
  (gx_xb (fn_Room_requireWithin x1 (0 : Int32) (3 : Int32))
  (gx_xb (fn_Room_requireWithin x2 (-60000 : Int32) (60000 : Int32))
  (gx_xb (fn_Room_requireWithin x3 (1 : Int32) (99 : Int32))
  (gx_lift (gx_b5 (fn_Rules_append size_ kinds_ levels_ holds_ x1 x2 x3) fun r5 u5_0 u5_1 u5_2 u5_3 =>
  some (r5, u5_0, u5_1, u5_2, u5_3)))))))
def fn_Room_alarm (size_ : Int32) (alarmCounts_ : Nat → Int32) (alarmHours0_ : Nat → Int32) (alarmHours1_ : Nat → Int32) (alarmHours2_ : Nat → Int32) (alarmHours3_ : Nat → Int32) (x1 : Int32) (x2 : Int32) : Option (Nat ⊕ (Int32)) :=
  (gx_xb (fn_Room_requireIndex x1 size_)
  (if (-1 : Int32) ≤ x2 then
  (gx_lift (if gx_ix x1 4 then
  (if x2 = (-1 : Int32) then
  some (alarmCounts_ x1.toNatClampNeg)
  else
  (if (alarmCounts_ x1.toNatClampNeg) ≤ x2 then
  some (-1 : Int32)
  else
  (if x1 = 0 then
  (if gx_ix x2 300 then
  some (alarmHours0_ x2.toNatClampNeg)
  else none)
  else (if x1 = 1 then
  (if gx_ix x2 300 then
  some (alarmHours1_ x2.toNatClampNeg)
  else none)
  else (if x1 = 2 then
  (if gx_ix x2 300 then
  some (alarmHours2_ x2.toNatClampNeg)
  else none)
  else (if x1 = 3 then
  (if gx_ix x2 300 then
  some (alarmHours3_ x2.toNatClampNeg)
  else none)
  else none))))))
  else none))
  else
  some (.inl 1)))
def fn_Room_sensor (hoursGone_ : Int32) (values_ : Nat → Int32) (sensed_ : Nat → Int32) (x1 : Int32) (x2 : Int32) : Option (Nat ⊕ ((Nat → Int32) × (Nat → Int32))) :=
  (gx_xb (fn_Room_requireIndex x1 hoursGone_)
  (gx_xb (fn_Room_requireWithin x2 (-100000 : Int32) (100000 : Int32))
  (gx_lift (gx_b2 (fn_Gauge_sense values_ sensed_ x1 x2) fun u3_0 u3_1 =>
  some (u3_0, u3_1)))))
def fn_Room_check (hoursGone_ : Int32) (checks_ : Int32) (sensed_ : Nat → Int32) (checked_ : Nat → Int32) (rights_ : Nat → Int32) (x1 : Int32) (x2 : Int32) : Option (Nat ⊕ (Int32 × (Nat → Int32) × (Nat → Int32))) :=
  (gx_xb (fn_Room_requireIndex x1 hoursGone_)
  (if gx_ix x1 300 then
  (if (sensed_ x1.toNatClampNeg) = 0 then
  some (.inl 2)
  else
  (gx_xb (fn_Room_requireWithin x2 (-100000 : Int32) (100000 : Int32))
  (gx_lift (gx_b3 (fn_Gauge_compare checks_ checked_ rights_ x1 x2) fun u5_0 u5_1 u5_2 =>
  some (u5_0, u5_1, u5_2)))))
  else none))
def fn_Room_corrected (hoursGone_ : Int32) (sensed_ : Nat → Int32) (values_ : Nat → Int32) (checked_ : Nat → Int32) (rights_ : Nat → Int32) (x1 : Int32) : Option (Nat ⊕ (Int32)) :=
  (gx_xb (fn_Room_requireIndex x1 hoursGone_)
  (gx_lift (if gx_ix x1 300 then
  (gx_b1 (if (sensed_ x1.toNatClampNeg) = 0 then
  some (-200000 : Int32)
  else
  (gx_b1 (fn_Gauge_drift checked_ rights_ values_ x1 hoursGone_) fun r5 =>
  some ((values_ x1.toNatClampNeg) + r5))) fun j4_0 =>
  some j4_0)
  else none)))
def fn_Room_silent (hoursGone_ : Int32) (sensed_ : Nat → Int32) (x1 : Int32) : Option (Nat ⊕ (Int32)) :=
  (gx_xb (fn_Room_requireIndex x1 hoursGone_)
  (gx_lift (gx_b1 (fn_Gauge_longestGap sensed_ x1 hoursGone_) fun r2 =>
  some r2)))
def fn_Room_distanceFromPlanned (x0 : Int64) : Option (Int64) :=
  some (if (if (x0 - (22000 : Int64)) < ((18000 : Int64) - x0) then (18000 : Int64) - x0 else x0 - (22000 : Int64)) < (0 : Int64) then (0 : Int64) else if (x0 - (22000 : Int64)) < ((18000 : Int64) - x0) then (18000 : Int64) - x0 else x0 - (22000 : Int64))
def fn_Room_costOfLevel_L48 (x2 : Int32) (x3 : Int32) (x4 : Int32) (u1_0 : Int32) (u1_1 : Int32) (u1_4 : Int32) (u1_5 : Nat → Int32) (u1_6 : Nat → Int32) (u1_8 : Int32) (u3_0 : Nat → Int32) (u3_1 : Nat → Int32) (u3_2 : Nat → Int32) (u3_3 : Nat → Int32) (size_ : Int32) (amounts_ : Nat → Int32) (levels_ : Nat → Int32) : Nat → Int64 → Int32 → Int64 → Int64 → (Nat → Int64) → Int64 → (Nat → Int32) → (Nat → Int64) → (Nat → Int64) → Option (Int64 × Int32 × Int32 × Int64 × Int64 × Int32 × (Nat → Int32) × (Nat → Int32) × (Nat → Int64) × Int32 × Int64 × (Nat → Int32) × (Nat → Int32) × (Nat → Int32) × (Nat → Int32) × (Nat → Int32) × (Nat → Int64) × (Nat → Int64))
  | 0, _, _, _, _, _, _, _, _, _ => none
  | n + 1, i5_48, i7_48, heat_2L48, water_2L48, heats_2L48, load_2L48, running_2L48, heatBooks_L48, waterBooks_L48 =>
    (if x2 ≤ i7_48 then
    some (i5_48, u1_0, u1_1, heat_2L48, water_2L48, u1_4, u1_5, u1_6, heats_2L48, u1_8, load_2L48, u3_0, u3_1, u3_2, u3_3, running_2L48, heatBooks_L48, waterBooks_L48)
    else
    (gx_b7 (fn_House_pass u1_0 u1_1 heat_2L48 water_2L48 heatBooks_L48 waterBooks_L48 u1_4 heats_2L48 u1_5 u1_6 u1_8 load_2L48 size_ amounts_ levels_ u3_3 u3_0 u3_1 running_2L48 u3_2 6 x3 x4 (0 : Int32)) fun u5_0 u5_1 u5_2 u5_3 u5_4 u5_5 u5_6 =>
    (gx_b1 (fn_Machines_output u5_6 u3_2 (0 : Int32)) fun r6 =>
    (gx_b1 (fn_Interior_warmth u1_0 u5_0) fun r7 =>
    (gx_b1 (fn_Room_distanceFromPlanned r7) fun r8 =>
    fn_Room_costOfLevel_L48 x2 x3 x4 u1_0 u1_1 u1_4 u1_5 u1_6 u1_8 u3_0 u3_1 u3_2 u3_3 size_ amounts_ levels_ n (i5_48 + (r6.toInt64 + ((100 : Int64) * r8))) (i7_48 + 1) u5_0 u5_2 u5_4 u5_5 u5_6 u5_1 u5_3)))))
def fn_Room_costOfLevel (volume_ : Int32) (share_ : Int32) (heat_ : Int64) (water_ : Int64) (layers_ : Int32) (conductances_ : Nat → Int32) (conductances_2 : Nat → Int32) (capacities_ : Nat → Int32) (capacities_2 : Nat → Int32) (heats_ : Nat → Int64) (heats_2 : Nat → Int64) (kilograms_ : Int32) (load_ : Int64) (lows_ : Nat → Int32) (lows_2 : Nat → Int32) (highs_ : Nat → Int32) (highs_2 : Nat → Int32) (rates_ : Nat → Int32) (rates_2 : Nat → Int32) (told_ : Nat → Int32) (told_2 : Nat → Int32) (running_ : Nat → Int32) (running_2 : Nat → Int32) (heatBooks_ : Nat → Int64) (waterBooks_ : Nat → Int64) (size_ : Int32) (amounts_ : Nat → Int32) (levels_ : Nat → Int32) (x1 : Int32) (x2 : Int32) (x3 : Int32) (x4 : Int32) : Option (Int64 × Int32 × Int32 × Int64 × Int64 × Int32 × (Nat → Int32) × (Nat → Int32) × (Nat → Int64) × Int32 × Int64 × (Nat → Int32) × (Nat → Int32) × (Nat → Int32) × (Nat → Int32) × (Nat → Int32) × (Nat → Int64) × (Nat → Int64)) :=
  (gx_b15 (fn_House_copyFrom volume_ share_ heat_ water_ layers_ conductances_ conductances_2 capacities_ capacities_2 heats_ heats_2 kilograms_ load_ lows_ lows_2 highs_ highs_2 rates_ rates_2 told_ told_2 running_ running_2) fun u1_0 u1_1 u1_2 u1_3 u1_4 u1_5 u1_6 u1_7 u1_8 u1_9 u1_10 u1_11 u1_12 u1_13 u1_14 =>
  (gx_b1 (fn_Machines_rateOr told_ rates_ (0 : Int32) (5000 : Int32)) fun r2 =>
  (gx_b5 (fn_Machines_install u1_10 u1_11 u1_12 u1_13 u1_14 (0 : Int32) x1 (x1 + (500 : Int32)) r2) fun u3_0 u3_1 u3_2 u3_3 u3_4 =>
  fn_Room_costOfLevel_L48 x2 x3 x4 u1_0 u1_1 u1_4 u1_5 u1_6 u1_8 u3_0 u3_1 u3_2 u3_3 size_ amounts_ levels_ 400 (0 : Int64) (0 : Int32) u1_2 u1_3 u1_7 u1_9 u3_4 heatBooks_ waterBooks_)))
def fn_Room_plan_L44 (x1 : Int32) (x2 : Int32) (x3 : Int32) (volume_ : Int32) (share_ : Int32) (heat_ : Int64) (water_ : Int64) (layers_ : Int32) (conductances_ : Nat → Int32) (capacities_ : Nat → Int32) (heats_ : Nat → Int64) (kilograms_ : Int32) (load_ : Int64) (lows_ : Nat → Int32) (highs_ : Nat → Int32) (rates_ : Nat → Int32) (told_ : Nat → Int32) (running_ : Nat → Int32) (size_ : Int32) (amounts_ : Nat → Int32) (levels_ : Nat → Int32) : Nat → Int32 → Int64 → Int32 → Int32 → Int32 → Int64 → Int64 → Int32 → (Nat → Int32) → (Nat → Int32) → (Nat → Int64) → Int32 → Int64 → (Nat → Int32) → (Nat → Int32) → (Nat → Int32) → (Nat → Int32) → (Nat → Int32) → (Nat → Int64) → (Nat → Int64) → Option (Int32 × Int32 × Int32 × Int64 × Int64 × Int32 × (Nat → Int32) × (Nat → Int32) × (Nat → Int64) × Int32 × Int64 × (Nat → Int32) × (Nat → Int32) × (Nat → Int32) × (Nat → Int32) × (Nat → Int32) × (Nat → Int64) × (Nat → Int64))
  | 0, _, _, _, _, _, _, _, _, _, _, _, _, _, _, _, _, _, _, _, _ => none
  | n + 1, i4_44, i5_44, i7_44, volume_2L44, share_2L44, heat_2L44, water_2L44, layers_2L44, conductances_2L44, capacities_2L44, heats_2L44, kilograms_2L44, load_2L44, lows_2L44, highs_2L44, rates_2L44, told_2L44, running_2L44, heatBooks_L44, waterBooks_L44 =>
    (if (22000 : Int32) < i7_44 then
    some (i4_44, volume_2L44, share_2L44, heat_2L44, water_2L44, layers_2L44, conductances_2L44, capacities_2L44, heats_2L44, kilograms_2L44, load_2L44, lows_2L44, highs_2L44, rates_2L44, told_2L44, running_2L44, heatBooks_L44, waterBooks_L44)
    else
    (gx_b18 (fn_Room_costOfLevel volume_ share_ heat_ water_ layers_ conductances_ conductances_2L44 capacities_ capacities_2L44 heats_ heats_2L44 kilograms_ load_ lows_ lows_2L44 highs_ highs_2L44 rates_ rates_2L44 told_ told_2L44 running_ running_2L44 heatBooks_L44 waterBooks_L44 size_ amounts_ levels_ i7_44 x1 x2 x3) fun r6 u6_0 u6_1 u6_2 u6_3 u6_4 u6_5 u6_6 u6_7 u6_8 u6_9 u6_10 u6_11 u6_12 u6_13 u6_14 u6_15 u6_16 =>
    (gx_b2 (if 0 ≤ lg_cmp r6 i5_44 then
    some (i4_44, i5_44)
    else
    some (i7_44, r6)) fun j8_0 j8_1 =>
    fn_Room_plan_L44 x1 x2 x3 volume_ share_ heat_ water_ layers_ conductances_ capacities_ heats_ kilograms_ load_ lows_ highs_ rates_ told_ running_ size_ amounts_ levels_ n j8_0 j8_1 (i7_44 + 500) u6_0 u6_1 u6_2 u6_3 u6_4 u6_5 u6_6 u6_7 u6_8 u6_9 u6_10 u6_11 u6_12 u6_13 u6_14 u6_15 u6_16)))
def fn_Room_plan (volume_ : Int32) (share_ : Int32) (heat_ : Int64) (water_ : Int64) (layers_ : Int32) (conductances_ : Nat → Int32) (conductances_2 : Nat → Int32) (capacities_ : Nat → Int32) (capacities_2 : Nat → Int32) (heats_ : Nat → Int64) (heats_2 : Nat → Int64) (kilograms_ : Int32) (load_ : Int64) (lows_ : Nat → Int32) (lows_2 : Nat → Int32) (highs_ : Nat → Int32) (highs_2 : Nat → Int32) (rates_ : Nat → Int32) (rates_2 : Nat → Int32) (told_ : Nat → Int32) (told_2 : Nat → Int32) (running_ : Nat → Int32) (running_2 : Nat → Int32) (heatBooks_ : Nat → Int64) (waterBooks_ : Nat → Int64) (size_ : Int32) (amounts_ : Nat → Int32) (levels_ : Nat → Int32) (x1 : Int32) (x2 : Int32) (x3 : Int32) : Option (Nat ⊕ (Int32 × Int32 × Int32 × Int64 × Int64 × Int32 × (Nat → Int32) × (Nat → Int32) × (Nat → Int64) × Int32 × Int64 × (Nat → Int32) × (Nat → Int32) × (Nat → Int32) × (Nat → Int32) × (Nat → Int32) × (Nat → Int64) × (Nat → Int64))) :=
  (gx_xb (fn_Room_requireWithin x1 (1 : Int32) (24 : Int32))
  (gx_xb (fn_Room_requireWithin x2 (-60000 : Int32) (60000 : Int32))
  (gx_xb (fn_Room_requireWithin x3 (0 : Int32) (60000 : Int32))
  (gx_lift (gx_b18 (fn_Room_costOfLevel volume_ share_ heat_ water_ layers_ conductances_ conductances_2 capacities_ capacities_2 heats_ heats_2 kilograms_ load_ lows_ lows_2 highs_ highs_2 rates_ rates_2 told_ told_2 running_ running_2 heatBooks_ waterBooks_ size_ amounts_ levels_ (18000 : Int32) x1 x2 x3) fun r4 u4_0 u4_1 u4_2 u4_3 u4_4 u4_5 u4_6 u4_7 u4_8 u4_9 u4_10 u4_11 u4_12 u4_13 u4_14 u4_15 u4_16 =>
  fn_Room_plan_L44 x1 x2 x3 volume_ share_ heat_ water_ layers_ conductances_ capacities_ heats_ kilograms_ load_ lows_ highs_ rates_ told_ running_ size_ amounts_ levels_ 400 (18000 : Int32) r4 (18500 : Int32) u4_0 u4_1 u4_2 u4_3 u4_4 u4_5 u4_6 u4_7 u4_8 u4_9 u4_10 u4_11 u4_12 u4_13 u4_14 u4_15 u4_16)))))
def fn_Room_count (hoursGone_ : Int32) (layers_ : Int32) (size_ : Int32) (size_2 : Int32) (checks_ : Int32) (x1 : Int32) : Option (Nat ⊕ (Int32)) :=
  (if x1 = 0 then
  (gx_lift (some hoursGone_))
  else
  (if x1 = 1 then
  (gx_lift (some layers_))
  else
  (if x1 = 2 then
  (gx_lift (some size_))
  else
  (if x1 = 3 then
  (gx_lift (some size_2))
  else
  (if x1 = 4 then
  (gx_lift (some checks_))
  else
  some (.inl 1))))))
def fn_Model_thrown (thrown_ : Int32) : Option (Int32) :=
  some thrown_
def fn_Model_goes (x1 : Int32) (x2 : Int32) (x3 : Int32) : Option (Int32 × Int32) :=
  (gx_b1 (if x1 = 0 then
  some (1 : Int32)
  else
  (gx_b1 (if x2 = 0 then
  some (2 : Int32)
  else
  (gx_b1 (if x3 = 0 then
  some (3 : Int32)
  else
  some (0 : Int32)) fun j6_0 =>
  some j6_0)) fun j4_0 =>
  some j4_0)) fun j2_0 =>
  (gx_b1 (if j2_0 = 0 then
  some (1 : Int32)
  else
  some (0 : Int32)) fun j8_0 =>
  (if gx_bz j8_0 then
  some (j8_0, j2_0)
  else none)))
def fn_Model_within (x0 : Int32) (x1 : Int32) (x2 : Int32) : Option (Int32) :=
  (gx_b1 (if x0 < x1 then
  some (0 : Int32)
  else
  (gx_b1 (if x2 < x0 then
  some (0 : Int32)
  else
  some (1 : Int32)) fun j4_0 =>
  some j4_0)) fun j2_0 =>
  (if gx_bz j2_0 then
  some j2_0
  else none))
def fn_Model_by (x0 : Int64) (x2 : Int64) : Option (Int64) :=
  (if x2 = 0 then none else
  (gx_b1 (if lg_cmp ((x0 / x2) * x2) x0 ≤ 0 then
  some (x0 / x2)
  else
  some ((x0 / x2) - (1 : Int64))) fun j3_0 =>
  some j3_0))
def fn_Model_room (volume_ : Int32) (share_ : Int32) (x1 : Int32) (x2 : Int32) : Option (Int32 × Int32 × Int32) :=
  (gx_b1 (fn_Model_within x1 (1 : Int32) (1000 : Int32)) fun r1 =>
  (gx_b1 (if r1 = 0 then
  some (0 : Int32)
  else
  (gx_b1 (fn_Model_within x2 (0 : Int32) (1000 : Int32)) fun r4 =>
  (gx_b1 (if r4 = 0 then
  some (0 : Int32)
  else
  some (1 : Int32)) fun j6_0 =>
  some j6_0))) fun j3_0 =>
  (gx_b2 (fn_Model_goes j3_0 (1 : Int32) (1 : Int32)) fun r7 u7_0 =>
  (gx_b2 (if r7 = 0 then
  some (volume_, share_)
  else
  some (x1, x2)) fun j9_0 j9_1 =>
  some (u7_0, j9_0, j9_1)))))
def fn_Model_wall (layers_ : Int32) (conductances_ : Nat → Int32) (capacities_ : Nat → Int32) (now_ : Nat → Int64) (x1 : Int32) (x2 : Int32) : Option (Int32 × Int32 × (Nat → Int32) × (Nat → Int32) × (Nat → Int64) × Int32) :=
  (gx_b1 (if (5 : Int32) ≤ layers_ then
  some (0 : Int32)
  else
  some (1 : Int32)) fun j2_0 =>
  (gx_b1 (fn_Model_within x1 (0 : Int32) (100 : Int32)) fun r3 =>
  (gx_b1 (if r3 = 0 then
  some (0 : Int32)
  else
  (gx_b1 (fn_Model_within x2 (1 : Int32) (1000 : Int32)) fun r6 =>
  (gx_b1 (if r6 = 0 then
  some (0 : Int32)
  else
  some (1 : Int32)) fun j8_0 =>
  some j8_0))) fun j5_0 =>
  (gx_b2 (fn_Model_goes j2_0 j5_0 (1 : Int32)) fun r9 u9_0 =>
  (if r9 = 0 then
  some ((0 : Int32), u9_0, conductances_, capacities_, now_, layers_)
  else
  (if gx_ix layers_ 5 then
  (if gx_ix ((3 : Int32) + layers_) 12 then
  some ((layers_ + (1 : Int32)) - (1 : Int32), u9_0, upd conductances_ layers_.toNatClampNeg x1, upd capacities_ layers_.toNatClampNeg x2, vp_updL now_ ((3 : Int32) + layers_).toNatClampNeg ((20000 : Int64) * x2.toInt64), layers_ + (1 : Int32))
  else none)
  else none))))))
def fn_Model_goods (kilograms_ : Int32) (x1 : Int32) : Option (Int32 × Int32 × Int32) :=
  (gx_b1 (fn_Model_within x1 (0 : Int32) (1000 : Int32)) fun r1 =>
  (gx_b2 (fn_Model_goes r1 (1 : Int32) (1 : Int32)) fun r2 u2_0 =>
  (if r2 = 0 then
  some ((0 : Int32), u2_0, kilograms_)
  else
  some (kilograms_, u2_0, x1))))
def fn_Model_row (rows_ : Int32) (rowDamps_ : Nat → Int32) (rowWaters_ : Nat → Int32) (x1 : Int32) (x2 : Int32) : Option (Int32 × Int32 × (Nat → Int32) × (Nat → Int32) × Int32) :=
  (gx_b1 (if rows_ = 0 then
  some (1 : Int32)
  else
  (if gx_ix (rows_ - (1 : Int32)) 6 then
  (gx_b1 (if x1 ≤ (rowDamps_ (rows_ - (1 : Int32)).toNatClampNeg) then
  some (0 : Int32)
  else
  some (1 : Int32)) fun j5_0 =>
  some j5_0)
  else none)) fun j2_0 =>
  (gx_b1 (if (6 : Int32) ≤ rows_ then
  some (0 : Int32)
  else
  some (1 : Int32)) fun j7_0 =>
  (gx_b1 (fn_Model_within x1 (0 : Int32) (60000 : Int32)) fun r8 =>
  (gx_b1 (if r8 = 0 then
  some (0 : Int32)
  else
  (gx_b1 (fn_Model_within x2 (0 : Int32) (10000 : Int32)) fun r11 =>
  (gx_b1 (if r11 = 0 then
  some (0 : Int32)
  else
  (gx_b1 (if j2_0 = 0 then
  some (0 : Int32)
  else
  some (1 : Int32)) fun j15_0 =>
  some j15_0)) fun j13_0 =>
  some j13_0))) fun j10_0 =>
  (gx_b2 (fn_Model_goes j7_0 j10_0 (1 : Int32)) fun r16 u16_0 =>
  (if r16 = 0 then
  some ((0 : Int32), u16_0, rowDamps_, rowWaters_, rows_)
  else
  (if gx_ix rows_ 6 then
  some ((rows_ + (1 : Int32)) - (1 : Int32), u16_0, upd rowDamps_ rows_.toNatClampNeg x1, upd rowWaters_ rows_.toNatClampNeg x2, rows_ + (1 : Int32))
  else none)))))))
def fn_Model_isLevel (x0 : Int32) : Option (Int32) :=
  (gx_b1 (fn_Model_within x0 (-60000 : Int32) (60000 : Int32)) fun r1 =>
  (if gx_bz r1 then
  some r1
  else none))
def fn_Model_machine (told_ : Nat → Int32) (lows_ : Nat → Int32) (highs_ : Nat → Int32) (rates_ : Nat → Int32) (now_ : Nat → Int64) (x1 : Int32) (x2 : Int32) (x3 : Int32) (x4 : Int32) : Option (Int32 × (Nat → Int32) × (Nat → Int32) × (Nat → Int32) × (Nat → Int32) × (Nat → Int64)) :=
  (gx_b1 (fn_Model_within x1 (0 : Int32) (3 : Int32)) fun r1 =>
  (gx_b1 (fn_Model_isLevel x2) fun r2 =>
  (gx_b1 (if r2 = 0 then
  some (0 : Int32)
  else
  (gx_b1 (fn_Model_isLevel x3) fun r5 =>
  (gx_b1 (if r5 = 0 then
  some (0 : Int32)
  else
  (gx_b1 (if x3 < x2 then
  some (0 : Int32)
  else
  (gx_b1 (fn_Model_within x4 (0 : Int32) (100000 : Int32)) fun r10 =>
  (gx_b1 (if r10 = 0 then
  some (0 : Int32)
  else
  some (1 : Int32)) fun j12_0 =>
  some j12_0))) fun j9_0 =>
  some j9_0)) fun j7_0 =>
  some j7_0))) fun j4_0 =>
  (gx_b2 (fn_Model_goes r1 j4_0 (1 : Int32)) fun r13 u13_0 =>
  (gx_b5 (if r13 = 0 then
  some (told_, lows_, highs_, rates_, now_)
  else
  (if gx_ix x1 4 then
  (if gx_ix ((8 : Int32) + x1) 12 then
  some (upd told_ x1.toNatClampNeg (vp_nar .boolean (1 : Int32)), upd lows_ x1.toNatClampNeg x2, upd highs_ x1.toNatClampNeg x3, upd rates_ x1.toNatClampNeg x4, vp_updL now_ ((8 : Int32) + x1).toNatClampNeg (0 : Int64))
  else none)
  else none)) fun j15_0 j15_1 j15_2 j15_3 j15_4 =>
  some (u13_0, j15_0, j15_1, j15_2, j15_3, j15_4))))))
def fn_Model_degreesNow (volume_ : Int32) (now_ : Nat → Int64) : Option (Int64) :=
  (if gx_ix (0 : Int32) 12 then
  (gx_b1 (fn_Model_by (now_ (0 : Int32).toNatClampNeg) volume_.toInt64) fun r2 =>
  some r2)
  else none)
def fn_Model_dampNow (volume_ : Int32) (now_ : Nat → Int64) : Option (Int64) :=
  (if gx_ix (1 : Int32) 12 then
  (gx_b1 (fn_Model_by (now_ (1 : Int32).toNatClampNeg) volume_.toInt64) fun r2 =>
  some r2)
  else none)
def fn_Model_layerNow (now_ : Nat → Int64) (capacities_ : Nat → Int32) (x1 : Int32) : Option (Int64) :=
  (if gx_ix ((3 : Int32) + x1) 12 then
  (if gx_ix x1 5 then
  (gx_b1 (fn_Model_by (now_ ((3 : Int32) + x1).toNatClampNeg) ((capacities_ x1.toNatClampNeg).toInt64)) fun r3 =>
  some r3)
  else none)
  else none)
def fn_Model_change (now_ : Nat → Int64) (books_ : Nat → Int64) (x1 : Int32) (x2 : Int64) (x4 : Int64) : Option ((Nat → Int64) × (Nat → Int64)) :=
  (if gx_ix (0 : Int32) 12 then
  (if gx_ix (1 : Int32) 12 then
  (if gx_ix x1 10 then
  (if gx_ix ((5 : Int32) + x1) 10 then
  some (vp_updL (vp_updL now_ (0 : Int32).toNatClampNeg ((now_ (0 : Int32).toNatClampNeg) + x2)) (1 : Int32).toNatClampNeg (((vp_updL now_ (0 : Int32).toNatClampNeg ((now_ (0 : Int32).toNatClampNeg) + x2)) (1 : Int32).toNatClampNeg) + x4), vp_updL (vp_updL books_ x1.toNatClampNeg ((books_ x1.toNatClampNeg) + x2)) ((5 : Int32) + x1).toNatClampNeg (((vp_updL books_ x1.toNatClampNeg ((books_ x1.toNatClampNeg) + x2)) ((5 : Int32) + x1).toNatClampNeg) + x4))
  else none)
  else none)
  else none)
  else none)
def fn_Model_air (volume_ : Int32) (share_ : Int32) (now_ : Nat → Int64) (books_ : Nat → Int64) (x1 : Int32) (x2 : Int32) : Option ((Nat → Int64) × (Nat → Int64)) :=
  (gx_b1 (fn_Model_degreesNow volume_ now_) fun r1 =>
  (gx_b1 (fn_Model_by ((share_.toInt64 * (x1.toInt64 - r1)) * volume_.toInt64) (1000 : Int64)) fun r2 =>
  (gx_b1 (fn_Model_dampNow volume_ now_) fun r3 =>
  (gx_b1 (fn_Model_by ((share_.toInt64 * (x2.toInt64 - r3)) * volume_.toInt64) (1000 : Int64)) fun r4 =>
  (gx_b2 (fn_Model_change now_ books_ (0 : Int32) r2 r4) fun u5_0 u5_1 =>
  some (u5_0, u5_1))))))
def fn_Model_walls_L2 (x1 : Int32) (layers_ : Int32) (conductances_ : Nat → Int32) (capacities_ : Nat → Int32) (volume_ : Int32) : Nat → Int32 → (Nat → Int64) → (Nat → Int64) → Option ((Nat → Int64) × (Nat → Int64))
  | 0, _, _, _ => none
  | n + 1, i2_2, now_L2, books_L2 =>
    (if layers_ ≤ i2_2 then
    (gx_b2 (if layers_ ≤ 0 then
    some (i2_2, now_L2)
    else
    (if gx_ix ((3 : Int32) + (layers_ - (1 : Int32))) 12 then
    (if gx_ix (layers_ - (1 : Int32)) 5 then
    (gx_b1 (fn_Model_layerNow now_L2 capacities_ (layers_ - (1 : Int32))) fun r6 =>
    (gx_b1 (fn_Model_by (((conductances_ (layers_ - (1 : Int32)).toNatClampNeg).toInt64) * (x1.toInt64 - r6)) (100 : Int64)) fun r7 =>
    some (layers_ - (1 : Int32), vp_updL now_L2 ((3 : Int32) + (layers_ - (1 : Int32))).toNatClampNeg ((now_L2 ((3 : Int32) + (layers_ - (1 : Int32))).toNatClampNeg) + r7))))
    else none)
    else none)) fun j3_0 j3_1 =>
    some (j3_1, books_L2))
    else
    (gx_b1 (if i2_2 = 0 then
    (gx_b1 (fn_Model_degreesNow volume_ now_L2) fun r11 =>
    some r11)
    else
    (gx_b1 (fn_Model_layerNow now_L2 capacities_ (i2_2 - (1 : Int32))) fun r10 =>
    some r10)) fun j9_0 =>
    (if gx_ix i2_2 5 then
    (gx_b1 (fn_Model_layerNow now_L2 capacities_ i2_2) fun r13 =>
    (gx_b1 (fn_Model_by (((conductances_ i2_2.toNatClampNeg).toInt64) * (j9_0 - r13)) (100 : Int64)) fun r14 =>
    (gx_b2 (if i2_2 = 0 then
    (gx_b2 (fn_Model_change now_L2 books_L2 (1 : Int32) ((0 : Int64) - r14) (0 : Int64)) fun u18_0 u18_1 =>
    some (u18_0, u18_1))
    else
    (if gx_ix ((2 : Int32) + i2_2) 12 then
    some (vp_updL now_L2 ((2 : Int32) + i2_2).toNatClampNeg ((now_L2 ((2 : Int32) + i2_2).toNatClampNeg) - r14), books_L2)
    else none)) fun j16_0 j16_1 =>
    (if gx_ix ((3 : Int32) + i2_2) 12 then
    fn_Model_walls_L2 x1 layers_ conductances_ capacities_ volume_ n (i2_2 + 1) (vp_updL j16_0 ((3 : Int32) + i2_2).toNatClampNeg ((j16_0 ((3 : Int32) + i2_2).toNatClampNeg) + r14)) j16_1
    else none))))
    else none)))
def fn_Model_walls (volume_ : Int32) (layers_ : Int32) (now_ : Nat → Int64) (conductances_ : Nat → Int32) (capacities_ : Nat → Int32) (books_ : Nat → Int64) (x1 : Int32) : Option ((Nat → Int64) × (Nat → Int64)) :=
  fn_Model_walls_L2 x1 layers_ conductances_ capacities_ volume_ 400 (0 : Int32) now_ books_
def fn_Model_due_L7 (r1 : Int64) (rows_ : Int32) (kilograms_ : Int32) (rowWaters_ : Nat → Int32) (rowDamps_ : Nat → Int32) : Nat → Int32 → Option (Int64)
  | 0, _ => none
  | n + 1, i3_7 =>
    (if (rows_ - (1 : Int32)) ≤ i3_7 then
    (gx_b1 (if rows_ = 0 then
    some (0 : Int64)
    else
    (if gx_ix i3_7 6 then
    some (kilograms_.toInt64 * ((rowWaters_ i3_7.toNatClampNeg).toInt64))
    else none)) fun j4_0 =>
    some j4_0)
    else
    (if gx_ix i3_7 6 then
    (if 0 ≤ lg_cmp ((rowDamps_ i3_7.toNatClampNeg).toInt64) r1 then
    (gx_b1 (if rows_ = 0 then
    some (0 : Int64)
    else
    some (kilograms_.toInt64 * ((rowWaters_ i3_7.toNatClampNeg).toInt64))) fun j9_0 =>
    some j9_0)
    else
    fn_Model_due_L7 r1 rows_ kilograms_ rowWaters_ rowDamps_ n (i3_7 + 1))
    else none))
def fn_Model_due (volume_ : Int32) (kilograms_ : Int32) (rows_ : Int32) (now_ : Nat → Int64) (rowWaters_ : Nat → Int32) (rowDamps_ : Nat → Int32) : Option (Int64) :=
  (gx_b1 (fn_Model_dampNow volume_ now_) fun r1 =>
  fn_Model_due_L7 r1 rows_ kilograms_ rowWaters_ rowDamps_ 400 (0 : Int32))
def fn_Model_goodsTake (volume_ : Int32) (kilograms_ : Int32) (rows_ : Int32) (now_ : Nat → Int64) (rowWaters_ : Nat → Int32) (rowDamps_ : Nat → Int32) (books_ : Nat → Int64) : Option ((Nat → Int64) × (Nat → Int64)) :=
  (gx_b1 (fn_Model_due volume_ kilograms_ rows_ now_ rowWaters_ rowDamps_) fun r1 =>
  (if gx_ix (2 : Int32) 12 then
  (gx_b1 (fn_Model_by (r1 - (now_ (2 : Int32).toNatClampNeg)) (4 : Int64)) fun r3 =>
  (if gx_ix (1 : Int32) 12 then
  (gx_b1 (if lg_cmp r3 (now_ (1 : Int32).toNatClampNeg) ≤ 0 then
  some r3
  else
  some (now_ (1 : Int32).toNatClampNeg)) fun j6_0 =>
  (gx_b2 (fn_Model_change (vp_updL now_ (2 : Int32).toNatClampNeg ((now_ (2 : Int32).toNatClampNeg) + j6_0)) books_ (2 : Int32) (0 : Int64) ((0 : Int64) - j6_0)) fun u7_0 u7_1 =>
  some (u7_0, u7_1)))
  else none))
  else none))
def fn_Model_works (volume_ : Int32) (now_ : Nat → Int64) (highs_ : Nat → Int32) (lows_ : Nat → Int32) (told_ : Nat → Int32) (rates_ : Nat → Int32) (x1 : Int32) : Option (Int64 × (Nat → Int64)) :=
  (gx_b1 (if (2 : Int32) ≤ x1 then
  (gx_b1 (fn_Model_dampNow volume_ now_) fun r3 =>
  some r3)
  else
  (gx_b1 (fn_Model_degreesNow volume_ now_) fun r4 =>
  some r4)) fun j2_0 =>
  (gx_b1 (if x1 = 0 then
  some (1 : Int32)
  else
  (gx_b1 (if x1 = (2 : Int32) then
  some (1 : Int32)
  else
  some (0 : Int32)) fun j8_0 =>
  some j8_0)) fun j6_0 =>
  (gx_b1 (if j6_0 = 0 then
  (if gx_ix x1 4 then
  (gx_b1 (if lg_cmp j2_0 ((highs_ x1.toNatClampNeg).toInt64) ≤ 0 then
  some (0 : Int32)
  else
  some (1 : Int32)) fun j13_0 =>
  some j13_0)
  else none)
  else
  (if gx_ix x1 4 then
  (gx_b1 (if 0 ≤ lg_cmp j2_0 ((lows_ x1.toNatClampNeg).toInt64) then
  some (0 : Int32)
  else
  some (1 : Int32)) fun j16_0 =>
  some j16_0)
  else none)) fun j10_0 =>
  (gx_b1 (if j6_0 = 0 then
  (if gx_ix x1 4 then
  (gx_b1 (if 0 ≤ lg_cmp j2_0 ((lows_ x1.toNatClampNeg).toInt64) then
  some (0 : Int32)
  else
  some (1 : Int32)) fun j21_0 =>
  some j21_0)
  else none)
  else
  (if gx_ix x1 4 then
  (gx_b1 (if lg_cmp j2_0 ((highs_ x1.toNatClampNeg).toInt64) ≤ 0 then
  some (0 : Int32)
  else
  some (1 : Int32)) fun j24_0 =>
  some j24_0)
  else none)) fun j18_0 =>
  (if gx_ix x1 4 then
  (gx_b1 (if (told_ x1.toNatClampNeg) = 0 then
  some (0 : Int64)
  else
  (gx_b1 (if j10_0 = 0 then
  (gx_b1 (if j18_0 = 0 then
  (if gx_ix ((8 : Int32) + x1) 12 then
  some (now_ ((8 : Int32) + x1).toNatClampNeg)
  else none)
  else
  some (0 : Int64)) fun j31_0 =>
  some j31_0)
  else
  some (1 : Int64)) fun j29_0 =>
  some j29_0)) fun j27_0 =>
  (if gx_ix ((8 : Int32) + x1) 12 then
  (gx_b1 (if x1 = (3 : Int32) then
  (if gx_ix (1 : Int32) 12 then
  (gx_b1 (if lg_cmp (((vp_updL now_ ((8 : Int32) + x1).toNatClampNeg j27_0) ((8 : Int32) + x1).toNatClampNeg) * ((rates_ x1.toNatClampNeg).toInt64)) ((vp_updL now_ ((8 : Int32) + x1).toNatClampNeg j27_0) (1 : Int32).toNatClampNeg) ≤ 0 then
  some (((vp_updL now_ ((8 : Int32) + x1).toNatClampNeg j27_0) ((8 : Int32) + x1).toNatClampNeg) * ((rates_ x1.toNatClampNeg).toInt64))
  else
  some ((vp_updL now_ ((8 : Int32) + x1).toNatClampNeg j27_0) (1 : Int32).toNatClampNeg)) fun j38_0 =>
  some j38_0)
  else none)
  else
  some (((vp_updL now_ ((8 : Int32) + x1).toNatClampNeg j27_0) ((8 : Int32) + x1).toNatClampNeg) * ((rates_ x1.toNatClampNeg).toInt64))) fun j35_0 =>
  some (j35_0, vp_updL now_ ((8 : Int32) + x1).toNatClampNeg j27_0))
  else none))
  else none)))))
def fn_Model_goBy (volume_ : Int32) (share_ : Int32) (layers_ : Int32) (kilograms_ : Int32) (rows_ : Int32) (now_ : Nat → Int64) (books_ : Nat → Int64) (conductances_ : Nat → Int32) (capacities_ : Nat → Int32) (rowWaters_ : Nat → Int32) (rowDamps_ : Nat → Int32) (highs_ : Nat → Int32) (lows_ : Nat → Int32) (told_ : Nat → Int32) (rates_ : Nat → Int32) (x1 : Int32) (x2 : Int32) (x3 : Int32) : Option (Int64 × (Nat → Int64) × (Nat → Int64)) :=
  (gx_b2 (fn_Model_air volume_ share_ now_ books_ x1 x2) fun u1_0 u1_1 =>
  (gx_b2 (fn_Model_walls volume_ layers_ u1_0 conductances_ capacities_ u1_1 x1) fun u2_0 u2_1 =>
  (gx_b2 (fn_Model_goodsTake volume_ kilograms_ rows_ u2_0 rowWaters_ rowDamps_ u2_1) fun u3_0 u3_1 =>
  (gx_b2 (fn_Model_change u3_0 u3_1 (3 : Int32) ((100 : Int64) * x3.toInt64) ((50 : Int64) * x3.toInt64)) fun u4_0 u4_1 =>
  (gx_b2 (fn_Model_works volume_ u4_0 highs_ lows_ told_ rates_ (0 : Int32)) fun r5 u5_0 =>
  (gx_b2 (fn_Model_change u5_0 u4_1 (4 : Int32) r5 (0 : Int64)) fun u6_0 u6_1 =>
  (gx_b2 (fn_Model_works volume_ u6_0 highs_ lows_ told_ rates_ (1 : Int32)) fun r7 u7_0 =>
  (gx_b2 (fn_Model_change u7_0 u6_1 (4 : Int32) ((0 : Int64) - r7) (0 : Int64)) fun u8_0 u8_1 =>
  (gx_b2 (fn_Model_works volume_ u8_0 highs_ lows_ told_ rates_ (2 : Int32)) fun r9 u9_0 =>
  (gx_b2 (fn_Model_change u9_0 u8_1 (4 : Int32) (0 : Int64) r9) fun u10_0 u10_1 =>
  (gx_b2 (fn_Model_works volume_ u10_0 highs_ lows_ told_ rates_ (3 : Int32)) fun r11 u11_0 =>
  (gx_b2 (fn_Model_change u11_0 u10_1 (4 : Int32) (0 : Int64) ((0 : Int64) - r11)) fun u12_0 u12_1 =>
  some (r5, u12_0, u12_1)))))))))))))
def fn_Model_addPoints_L32 (i1_2 : Int32) (sums_L2 : Nat → Int32) (j3_0 : Int64) (riskRows_ : Nat → Int32) (levels_ : Nat → Int32) (pointsOf_ : Nat → Int32) (k2 : Int32 → (Nat → Int32) → Option ((Nat → Int32))) : Nat → Int32 → Int32 → Option ((Nat → Int32))
  | 0, _, _ => none
  | n + 1, i4_32, i5_32 =>
    (if gx_ix i1_2 4 then
    (if (((5 : Int32) * i1_2) + (riskRows_ i1_2.toNatClampNeg)) ≤ i5_32 then
    k2 (i1_2 + 1) (upd sums_L2 i1_2.toNatClampNeg ((sums_L2 i1_2.toNatClampNeg) + i4_32))
    else
    (if gx_ix i5_32 20 then
    (gx_b1 (if 0 < lg_cmp ((levels_ i5_32.toNatClampNeg).toInt64) j3_0 then
    some i4_32
    else
    some (pointsOf_ i5_32.toNatClampNeg)) fun j10_0 =>
    fn_Model_addPoints_L32 i1_2 sums_L2 j3_0 riskRows_ levels_ pointsOf_ k2 n j10_0 (i5_32 + 1))
    else none))
    else none)
def fn_Model_addPoints_L2 (volume_ : Int32) (now_ : Nat → Int64) (riskRows_ : Nat → Int32) (levels_ : Nat → Int32) (pointsOf_ : Nat → Int32) : Nat → Int32 → (Nat → Int32) → Option ((Nat → Int32))
  | 0, _, _ => none
  | n + 1, i1_2, sums_L2 =>
    (if (4 : Int32) ≤ i1_2 then
    some sums_L2
    else
    (gx_b1 (if (2 : Int32) ≤ i1_2 then
    (gx_b1 (fn_Model_degreesNow volume_ now_) fun r4 =>
    some r4)
    else
    (gx_b1 (fn_Model_dampNow volume_ now_) fun r5 =>
    some r5)) fun j3_0 =>
    fn_Model_addPoints_L32 i1_2 sums_L2 j3_0 riskRows_ levels_ pointsOf_ (fn_Model_addPoints_L2 volume_ now_ riskRows_ levels_ pointsOf_ n) 400 (0 : Int32) ((5 : Int32) * i1_2)))
def fn_Model_addPoints (volume_ : Int32) (now_ : Nat → Int64) (riskRows_ : Nat → Int32) (sums_ : Nat → Int32) (levels_ : Nat → Int32) (pointsOf_ : Nat → Int32) : Option ((Nat → Int32)) :=
  fn_Model_addPoints_L2 volume_ now_ riskRows_ levels_ pointsOf_ 400 (0 : Int32) sums_
def fn_Model_ring_L2 (rules_ : Int32) (ruleKinds_ : Nat → Int32) (volume_ : Int32) (now_ : Nat → Int64) (ruleLevels_ : Nat → Int32) (hours_ : Int32) (holds_ : Nat → Int32) : Nat → Int32 → (Nat → Int32) → (Nat → Int32) → Option ((Nat → Int32) × (Nat → Int32))
  | 0, _, _, _ => none
  | n + 1, i1_2, alarmHours_L2, alarms_L2 =>
    (if rules_ ≤ i1_2 then
    some (alarmHours_L2, alarms_L2)
    else
    (if gx_ix i1_2 4 then
    (gx_b1 (if (2 : Int32) ≤ (ruleKinds_ i1_2.toNatClampNeg) then
    (gx_b1 (fn_Model_dampNow volume_ now_) fun r5 =>
    some r5)
    else
    (gx_b1 (fn_Model_degreesNow volume_ now_) fun r6 =>
    some r6)) fun j4_0 =>
    (gx_b1 (if ((ruleKinds_ i1_2.toNatClampNeg) - (ruleKinds_ i1_2.toNatClampNeg) / (2 : Int32) * (2 : Int32)) = 0 then
    (gx_b1 (if lg_cmp j4_0 ((ruleLevels_ i1_2.toNatClampNeg).toInt64) ≤ 0 then
    some (0 : Int32)
    else
    some (1 : Int32)) fun j12_0 =>
    some j12_0)
    else
    (gx_b1 (if 0 ≤ lg_cmp j4_0 ((ruleLevels_ i1_2.toNatClampNeg).toInt64) then
    some (0 : Int32)
    else
    some (1 : Int32)) fun j10_0 =>
    some j10_0)) fun j8_0 =>
    (gx_b1 (if (alarms_L2 i1_2.toNatClampNeg) = 0 then
    some (-1000 : Int32)
    else
    (if gx_ix ((((300 : Int32) * i1_2) + (alarms_L2 i1_2.toNatClampNeg)) - (1 : Int32)) 1200 then
    some (alarmHours_L2 ((((300 : Int32) * i1_2) + (alarms_L2 i1_2.toNatClampNeg)) - (1 : Int32)).toNatClampNeg)
    else none)) fun j14_0 =>
    (gx_b2 (if j8_0 = 0 then
    some (alarmHours_L2, alarms_L2)
    else
    (gx_b2 (if (hours_ - j14_0) < (holds_ i1_2.toNatClampNeg) then
    some (alarmHours_L2, alarms_L2)
    else
    (if gx_ix (((300 : Int32) * i1_2) + (alarms_L2 i1_2.toNatClampNeg)) 1200 then
    some (upd alarmHours_L2 (((300 : Int32) * i1_2) + (alarms_L2 i1_2.toNatClampNeg)).toNatClampNeg hours_, upd alarms_L2 i1_2.toNatClampNeg ((alarms_L2 i1_2.toNatClampNeg) + (1 : Int32)))
    else none)) fun j19_0 j19_1 =>
    some (j19_0, j19_1))) fun j17_0 j17_1 =>
    fn_Model_ring_L2 rules_ ruleKinds_ volume_ now_ ruleLevels_ hours_ holds_ n (i1_2 + 1) j17_0 j17_1))))
    else none))
def fn_Model_ring (volume_ : Int32) (hours_ : Int32) (rules_ : Int32) (ruleKinds_ : Nat → Int32) (now_ : Nat → Int64) (ruleLevels_ : Nat → Int32) (alarms_ : Nat → Int32) (alarmHours_ : Nat → Int32) (holds_ : Nat → Int32) : Option ((Nat → Int32) × (Nat → Int32)) :=
  fn_Model_ring_L2 rules_ ruleKinds_ volume_ now_ ruleLevels_ hours_ holds_ 400 (0 : Int32) alarmHours_ alarms_
def fn_Model_isOutside (x0 : Int32) (x1 : Int32) : Option (Int32) :=
  (gx_b1 (fn_Model_isLevel x0) fun r1 =>
  (gx_b1 (if r1 = 0 then
  some (0 : Int32)
  else
  (gx_b1 (fn_Model_within x1 (0 : Int32) (60000 : Int32)) fun r4 =>
  (gx_b1 (if r4 = 0 then
  some (0 : Int32)
  else
  some (1 : Int32)) fun j6_0 =>
  some j6_0))) fun j3_0 =>
  (if gx_bz j3_0 then
  some j3_0
  else none)))
def fn_Model_hour (volume_ : Int32) (share_ : Int32) (layers_ : Int32) (kilograms_ : Int32) (rows_ : Int32) (hours_ : Int32) (rules_ : Int32) (now_ : Nat → Int64) (books_ : Nat → Int64) (conductances_ : Nat → Int32) (capacities_ : Nat → Int32) (rowWaters_ : Nat → Int32) (rowDamps_ : Nat → Int32) (highs_ : Nat → Int32) (lows_ : Nat → Int32) (told_ : Nat → Int32) (rates_ : Nat → Int32) (riskRows_ : Nat → Int32) (sums_ : Nat → Int32) (levels_ : Nat → Int32) (pointsOf_ : Nat → Int32) (ruleKinds_ : Nat → Int32) (ruleLevels_ : Nat → Int32) (alarms_ : Nat → Int32) (alarmHours_ : Nat → Int32) (holds_ : Nat → Int32) (x1 : Int32) (x2 : Int32) (x3 : Int32) : Option (Int32 × Int32 × (Nat → Int64) × (Nat → Int64) × (Nat → Int32) × (Nat → Int32) × (Nat → Int32) × Int32) :=
  (gx_b1 (if (300 : Int32) ≤ hours_ then
  some (0 : Int32)
  else
  some (1 : Int32)) fun j2_0 =>
  (gx_b1 (fn_Model_isOutside x1 x2) fun r3 =>
  (gx_b1 (if r3 = 0 then
  some (0 : Int32)
  else
  (gx_b1 (fn_Model_within x3 (0 : Int32) (99 : Int32)) fun r6 =>
  (gx_b1 (if r6 = 0 then
  some (0 : Int32)
  else
  some (1 : Int32)) fun j8_0 =>
  some j8_0))) fun j5_0 =>
  (gx_b2 (fn_Model_goes j2_0 j5_0 (1 : Int32)) fun r9 u9_0 =>
  (if r9 = 0 then
  some ((0 : Int32), u9_0, now_, books_, sums_, alarmHours_, alarms_, hours_)
  else
  (gx_b3 (fn_Model_goBy volume_ share_ layers_ kilograms_ rows_ now_ books_ conductances_ capacities_ rowWaters_ rowDamps_ highs_ lows_ told_ rates_ x1 x2 x3) fun r11 u11_0 u11_1 =>
  (gx_b1 (fn_Model_addPoints volume_ u11_0 riskRows_ sums_ levels_ pointsOf_) fun u12_0 =>
  (gx_b2 (fn_Model_ring volume_ hours_ rules_ ruleKinds_ u11_0 ruleLevels_ alarms_ alarmHours_ holds_) fun u13_0 u13_1 =>
  some ((hours_ + (1 : Int32)) - (1 : Int32), u9_0, u11_0, u11_1, u12_0, u13_0, u13_1, hours_ + (1 : Int32))))))))))
def fn_Model_degrees (volume_ : Int32) (now_ : Nat → Int64) : Option (Int32 × Int32) :=
  (gx_b1 (fn_Model_degreesNow volume_ now_) fun r1 =>
  some (r1.toInt32, (0 : Int32)))
def fn_Model_damp (volume_ : Int32) (now_ : Nat → Int64) : Option (Int32 × Int32) :=
  (gx_b1 (fn_Model_dampNow volume_ now_) fun r1 =>
  some (r1.toInt32, (0 : Int32)))
def fn_Model_isLayer (layers_ : Int32) (x1 : Int32) : Option (Int32) :=
  (gx_b1 (fn_Model_within x1 (0 : Int32) (layers_ - (1 : Int32))) fun r1 =>
  (if gx_bz r1 then
  some r1
  else none))
def fn_Model_layer (layers_ : Int32) (now_ : Nat → Int64) (capacities_ : Nat → Int32) (x1 : Int32) : Option (Int32 × Int32) :=
  (gx_b1 (fn_Model_isLayer layers_ x1) fun r1 =>
  (gx_b2 (fn_Model_goes r1 (1 : Int32) (1 : Int32)) fun r2 u2_0 =>
  (gx_b1 (if r2 = 0 then
  some (0 : Int32)
  else
  (gx_b1 (fn_Model_layerNow now_ capacities_ x1) fun r5 =>
  some r5.toInt32)) fun j4_0 =>
  some (j4_0, u2_0))))
def fn_Model_held (now_ : Nat → Int64) : Option (Int32 × Int32) :=
  (if gx_ix (2 : Int32) 12 then
  some ((now_ (2 : Int32).toNatClampNeg).toInt32, (0 : Int32))
  else none)
def fn_Model_on (now_ : Nat → Int64) (x1 : Int32) : Option (Int32 × Int32) :=
  (gx_b1 (fn_Model_within x1 (0 : Int32) (3 : Int32)) fun r1 =>
  (gx_b2 (fn_Model_goes r1 (1 : Int32) (1 : Int32)) fun r2 u2_0 =>
  (gx_b1 (if r2 = 0 then
  some (0 : Int32)
  else
  (if gx_ix ((8 : Int32) + x1) 12 then
  (gx_b1 (if lg_cmp (now_ ((8 : Int32) + x1).toNatClampNeg) (1 : Int64) = 0 then
  some (1 : Int32)
  else
  some (0 : Int32)) fun j7_0 =>
  some j7_0)
  else none)) fun j4_0 =>
  (if gx_bz j4_0 then
  some (j4_0, u2_0)
  else none))))
def fn_Model_book (books_ : Nat → Int64) (now_ : Nat → Int64) (x1 : Int32) (x2 : Int32) : Option (Int64 × Int32) :=
  (gx_b1 (fn_Model_within x1 (-1 : Int32) (4 : Int32)) fun r1 =>
  (gx_b1 (if r1 = 0 then
  some (0 : Int32)
  else
  (gx_b1 (fn_Model_within x2 (0 : Int32) (1 : Int32)) fun r4 =>
  (gx_b1 (if r4 = 0 then
  some (0 : Int32)
  else
  some (1 : Int32)) fun j6_0 =>
  some j6_0))) fun j3_0 =>
  (gx_b2 (fn_Model_goes j3_0 (1 : Int32) (1 : Int32)) fun r7 u7_0 =>
  (if r7 = 0 then
  some ((0 : Int64), u7_0)
  else
  (gx_b1 (if x1 = (-1 : Int32) then
  (if gx_ix x2 12 then
  some (now_ x2.toNatClampNeg)
  else none)
  else
  (if gx_ix (((5 : Int32) * x2) + x1) 10 then
  some (books_ (((5 : Int32) * x2) + x1).toNatClampNeg)
  else none)) fun j10_0 =>
  some (j10_0, u7_0))))))
def fn_Model_dew (volume_ : Int32) (layers_ : Int32) (now_ : Nat → Int64) (capacities_ : Nat → Int32) (x1 : Int32) : Option (Int32 × Int32) :=
  (gx_b1 (fn_Model_isLayer layers_ x1) fun r1 =>
  (gx_b2 (fn_Model_goes r1 (1 : Int32) (1 : Int32)) fun r2 u2_0 =>
  (if r2 = 0 then
  some ((0 : Int32), u2_0)
  else
  (gx_b1 (fn_Model_layerNow now_ capacities_ x1) fun r4 =>
  (gx_b1 (if 0 ≤ lg_cmp r4 (0 : Int64) then
  (gx_b1 (fn_Model_layerNow now_ capacities_ x1) fun r7 =>
  some r7)
  else
  some (0 : Int64)) fun j6_0 =>
  (gx_b1 (fn_Model_dampNow volume_ now_) fun r8 =>
  (gx_b1 (if lg_cmp r8 j6_0 ≤ 0 then
  some (0 : Int32)
  else
  some (1 : Int32)) fun j10_0 =>
  (if gx_bz j10_0 then
  some (j10_0, u2_0)
  else none))))))))
def fn_Model_risk (riskRows_ : Nat → Int32) (levels_ : Nat → Int32) (pointsOf_ : Nat → Int32) (x1 : Int32) (x2 : Int32) (x3 : Int32) : Option (Int32 × Int32 × (Nat → Int32) × (Nat → Int32) × (Nat → Int32)) :=
  (gx_b1 (fn_Model_within x1 (0 : Int32) (3 : Int32)) fun r1 =>
  (gx_b1 (if r1 = 0 then
  some (0 : Int32)
  else
  (if gx_ix x1 4 then
  some (riskRows_ x1.toNatClampNeg)
  else none)) fun j3_0 =>
  (gx_b1 (if j3_0 = 0 then
  some (1 : Int32)
  else
  (if gx_ix ((((5 : Int32) * x1) + j3_0) - (1 : Int32)) 20 then
  (gx_b1 (if x2 ≤ (levels_ ((((5 : Int32) * x1) + j3_0) - (1 : Int32)).toNatClampNeg) then
  some (0 : Int32)
  else
  some (1 : Int32)) fun j9_0 =>
  some j9_0)
  else none)) fun j6_0 =>
  (gx_b1 (if (5 : Int32) ≤ j3_0 then
  some (0 : Int32)
  else
  some (1 : Int32)) fun j11_0 =>
  (gx_b1 (fn_Model_isLevel x2) fun r12 =>
  (gx_b1 (if r12 = 0 then
  some (0 : Int32)
  else
  (gx_b1 (fn_Model_within x3 (0 : Int32) (1000 : Int32)) fun r15 =>
  (gx_b1 (if r15 = 0 then
  some (0 : Int32)
  else
  (gx_b1 (if j6_0 = 0 then
  some (0 : Int32)
  else
  some (1 : Int32)) fun j19_0 =>
  some j19_0)) fun j17_0 =>
  some j17_0))) fun j14_0 =>
  (gx_b2 (fn_Model_goes r1 j11_0 j14_0) fun r20 u20_0 =>
  (if r20 = 0 then
  some ((0 : Int32), u20_0, levels_, pointsOf_, riskRows_)
  else
  (if gx_ix (((5 : Int32) * x1) + j3_0) 20 then
  (if gx_ix x1 4 then
  some (j3_0, u20_0, upd levels_ (((5 : Int32) * x1) + j3_0).toNatClampNeg x2, upd pointsOf_ (((5 : Int32) * x1) + j3_0).toNatClampNeg x3, upd riskRows_ x1.toNatClampNeg ((riskRows_ x1.toNatClampNeg) + (1 : Int32)))
  else none)
  else none)))))))))
def fn_Model_points (sums_ : Nat → Int32) (x1 : Int32) : Option (Int32 × Int32) :=
  (gx_b1 (fn_Model_within x1 (0 : Int32) (3 : Int32)) fun r1 =>
  (gx_b2 (fn_Model_goes r1 (1 : Int32) (1 : Int32)) fun r2 u2_0 =>
  (gx_b1 (if r2 = 0 then
  some (0 : Int32)
  else
  (if gx_ix x1 4 then
  some (sums_ x1.toNatClampNeg)
  else none)) fun j4_0 =>
  some (j4_0, u2_0))))
def fn_Model_rule (rules_ : Int32) (ruleKinds_ : Nat → Int32) (ruleLevels_ : Nat → Int32) (holds_ : Nat → Int32) (x1 : Int32) (x2 : Int32) (x3 : Int32) : Option (Int32 × Int32 × (Nat → Int32) × (Nat → Int32) × (Nat → Int32) × Int32) :=
  (gx_b1 (if (4 : Int32) ≤ rules_ then
  some (0 : Int32)
  else
  some (1 : Int32)) fun j2_0 =>
  (gx_b1 (fn_Model_within x1 (0 : Int32) (3 : Int32)) fun r3 =>
  (gx_b1 (if r3 = 0 then
  some (0 : Int32)
  else
  (gx_b1 (fn_Model_isLevel x2) fun r6 =>
  (gx_b1 (if r6 = 0 then
  some (0 : Int32)
  else
  (gx_b1 (fn_Model_within x3 (1 : Int32) (99 : Int32)) fun r9 =>
  (gx_b1 (if r9 = 0 then
  some (0 : Int32)
  else
  some (1 : Int32)) fun j11_0 =>
  some j11_0))) fun j8_0 =>
  some j8_0))) fun j5_0 =>
  (gx_b2 (fn_Model_goes j2_0 j5_0 (1 : Int32)) fun r12 u12_0 =>
  (if r12 = 0 then
  some ((0 : Int32), u12_0, ruleKinds_, ruleLevels_, holds_, rules_)
  else
  (if gx_ix rules_ 4 then
  some ((rules_ + (1 : Int32)) - (1 : Int32), u12_0, upd ruleKinds_ rules_.toNatClampNeg x1, upd ruleLevels_ rules_.toNatClampNeg x2, upd holds_ rules_.toNatClampNeg x3, rules_ + (1 : Int32))
  else none))))))
def fn_Model_alarm (rules_ : Int32) (alarms_ : Nat → Int32) (alarmHours_ : Nat → Int32) (x1 : Int32) (x2 : Int32) : Option (Int32 × Int32) :=
  (gx_b1 (fn_Model_within x1 (0 : Int32) (rules_ - (1 : Int32))) fun r1 =>
  (gx_b1 (if r1 = 0 then
  some (0 : Int32)
  else
  (gx_b1 (if x2 < (-1 : Int32) then
  some (0 : Int32)
  else
  some (1 : Int32)) fun j5_0 =>
  some j5_0)) fun j3_0 =>
  (gx_b2 (fn_Model_goes j3_0 (1 : Int32) (1 : Int32)) fun r6 u6_0 =>
  (if r6 = 0 then
  some ((0 : Int32), u6_0)
  else
  (gx_b1 (if x2 = (-1 : Int32) then
  (if gx_ix x1 4 then
  some (alarms_ x1.toNatClampNeg)
  else none)
  else
  (if gx_ix x1 4 then
  (gx_b1 (if (alarms_ x1.toNatClampNeg) ≤ x2 then
  some (-1 : Int32)
  else
  (if gx_ix (((300 : Int32) * x1) + x2) 1200 then
  some (alarmHours_ (((300 : Int32) * x1) + x2).toNatClampNeg)
  else none)) fun j12_0 =>
  some j12_0)
  else none)) fun j9_0 =>
  some (j9_0, u6_0))))))
def fn_Model_wasHour (hours_ : Int32) (x1 : Int32) : Option (Int32) :=
  (gx_b1 (fn_Model_within x1 (0 : Int32) (hours_ - (1 : Int32))) fun r1 =>
  (if gx_bz r1 then
  some r1
  else none))
def fn_Model_sensor (hours_ : Int32) (values_ : Nat → Int32) (x1 : Int32) (x2 : Int32) : Option (Int32 × (Nat → Int32)) :=
  (gx_b1 (fn_Model_wasHour hours_ x1) fun r1 =>
  (gx_b1 (fn_Model_within x2 (-100000 : Int32) (100000 : Int32)) fun r2 =>
  (gx_b2 (fn_Model_goes r1 r2 (1 : Int32)) fun r3 u3_0 =>
  (gx_b1 (if r3 = 0 then
  some values_
  else
  (if gx_ix x1 300 then
  some (upd values_ x1.toNatClampNeg x2)
  else none)) fun j5_0 =>
  some (u3_0, j5_0)))))
def fn_Model_check (hours_ : Int32) (values_ : Nat → Int32) (checked_ : Nat → Int32) (rights_ : Nat → Int32) (x1 : Int32) (x2 : Int32) : Option (Int32 × (Nat → Int32) × (Nat → Int32)) :=
  (gx_b1 (fn_Model_wasHour hours_ x1) fun r1 =>
  (gx_b1 (if r1 = 0 then
  some (0 : Int32)
  else
  (if gx_ix x1 300 then
  (gx_b1 (if (values_ x1.toNatClampNeg) = (-200000 : Int32) then
  some (0 : Int32)
  else
  some (1 : Int32)) fun j6_0 =>
  some j6_0)
  else none)) fun j3_0 =>
  (gx_b1 (fn_Model_within x2 (-100000 : Int32) (100000 : Int32)) fun r7 =>
  (gx_b2 (fn_Model_goes r1 j3_0 r7) fun r8 u8_0 =>
  (gx_b2 (if r8 = 0 then
  some (checked_, rights_)
  else
  (if gx_ix x1 300 then
  some (upd checked_ x1.toNatClampNeg (vp_nar .boolean (1 : Int32)), upd rights_ x1.toNatClampNeg x2)
  else none)) fun j10_0 j10_1 =>
  some (u8_0, j10_0, j10_1))))))
def fn_Model_corrected_L37 (x1 : Int32) (hours_ : Int32) (u2_0 : Int32) (values_ : Nat → Int32) (rights_ : Nat → Int32) (checked_ : Nat → Int32) : Nat → Int32 → Int32 → Int32 → Option (Int32 × Int32)
  | 0, _, _, _ => none
  | n + 1, i2_37, i3_37, i4_37 =>
    (if hours_ ≤ i4_37 then
    (if i2_37 = (-1 : Int32) then
    (if i3_37 = (-1 : Int32) then
    (if gx_ix x1 300 then
    some (values_ x1.toNatClampNeg, u2_0)
    else none)
    else
    (if gx_ix i3_37 300 then
    (gx_b1 (if i3_37 = i3_37 then
    some (0 : Int64)
    else
    (gx_b1 (fn_Model_by (((((rights_ i3_37.toNatClampNeg) - (values_ i3_37.toNatClampNeg)).toInt64) - (((rights_ i3_37.toNatClampNeg) - (values_ i3_37.toNatClampNeg)).toInt64)) * ((x1 - i3_37).toInt64)) ((i3_37 - i3_37).toInt64)) fun r23 =>
    some r23)) fun j22_0 =>
    (if gx_ix x1 300 then
    some ((values_ x1.toNatClampNeg) + (((((rights_ i3_37.toNatClampNeg) - (values_ i3_37.toNatClampNeg)).toInt64) + j22_0).toInt32), u2_0)
    else none))
    else none))
    else
    (gx_b1 (if i3_37 = (-1 : Int32) then
    some i2_37
    else
    some i3_37) fun j10_0 =>
    (if gx_ix i2_37 300 then
    (if gx_ix j10_0 300 then
    (gx_b1 (if i2_37 = j10_0 then
    some (0 : Int64)
    else
    (gx_b1 (fn_Model_by (((((rights_ j10_0.toNatClampNeg) - (values_ j10_0.toNatClampNeg)).toInt64) - (((rights_ i2_37.toNatClampNeg) - (values_ i2_37.toNatClampNeg)).toInt64)) * ((x1 - i2_37).toInt64)) ((j10_0 - i2_37).toInt64)) fun r15 =>
    some r15)) fun j14_0 =>
    (if gx_ix x1 300 then
    some ((values_ x1.toNatClampNeg) + (((((rights_ i2_37.toNatClampNeg) - (values_ i2_37.toNatClampNeg)).toInt64) + j14_0).toInt32), u2_0)
    else none))
    else none)
    else none)))
    else
    (if gx_ix i4_37 300 then
    (gx_b1 (if (checked_ i4_37.toNatClampNeg) = 0 then
    some i2_37
    else
    (gx_b1 (if x1 < i4_37 then
    some i2_37
    else
    some i4_37) fun j30_0 =>
    some j30_0)) fun j28_0 =>
    (gx_b1 (if (checked_ i4_37.toNatClampNeg) = 0 then
    some i3_37
    else
    (gx_b1 (if i4_37 < x1 then
    some i3_37
    else
    (gx_b1 (if i3_37 = (-1 : Int32) then
    some i4_37
    else
    some i3_37) fun j36_0 =>
    some j36_0)) fun j34_0 =>
    some j34_0)) fun j32_0 =>
    fn_Model_corrected_L37 x1 hours_ u2_0 values_ rights_ checked_ n j28_0 j32_0 (i4_37 + 1)))
    else none))
def fn_Model_corrected (hours_ : Int32) (values_ : Nat → Int32) (checked_ : Nat → Int32) (rights_ : Nat → Int32) (x1 : Int32) : Option (Int32 × Int32) :=
  (gx_b1 (fn_Model_wasHour hours_ x1) fun r1 =>
  (gx_b2 (fn_Model_goes r1 (1 : Int32) (1 : Int32)) fun r2 u2_0 =>
  (if r2 = 0 then
  some ((0 : Int32), u2_0)
  else
  (if gx_ix x1 300 then
  (if (values_ x1.toNatClampNeg) = (-200000 : Int32) then
  some ((-200000 : Int32), u2_0)
  else
  fn_Model_corrected_L37 x1 hours_ u2_0 values_ rights_ checked_ 400 (-1 : Int32) (-1 : Int32) (0 : Int32))
  else none))))
def fn_Model_silent_L26 (hours_ : Int32) (u2_0 : Int32) (values_ : Nat → Int32) : Nat → Int32 → Int32 → Int32 → Int32 → Option (Int32 × Int32)
  | 0, _, _, _, _ => none
  | n + 1, i2_26, i3_26, i4_26, i5_26 =>
    (if hours_ ≤ i5_26 then
    some (i2_26, u2_0)
    else
    (if gx_ix i5_26 300 then
    (gx_b1 (if (values_ i5_26.toNatClampNeg) = (-200000 : Int32) then
    some (i4_26 + (1 : Int32))
    else
    some (0 : Int32)) fun j7_0 =>
    (gx_b1 (if j7_0 ≤ i3_26 then
    some i2_26
    else
    some ((i5_26 - j7_0) + (1 : Int32))) fun j9_0 =>
    (gx_b1 (if j7_0 ≤ i3_26 then
    some i3_26
    else
    some j7_0) fun j11_0 =>
    fn_Model_silent_L26 hours_ u2_0 values_ n j9_0 j11_0 j7_0 (i5_26 + 1))))
    else none))
def fn_Model_silent (hours_ : Int32) (values_ : Nat → Int32) (x1 : Int32) : Option (Int32 × Int32) :=
  (gx_b1 (fn_Model_wasHour hours_ x1) fun r1 =>
  (gx_b2 (fn_Model_goes r1 (1 : Int32) (1 : Int32)) fun r2 u2_0 =>
  (if r2 = 0 then
  some ((0 : Int32), u2_0)
  else
  fn_Model_silent_L26 hours_ u2_0 values_ 400 (-1 : Int32) (0 : Int32) (0 : Int32) x1)))
def fn_Model_tried_L62 (x1 : Int32) (x2 : Int32) (x3 : Int32) (x4 : Int32) (lows_ : Nat → Int32) (highs_ : Nat → Int32) (volume_ : Int32) (share_ : Int32) (layers_ : Int32) (kilograms_ : Int32) (rows_ : Int32) (conductances_ : Nat → Int32) (capacities_ : Nat → Int32) (rowWaters_ : Nat → Int32) (rowDamps_ : Nat → Int32) (told_ : Nat → Int32) (rates_ : Nat → Int32) : Nat → Int64 → Int32 → (Nat → Int64) → (Nat → Int64) → Option (Int64 × (Nat → Int64) × (Nat → Int32) × (Nat → Int32) × (Nat → Int64))
  | 0, _, _, _, _ => none
  | n + 1, i5_62, i7_62, now_L62, books_L62 =>
    (if x2 ≤ i7_62 then
    some (i5_62, now_L62, upd lows_ (0 : Int32).toNatClampNeg x1, upd highs_ (0 : Int32).toNatClampNeg (x1 + (500 : Int32)), books_L62)
    else
    (gx_b3 (fn_Model_goBy volume_ share_ layers_ kilograms_ rows_ now_L62 books_L62 conductances_ capacities_ rowWaters_ rowDamps_ (upd highs_ (0 : Int32).toNatClampNeg (x1 + (500 : Int32))) (upd lows_ (0 : Int32).toNatClampNeg x1) told_ rates_ x3 x4 (0 : Int32)) fun r5 u5_0 u5_1 =>
    (gx_b1 (fn_Model_degreesNow volume_ u5_0) fun r6 =>
    (gx_b1 (if 0 ≤ lg_cmp r6 (18000 : Int64) then
    (gx_b1 (if lg_cmp r6 (22000 : Int64) ≤ 0 then
    some (0 : Int64)
    else
    some ((100 : Int64) * (r6 - (22000 : Int64)))) fun j10_0 =>
    some j10_0)
    else
    some ((100 : Int64) * ((18000 : Int64) - r6))) fun j8_0 =>
    fn_Model_tried_L62 x1 x2 x3 x4 lows_ highs_ volume_ share_ layers_ kilograms_ rows_ conductances_ capacities_ rowWaters_ rowDamps_ told_ rates_ n ((i5_62 + r5) + j8_0) (i7_62 + 1) u5_0 u5_1))))
def fn_Model_tried_L3 (x1 : Int32) (x2 : Int32) (x3 : Int32) (x4 : Int32) (lows_ : Nat → Int32) (highs_ : Nat → Int32) (books_ : Nat → Int64) (volume_ : Int32) (share_ : Int32) (layers_ : Int32) (kilograms_ : Int32) (rows_ : Int32) (conductances_ : Nat → Int32) (capacities_ : Nat → Int32) (rowWaters_ : Nat → Int32) (rowDamps_ : Nat → Int32) (told_ : Nat → Int32) (rates_ : Nat → Int32) (kept_ : Nat → Int64) : Nat → Int32 → (Nat → Int64) → Option (Int64 × (Nat → Int64) × (Nat → Int32) × (Nat → Int32) × (Nat → Int64))
  | 0, _, _ => none
  | n + 1, i5_3, now_L3 =>
    (if (12 : Int32) ≤ i5_3 then
    (if gx_ix (0 : Int32) 4 then
    (if gx_ix (8 : Int32) 12 then
    fn_Model_tried_L62 x1 x2 x3 x4 lows_ highs_ volume_ share_ layers_ kilograms_ rows_ conductances_ capacities_ rowWaters_ rowDamps_ told_ rates_ 400 (0 : Int64) (0 : Int32) (vp_updL now_L3 (8 : Int32).toNatClampNeg (0 : Int64)) books_
    else none)
    else none)
    else
    (if gx_ix i5_3 12 then
    fn_Model_tried_L3 x1 x2 x3 x4 lows_ highs_ books_ volume_ share_ layers_ kilograms_ rows_ conductances_ capacities_ rowWaters_ rowDamps_ told_ rates_ kept_ n (i5_3 + 1) (vp_updL now_L3 i5_3.toNatClampNeg (kept_ i5_3.toNatClampNeg))
    else none))
def fn_Model_tried (volume_ : Int32) (share_ : Int32) (layers_ : Int32) (kilograms_ : Int32) (rows_ : Int32) (kept_ : Nat → Int64) (now_ : Nat → Int64) (lows_ : Nat → Int32) (highs_ : Nat → Int32) (books_ : Nat → Int64) (conductances_ : Nat → Int32) (capacities_ : Nat → Int32) (rowWaters_ : Nat → Int32) (rowDamps_ : Nat → Int32) (told_ : Nat → Int32) (rates_ : Nat → Int32) (x1 : Int32) (x2 : Int32) (x3 : Int32) (x4 : Int32) : Option (Int64 × (Nat → Int64) × (Nat → Int32) × (Nat → Int32) × (Nat → Int64)) :=
  fn_Model_tried_L3 x1 x2 x3 x4 lows_ highs_ books_ volume_ share_ layers_ kilograms_ rows_ conductances_ capacities_ rowWaters_ rowDamps_ told_ rates_ kept_ 400 (0 : Int32) now_
def fn_Model_plan_L273 (told_ : Nat → Int32) (rates_ : Nat → Int32) (lows_ : Nat → Int32) (highs_ : Nat → Int32) (u7_0 : Int32) (kept_L37 : Nat → Int64) (keptBooks_L67 : Nat → Int64) (j13_0 : Int32) (i8_163 : Int32) (lows_L163 : Nat → Int32) (highs_L163 : Nat → Int32) (now_L243 : Nat → Int64) : Nat → Int32 → (Nat → Int64) → Option (Int32 × Int32 × (Nat → Int64) × (Nat → Int64) × (Nat → Int32) × (Nat → Int32) × (Nat → Int64) × (Nat → Int32) × (Nat → Int32) × (Nat → Int64))
  | 0, _, _ => none
  | n + 1, i11_273, books_L273 =>
    (if (10 : Int32) ≤ i11_273 then
    (if gx_ix (0 : Int32) 4 then
    some (i8_163, u7_0, kept_L37, keptBooks_L67, upd (upd told_ (0 : Int32).toNatClampNeg (vp_nar .boolean (1 : Int32))) (0 : Int32).toNatClampNeg (vp_nar .boolean (told_ (0 : Int32).toNatClampNeg)), upd (upd rates_ (0 : Int32).toNatClampNeg j13_0) (0 : Int32).toNatClampNeg (rates_ (0 : Int32).toNatClampNeg), now_L243, upd lows_L163 (0 : Int32).toNatClampNeg (lows_ (0 : Int32).toNatClampNeg), upd highs_L163 (0 : Int32).toNatClampNeg (highs_ (0 : Int32).toNatClampNeg), books_L273)
    else none)
    else
    (if gx_ix i11_273 10 then
    fn_Model_plan_L273 told_ rates_ lows_ highs_ u7_0 kept_L37 keptBooks_L67 j13_0 i8_163 lows_L163 highs_L163 now_L243 n (i11_273 + 1) (vp_updL books_L273 i11_273.toNatClampNeg (keptBooks_L67 i11_273.toNatClampNeg))
    else none))
def fn_Model_plan_L243 (told_ : Nat → Int32) (rates_ : Nat → Int32) (lows_ : Nat → Int32) (highs_ : Nat → Int32) (u7_0 : Int32) (kept_L37 : Nat → Int64) (keptBooks_L67 : Nat → Int64) (j13_0 : Int32) (i8_163 : Int32) (lows_L163 : Nat → Int32) (highs_L163 : Nat → Int32) (books_L163 : Nat → Int64) : Nat → Int32 → (Nat → Int64) → Option (Int32 × Int32 × (Nat → Int64) × (Nat → Int64) × (Nat → Int32) × (Nat → Int32) × (Nat → Int64) × (Nat → Int32) × (Nat → Int32) × (Nat → Int64))
  | 0, _, _ => none
  | n + 1, i11_243, now_L243 =>
    (if (12 : Int32) ≤ i11_243 then
    fn_Model_plan_L273 told_ rates_ lows_ highs_ u7_0 kept_L37 keptBooks_L67 j13_0 i8_163 lows_L163 highs_L163 now_L243 400 (0 : Int32) books_L163
    else
    (if gx_ix i11_243 12 then
    fn_Model_plan_L243 told_ rates_ lows_ highs_ u7_0 kept_L37 keptBooks_L67 j13_0 i8_163 lows_L163 highs_L163 books_L163 n (i11_243 + 1) (vp_updL now_L243 i11_243.toNatClampNeg (kept_L37 i11_243.toNatClampNeg))
    else none))
def fn_Model_plan_L163 (x1 : Int32) (x2 : Int32) (x3 : Int32) (told_ : Nat → Int32) (rates_ : Nat → Int32) (lows_ : Nat → Int32) (highs_ : Nat → Int32) (u7_0 : Int32) (kept_L37 : Nat → Int64) (keptBooks_L67 : Nat → Int64) (j13_0 : Int32) (volume_ : Int32) (share_ : Int32) (layers_ : Int32) (kilograms_ : Int32) (rows_ : Int32) (conductances_ : Nat → Int32) (capacities_ : Nat → Int32) (rowWaters_ : Nat → Int32) (rowDamps_ : Nat → Int32) : Nat → Int32 → Int64 → Int32 → (Nat → Int64) → (Nat → Int32) → (Nat → Int32) → (Nat → Int64) → Option (Int32 × Int32 × (Nat → Int64) × (Nat → Int64) × (Nat → Int32) × (Nat → Int32) × (Nat → Int64) × (Nat → Int32) × (Nat → Int32) × (Nat → Int64))
  | 0, _, _, _, _, _, _, _ => none
  | n + 1, i8_163, i9_163, i11_163, now_L163, lows_L163, highs_L163, books_L163 =>
    (if (22000 : Int32) < i11_163 then
    fn_Model_plan_L243 told_ rates_ lows_ highs_ u7_0 kept_L37 keptBooks_L67 j13_0 i8_163 lows_L163 highs_L163 books_L163 400 (0 : Int32) now_L163
    else
    (gx_b5 (fn_Model_tried volume_ share_ layers_ kilograms_ rows_ kept_L37 now_L163 lows_L163 highs_L163 books_L163 conductances_ capacities_ rowWaters_ rowDamps_ (upd told_ (0 : Int32).toNatClampNeg (vp_nar .boolean (1 : Int32))) (upd rates_ (0 : Int32).toNatClampNeg j13_0) i11_163 x1 x2 x3) fun r20 u20_0 u20_1 u20_2 u20_3 =>
    (gx_b1 (if i8_163 = (-1 : Int32) then
    some (1 : Int32)
    else
    (gx_b1 (if 0 ≤ lg_cmp r20 i9_163 then
    some (0 : Int32)
    else
    some (1 : Int32)) fun j24_0 =>
    some j24_0)) fun j22_0 =>
    (gx_b1 (if j22_0 = 0 then
    some i9_163
    else
    some r20) fun j26_0 =>
    (gx_b1 (if j22_0 = 0 then
    some i8_163
    else
    some i11_163) fun j28_0 =>
    fn_Model_plan_L163 x1 x2 x3 told_ rates_ lows_ highs_ u7_0 kept_L37 keptBooks_L67 j13_0 volume_ share_ layers_ kilograms_ rows_ conductances_ capacities_ rowWaters_ rowDamps_ n j28_0 j26_0 (i11_163 + 500) u20_0 u20_1 u20_2 u20_3)))))
def fn_Model_plan_L67 (x1 : Int32) (x2 : Int32) (x3 : Int32) (told_ : Nat → Int32) (rates_ : Nat → Int32) (now_ : Nat → Int64) (lows_ : Nat → Int32) (highs_ : Nat → Int32) (books_ : Nat → Int64) (u7_0 : Int32) (kept_L37 : Nat → Int64) (volume_ : Int32) (share_ : Int32) (layers_ : Int32) (kilograms_ : Int32) (rows_ : Int32) (conductances_ : Nat → Int32) (capacities_ : Nat → Int32) (rowWaters_ : Nat → Int32) (rowDamps_ : Nat → Int32) : Nat → Int32 → (Nat → Int64) → Option (Int32 × Int32 × (Nat → Int64) × (Nat → Int64) × (Nat → Int32) × (Nat → Int32) × (Nat → Int64) × (Nat → Int32) × (Nat → Int32) × (Nat → Int64))
  | 0, _, _ => none
  | n + 1, i4_67, keptBooks_L67 =>
    (if (10 : Int32) ≤ i4_67 then
    (if gx_ix (0 : Int32) 4 then
    (gx_b1 (if (told_ (0 : Int32).toNatClampNeg) = 0 then
    some (5000 : Int32)
    else
    some (rates_ (0 : Int32).toNatClampNeg)) fun j13_0 =>
    fn_Model_plan_L163 x1 x2 x3 told_ rates_ lows_ highs_ u7_0 kept_L37 keptBooks_L67 j13_0 volume_ share_ layers_ kilograms_ rows_ conductances_ capacities_ rowWaters_ rowDamps_ 400 (-1 : Int32) (0 : Int64) (18000 : Int32) now_ lows_ highs_ books_)
    else none)
    else
    (if gx_ix i4_67 10 then
    fn_Model_plan_L67 x1 x2 x3 told_ rates_ now_ lows_ highs_ books_ u7_0 kept_L37 volume_ share_ layers_ kilograms_ rows_ conductances_ capacities_ rowWaters_ rowDamps_ n (i4_67 + 1) (vp_updL keptBooks_L67 i4_67.toNatClampNeg (books_ i4_67.toNatClampNeg))
    else none))
def fn_Model_plan_L37 (x1 : Int32) (x2 : Int32) (x3 : Int32) (keptBooks_ : Nat → Int64) (told_ : Nat → Int32) (rates_ : Nat → Int32) (now_ : Nat → Int64) (lows_ : Nat → Int32) (highs_ : Nat → Int32) (books_ : Nat → Int64) (u7_0 : Int32) (volume_ : Int32) (share_ : Int32) (layers_ : Int32) (kilograms_ : Int32) (rows_ : Int32) (conductances_ : Nat → Int32) (capacities_ : Nat → Int32) (rowWaters_ : Nat → Int32) (rowDamps_ : Nat → Int32) : Nat → Int32 → (Nat → Int64) → Option (Int32 × Int32 × (Nat → Int64) × (Nat → Int64) × (Nat → Int32) × (Nat → Int32) × (Nat → Int64) × (Nat → Int32) × (Nat → Int32) × (Nat → Int64))
  | 0, _, _ => none
  | n + 1, i4_37, kept_L37 =>
    (if (12 : Int32) ≤ i4_37 then
    fn_Model_plan_L67 x1 x2 x3 told_ rates_ now_ lows_ highs_ books_ u7_0 kept_L37 volume_ share_ layers_ kilograms_ rows_ conductances_ capacities_ rowWaters_ rowDamps_ 400 (0 : Int32) keptBooks_
    else
    (if gx_ix i4_37 12 then
    fn_Model_plan_L37 x1 x2 x3 keptBooks_ told_ rates_ now_ lows_ highs_ books_ u7_0 volume_ share_ layers_ kilograms_ rows_ conductances_ capacities_ rowWaters_ rowDamps_ n (i4_37 + 1) (vp_updL kept_L37 i4_37.toNatClampNeg (now_ i4_37.toNatClampNeg))
    else none))
def fn_Model_plan (volume_ : Int32) (share_ : Int32) (layers_ : Int32) (kilograms_ : Int32) (rows_ : Int32) (now_ : Nat → Int64) (kept_ : Nat → Int64) (books_ : Nat → Int64) (keptBooks_ : Nat → Int64) (told_ : Nat → Int32) (lows_ : Nat → Int32) (highs_ : Nat → Int32) (rates_ : Nat → Int32) (conductances_ : Nat → Int32) (capacities_ : Nat → Int32) (rowWaters_ : Nat → Int32) (rowDamps_ : Nat → Int32) (x1 : Int32) (x2 : Int32) (x3 : Int32) : Option (Int32 × Int32 × (Nat → Int64) × (Nat → Int64) × (Nat → Int32) × (Nat → Int32) × (Nat → Int64) × (Nat → Int32) × (Nat → Int32) × (Nat → Int64)) :=
  (gx_b1 (fn_Model_within x1 (1 : Int32) (24 : Int32)) fun r1 =>
  (gx_b1 (if r1 = 0 then
  some (0 : Int32)
  else
  (gx_b1 (fn_Model_isOutside x2 x3) fun r4 =>
  (gx_b1 (if r4 = 0 then
  some (0 : Int32)
  else
  some (1 : Int32)) fun j6_0 =>
  some j6_0))) fun j3_0 =>
  (gx_b2 (fn_Model_goes j3_0 (1 : Int32) (1 : Int32)) fun r7 u7_0 =>
  (if r7 = 0 then
  some ((0 : Int32), u7_0, kept_, keptBooks_, told_, rates_, now_, lows_, highs_, books_)
  else
  fn_Model_plan_L37 x1 x2 x3 keptBooks_ told_ rates_ now_ lows_ highs_ books_ u7_0 volume_ share_ layers_ kilograms_ rows_ conductances_ capacities_ rowWaters_ rowDamps_ 400 (0 : Int32) kept_))))
def fn_Model_count_L21 (x1 : Int32) (u2_0 : Int32) (hours_ : Int32) (rules_ : Int32) (rows_ : Int32) (layers_ : Int32) (checked_ : Nat → Int32) : Nat → Int32 → Int32 → Option (Int32 × Int32)
  | 0, _, _ => none
  | n + 1, i2_21, i3_21 =>
    (if hours_ ≤ i3_21 then
    (gx_b1 (if x1 = 0 then
    some hours_
    else
    (gx_b1 (if x1 = (1 : Int32) then
    some layers_
    else
    (gx_b1 (if x1 = (2 : Int32) then
    some rows_
    else
    (gx_b1 (if x1 = (3 : Int32) then
    some rules_
    else
    some i2_21) fun j12_0 =>
    some j12_0)) fun j10_0 =>
    some j10_0)) fun j8_0 =>
    some j8_0)) fun j6_0 =>
    some (j6_0, u2_0))
    else
    (if gx_ix i3_21 300 then
    (gx_b1 (if (checked_ i3_21.toNatClampNeg) = 0 then
    some i2_21
    else
    some (i2_21 + (1 : Int32))) fun j15_0 =>
    fn_Model_count_L21 x1 u2_0 hours_ rules_ rows_ layers_ checked_ n j15_0 (i3_21 + 1))
    else none))
def fn_Model_count (layers_ : Int32) (rows_ : Int32) (hours_ : Int32) (rules_ : Int32) (checked_ : Nat → Int32) (x1 : Int32) : Option (Int32 × Int32) :=
  (gx_b1 (fn_Model_within x1 (0 : Int32) (4 : Int32)) fun r1 =>
  (gx_b2 (fn_Model_goes r1 (1 : Int32) (1 : Int32)) fun r2 u2_0 =>
  (if r2 = 0 then
  some ((0 : Int32), u2_0)
  else
  fn_Model_count_L21 x1 u2_0 hours_ rules_ rows_ layers_ checked_ 400 (0 : Int32) (0 : Int32))))
