def pu_refm (volume_ : Int32) (now_ books_ : Nat → Int64) (highs_ lows_ told_ rates_ : Nat → Int32) : Option (Int64 × (Nat → Int64) × (Nat → Int64)) :=
  (gx_b2 (fn_Model_works volume_ now_ highs_ lows_ told_ rates_ (0 : Int32)) fun r5 u5_0 =>
  (gx_b2 (fn_Model_change u5_0 books_ (4 : Int32) r5 (0 : Int64)) fun u6_0 u6_1 =>
  (gx_b2 (fn_Model_works volume_ u6_0 highs_ lows_ told_ rates_ (1 : Int32)) fun r7 u7_0 =>
  (gx_b2 (fn_Model_change u7_0 u6_1 (4 : Int32) ((0 : Int64) - r7) (0 : Int64)) fun u8_0 u8_1 =>
  (gx_b2 (fn_Model_works volume_ u8_0 highs_ lows_ told_ rates_ (2 : Int32)) fun r9 u9_0 =>
  (gx_b2 (fn_Model_change u9_0 u8_1 (4 : Int32) (0 : Int64) r9) fun u10_0 u10_1 =>
  (gx_b2 (fn_Model_works volume_ u10_0 highs_ lows_ told_ rates_ (3 : Int32)) fun r11 u11_0 =>
  (gx_b2 (fn_Model_change u11_0 u10_1 (4 : Int32) (0 : Int64) ((0 : Int64) - r11)) fun u12_0 u12_1 =>
  some (r5, u12_0, u12_1)))))))))
theorem pu_goBy (volume_ : Int32) (share_ : Int32) (layers_ : Int32) (kilograms_ : Int32) (rows_ : Int32) (now_ : Nat → Int64) (books_ : Nat → Int64) (conductances_ : Nat → Int32) (capacities_ : Nat → Int32) (rowWaters_ : Nat → Int32) (rowDamps_ : Nat → Int32) (highs_ : Nat → Int32) (lows_ : Nat → Int32) (told_ : Nat → Int32) (rates_ : Nat → Int32) (x1 : Int32) (x2 : Int32) (x3 : Int32) : fn_Model_goBy volume_ share_ layers_ kilograms_ rows_ now_ books_ conductances_ capacities_ rowWaters_ rowDamps_ highs_ lows_ told_ rates_ x1 x2 x3 =
  (gx_b2 (fn_Model_air volume_ share_ now_ books_ x1 x2) fun u1_0 u1_1 =>
  (gx_b2 (fn_Model_walls volume_ layers_ u1_0 conductances_ capacities_ u1_1 x1) fun u2_0 u2_1 =>
  (gx_b2 (fn_Model_goodsTake volume_ kilograms_ rows_ u2_0 rowWaters_ rowDamps_ u2_1) fun u3_0 u3_1 =>
  (gx_b2 (fn_Model_change u3_0 u3_1 (3 : Int32) ((100 : Int64) * x3.toInt64) ((50 : Int64) * x3.toInt64)) fun u4_0 u4_1 =>
  pu_refm volume_ u4_0 u4_1 highs_ lows_ told_ rates_)))) := rfl
theorem pu_out0 (ru ra : Nat → Int32) : fn_Machines_output ru ra (0 : Int32) = some (if ru 0 = 0 then 0 else ra 0) := pu_out (by decide) (by decide)
theorem pu_out1 (ru ra : Nat → Int32) : fn_Machines_output ru ra (1 : Int32) = some (if ru 1 = 0 then 0 else ra 1) := pu_out (by decide) (by decide)
theorem pu_out2 (ru ra : Nat → Int32) : fn_Machines_output ru ra (2 : Int32) = some (if ru 2 = 0 then 0 else ra 2) := pu_out (by decide) (by decide)
theorem pu_out3 (ru ra : Nat → Int32) : fn_Machines_output ru ra (3 : Int32) = some (if ru 3 = 0 then 0 else ra 3) := pu_out (by decide) (by decide)
theorem pu_yb {lo hi ra to ru ru' : Nat → Int32} (hM : pu_Mok lo hi ra to ru) {k : Nat} (hk : k < 4) : 0 ≤ (if ru' k = 0 then (0 : Int32) else ra k).toInt ∧ (if ru' k = 0 then (0 : Int32) else ra k).toInt ≤ 100000 := by
  by_cases c : ru' k = 0
  · rw [if_pos c]
    exact ⟨by decide, by decide⟩
  · rw [if_neg c]
    exact (hM k hk).2.2.2
theorem pu_mwork {h w q : Int64} {F : Nat → Int64} {ru : Nat → Int32} {now : Nat → Int64} {lo hi ra to : Nat → Int32} {v : Int32} (hv : 0 < v.toInt) (hN : pu_Rnow h w q F ru now) (hM : pu_Mok lo hi ra to ru) (bk hb wb : Nat → Int64) : ∃ ru' h' hb' w' wb' now' bk', fn_Machines_work v h w to lo hi ru ra hb wb = some (ru', h', hb', w', wb') ∧ pu_refm v now bk hi lo to ra = some ((if ru' 0 = 0 then (0 : Int32) else ra 0).toInt64, now', bk') ∧ pu_Rnow h' w' q F ru' now' ∧ pu_Mok lo hi ra to ru' ∧ (pu_Rbook hb wb bk → pu_Rbook hb' wb' bk') := by
  obtain ⟨r0, a1, a2, a3, a4, a5⟩ := pu_wk0 hv hN hM
  obtain ⟨a6, a7⟩ := pu_setru hN hM (k := 0) (by decide) a3 a4 a5
  rw [pu_on a3] at a2
  obtain ⟨n0, k0, a8, a9, a10⟩ := pu_chH a6 bk (k := 4) (by decide) (by decide) (if r0 0 = 0 then (0 : Int32) else ra 0).toInt64
  obtain ⟨r1, b1, b2, b3, b4, b5⟩ := pu_wk1 hv a9 a7
  obtain ⟨b6, b7⟩ := pu_setru a9 a7 (k := 1) (by decide) b3 b4 b5
  rw [pu_on b3] at b2
  obtain ⟨n1, k1, b8, b9, b10⟩ := pu_chH b6 k0 (k := 4) (by decide) (by decide) (0 - (if r1 1 = 0 then (0 : Int32) else ra 1).toInt64)
  obtain ⟨r2, c1, c2, c3, c4, c5⟩ := pu_wk2 hv b9 b7
  obtain ⟨c6, c7⟩ := pu_setru b9 b7 (k := 2) (by decide) c3 c4 c5
  rw [pu_on c3] at c2
  obtain ⟨n2, k2, c8, c9, c10⟩ := pu_chW c6 k1 (k := 4) (by decide) (by decide) (if r2 2 = 0 then (0 : Int32) else ra 2).toInt64
  obtain ⟨r3, d1, d2, d3, d4, d5⟩ := pu_wk3 hv c9 c7
  obtain ⟨d6, d7⟩ := pu_setru c9 c7 (k := 3) (by decide) d3 d4 d5
  rw [pu_on d3, pu_min] at d2
  obtain ⟨n3, k3, d8, d9, d10⟩ := pu_chW d6 k2 (k := 4) (by decide) (by decide) (0 - (if w + (if r2 2 = 0 then (0 : Int32) else ra 2).toInt64 < (if r3 3 = 0 then (0 : Int32) else ra 3).toInt64 then w + (if r2 2 = 0 then (0 : Int32) else ra 2).toInt64 else (if r3 3 = 0 then (0 : Int32) else ra 3).toInt64))
  have e0 : r3 0 = r0 0 := by
    rw [d5 0 (by decide), c5 0 (by decide), b5 0 (by decide)]
  have yb := pu_yb (ru' := r1) hM (k := 1) (by decide)
  have ny := pu_neg yb.1 yb.2
  refine ⟨r3, _, _, _, _, n3, k3, ?_, ?_, d9, d7, fun hB => d10 _ _ (c10 _ _ (b10 _ _ (a10 _ _ hB)))⟩
  · simp only [fn_Machines_work, pu_warm hv, pu_mois hv, pu_b1, pu_b2, a1, pu_out0, fn_Interior_gainHeat, fn_Interior_gainWater, if_pos pu_g4, b1, pu_out1, ny, c1, pu_out2, d1, pu_out3, Int64.zero_sub]
  · simp only [pu_refm, a2, pu_b2, a8, b2, b8, c2, c8, d2, d8, e0]
theorem pu_pass {v s n g m : Int32} {c d lev am lo hi ra to : Nat → Int32} (hv : 0 < v.toInt) (hn0 : 0 ≤ n.toInt) (hn5 : n.toInt ≤ 5) (hd : ∀ k : Nat, (k : Int) < n.toInt → 0 < (d k).toInt) (hm0 : 0 ≤ m.toInt) (hm6 : m.toInt ≤ 6) (x1 x2 x3 : Int32) {h w q : Int64} {F : Nat → Int64} {ru : Nat → Int32} {now : Nat → Int64} (hN : pu_Rnow h w q F ru now) (hM : pu_Mok lo hi ra to ru) (hb wb bk : Nat → Int64) : ∃ h' hb' w' wb' F' q' ru' now' bk', fn_House_pass v s h w hb wb n F c d g q m am lev to lo hi ru ra 6 x1 x2 x3 = some (h', hb', w', wb', F', q', ru') ∧ fn_Model_goBy v s n g m now bk c d am lev hi lo to ra x1 x2 x3 = some ((if ru' 0 = 0 then (0 : Int32) else ra 0).toInt64, now', bk') ∧ pu_Rnow h' w' q' F' ru' now' ∧ pu_Mok lo hi ra to ru' ∧ (pu_Rbook hb wb bk → pu_Rbook hb' wb' bk') := by
  have z : (0 : Int32).toInt = 0 := rfl
  obtain ⟨h1, hb1, w1, wb1, n1, k1, a1, a2, a3, a4⟩ := pu_air hN bk hb wb hv s x1 x2
  obtain ⟨F2, h2, hb2, n2, k2, b1, b2, b3, b4⟩ := pu_walls (c := c) hv hn5 hd x1 n.toInt.toNat 400 (by omega) 0 F h1 hb1 n1 k1 (by omega) (by omega) a3
  obtain ⟨q3, w3, wb3, n3, k3, c1, c2, c3, c4⟩ := pu_soak (g := g) (lev := lev) (am := am) hv hm0 hm6 b3 k2 wb1
  obtain ⟨n4, k4, d1, d2, d3⟩ := pu_chg c3 k3 (k := 3) (by decide) (by decide) (100 * x3.toInt64) (50 * x3.toInt64)
  obtain ⟨ru5, h5, hb5, w5, wb5, n5, k5, e1, e2, e3, e4, e5⟩ := pu_mwork hv d2 hM k4 (vp_updL hb2 (3 : Int32).toNatClampNeg (hb2 (3 : Int32).toNatClampNeg + 100 * x3.toInt64)) (vp_updL wb3 (3 : Int32).toNatClampNeg (wb3 (3 : Int32).toNatClampNeg + 50 * x3.toInt64))
  refine ⟨h5, hb5, w5, wb5, F2, q3, ru5, n5, k5, ?_, ?_, e3, e4, fun hB => e5 (d3 _ _ (c4 _ (b4 _ (a4 hB))))⟩
  · simp only [fn_House_pass, a1, pu_b4, fn_Walls_conduct, b1, pu_b3, c1, fn_Interior_receive, fn_Interior_gainHeat, fn_Interior_gainWater, if_pos pu_g3, pu_b2, e1, pu_b5]
  · simp only [pu_goBy, a2, pu_b2, fn_Model_walls, b2, c2, d1, e2]
