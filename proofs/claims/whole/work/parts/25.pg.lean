theorem pu_due {n g : Int32} {f m : Nat → Int32} (hn0 : 0 ≤ n.toInt) (hn6 : n.toInt ≤ 6) (x : Int64) : ∃ y, fn_Steps_amountUpTo n m f 6 x = some y ∧ fn_Model_due_L7 x n g m f 400 (0 : Int32) = some (g.toInt64 * y.toInt64) := by
  by_cases hz : n.toInt = 0
  · have e : n = 0 := Int32.toInt_inj.1 hz
    subst e
    refine ⟨0, rfl, ?_⟩
    rw [show (0 : Int32).toInt64 = 0 from rfl, Int64.mul_zero]
    rfl
  · have z : (0 : Int32).toInt = 0 := rfl
    exact pu_amt hn6 g x (n.toInt.toNat - 1) 400 (by omega) 0 (by omega) (by omega)
theorem pu_chH {h w g : Int64} {F : Nat → Int64} {ru : Nat → Int32} {now : Nat → Int64} (hn : pu_Rnow h w g F ru now) (bk : Nat → Int64) {k : Int32} (h0 : 0 ≤ k.toInt) (h5 : k.toInt < 5) (dh : Int64) : ∃ now' bk', fn_Model_change now bk k dh 0 = some (now', bk') ∧ pu_Rnow (h + dh) w g F ru now' ∧ ∀ hb wb, pu_Rbook hb wb bk → pu_Rbook (vp_updL hb k.toNatClampNeg (hb k.toNatClampNeg + dh)) wb bk' := by
  obtain ⟨now', bk', a, b, c⟩ := pu_chg hn bk h0 h5 dh 0
  rw [Int64.add_zero] at b
  refine ⟨now', bk', a, b, fun hb wb hB => ?_⟩
  have q := c hb wb hB
  rw [pu_upd0] at q
  exact q
theorem pu_chW {h w g : Int64} {F : Nat → Int64} {ru : Nat → Int32} {now : Nat → Int64} (hn : pu_Rnow h w g F ru now) (bk : Nat → Int64) {k : Int32} (h0 : 0 ≤ k.toInt) (h5 : k.toInt < 5) (dw : Int64) : ∃ now' bk', fn_Model_change now bk k 0 dw = some (now', bk') ∧ pu_Rnow h (w + dw) g F ru now' ∧ ∀ hb wb, pu_Rbook hb wb bk → pu_Rbook hb (vp_updL wb k.toNatClampNeg (wb k.toNatClampNeg + dw)) bk' := by
  obtain ⟨now', bk', a, b, c⟩ := pu_chg hn bk h0 h5 0 dw
  rw [Int64.add_zero] at b
  refine ⟨now', bk', a, b, fun hb wb hB => ?_⟩
  have q := c hb wb hB
  rw [pu_upd0] at q
  exact q
theorem pu_nG {h w g : Int64} {F : Nat → Int64} {ru : Nat → Int32} {now : Nat → Int64} (hn : pu_Rnow h w g F ru now) (y : Int64) : pu_Rnow h w y F ru (vp_updL now 2 y) := by
  obtain ⟨n0, n1, n2, n3, n4⟩ := hn
  refine ⟨?_, ?_, pk_uLs, ?_, ?_⟩
  · rw [pk_uLn (by decide), n0]
  · rw [pk_uLn (by decide), n1]
  · intro j hj
    rw [pk_uLn (by omega), n3 j hj]
  · intro j hj
    rw [pk_uLn (by omega), n4 j hj]
theorem pu_min (x y : Int64) : (if x ≤ y then x else y) = (if y < x then y else x) := by
  by_cases c : x ≤ y
  · rw [if_pos c, if_neg (Int64.not_lt.2 c)]
  · rw [if_neg c, if_pos (Int64.not_le.1 c)]
theorem pu_neg {y : Int32} (h0 : 0 ≤ y.toInt) (h1 : y.toInt ≤ 100000) : (-y).toInt64 = 0 - y.toInt64 := by
  apply Int64.toInt_inj.1
  have e1 : (-y).toInt = -y.toInt := by
    rw [Int32.toInt_neg]
    exact Int.bmod_eq_of_le_mul_two (by omega) (by omega)
  rw [Int64.zero_sub, Int64.toInt_neg, Int32.toInt_toInt64, Int32.toInt_toInt64, e1]
  exact (Int.bmod_eq_of_le_mul_two (by omega) (by omega)).symm
theorem pu_soak {h w q : Int64} {F : Nat → Int64} {ru : Nat → Int32} {now : Nat → Int64} {v g m : Int32} {lev am : Nat → Int32} (hv : 0 < v.toInt) (hm0 : 0 ≤ m.toInt) (hm6 : m.toInt ≤ 6) (hN : pu_Rnow h w q F ru now) (bk wb : Nat → Int64) : ∃ q' w' wb' now' bk', fn_Goods_soak g q v w m am lev wb 6 = some (q', w', wb') ∧ fn_Model_goodsTake v g m now am lev bk = some (now', bk') ∧ pu_Rnow h w' q' F ru now' ∧ ∀ hb, pu_Rbook hb wb bk → pu_Rbook hb wb' bk' := by
  obtain ⟨y, y1, y2⟩ := pu_due (g := g) (f := lev) (m := am) hm0 hm6 (pu_by w v.toInt64)
  obtain ⟨now', bk', c1, c2, c3⟩ := pu_chW (pu_nG hN (q + (if w < pu_by (g.toInt64 * y.toInt64 - q) 4 then w else pu_by (g.toInt64 * y.toInt64 - q) 4))) bk (k := 2) (by decide) (by decide) (0 - (if w < pu_by (g.toInt64 * y.toInt64 - q) 4 then w else pu_by (g.toInt64 * y.toInt64 - q) 4))
  refine ⟨q + (if w < pu_by (g.toInt64 * y.toInt64 - q) 4 then w else pu_by (g.toInt64 * y.toInt64 - q) 4), w + -(if w < pu_by (g.toInt64 * y.toInt64 - q) 4 then w else pu_by (g.toInt64 * y.toInt64 - q) 4), vp_updL wb (2 : Int32).toNatClampNeg (wb (2 : Int32).toNatClampNeg + -(if w < pu_by (g.toInt64 * y.toInt64 - q) 4 then w else pu_by (g.toInt64 * y.toInt64 - q) 4)), now', bk', ?_, ?_, ?_, ?_⟩
  · simp only [fn_Goods_soak, pu_mois hv, pu_b1, y1, pu_rby _ pu_4, fn_Interior_gainWater, if_pos pu_g2, pu_b2]
  · have k1 : now (1 : Int32).toNatClampNeg = w := hN.2.1
    have k2 : now (2 : Int32).toNatClampNeg = q := hN.2.2.1
    have k3 : ∀ x z : Int64, gx_b1 (if lg_cmp x z ≤ 0 then some x else some z) (fun j => gx_b2 (fn_Model_change (vp_updL now (2 : Int32).toNatClampNeg (q + j)) bk 2 0 (0 - j)) fun a b => some (a, b)) = gx_b2 (fn_Model_change (vp_updL now (2 : Int32).toNatClampNeg (q + (if z < x then z else x))) bk 2 0 (0 - (if z < x then z else x))) fun a b => some (a, b) := by
      intro x z
      by_cases c : x ≤ z
      · rw [if_pos ((lg_cmp_le _ _).2 c), if_neg (Int64.not_lt.2 c)]
        rfl
      · rw [if_neg (fun hh => c ((lg_cmp_le _ _).1 hh)), if_pos (Int64.not_le.1 c)]
        rfl
    have c1' : fn_Model_change (vp_updL now (2 : Int32).toNatClampNeg (q + (if w < pu_by (g.toInt64 * y.toInt64 - q) 4 then w else pu_by (g.toInt64 * y.toInt64 - q) 4))) bk 2 0 (0 - (if w < pu_by (g.toInt64 * y.toInt64 - q) 4 then w else pu_by (g.toInt64 * y.toInt64 - q) 4)) = some (now', bk') := c1
    simp only [fn_Model_goodsTake, fn_Model_due, pu_mdam hv, hN.2.1, pu_b1, y2, if_pos pu_i1, if_pos pu_i2, k1, k2, pu_mby _ pu_4, k3, c1', pu_b2]
  · rw [Int64.zero_sub] at c2
    exact c2
  · intro hb hB
    have c4 := c3 hb wb hB
    rw [Int64.zero_sub] at c4
    exact c4
