theorem pu_b1 {α β : Type} (x : β) (k : β → Option α) : gx_b1 (some x) k = k x := rfl
theorem pu_b2 {α β1 β2 : Type} (x : β1) (y : β2) (k : β1 → β2 → Option α) : gx_b2 (some (x, y)) k = k x y := rfl
theorem pu_b3 {α β1 β2 β3 : Type} (x : β1) (y : β2) (z : β3) (k : β1 → β2 → β3 → Option α) : gx_b3 (some (x, y, z)) k = k x y z := rfl
theorem pu_b4 {α β1 β2 β3 β4 : Type} (x : β1) (y : β2) (z : β3) (t : β4) (k : β1 → β2 → β3 → β4 → Option α) : gx_b4 (some (x, y, z, t)) k = k x y z t := rfl
theorem pu_b5 {α β1 β2 β3 β4 β5 : Type} (x : β1) (y : β2) (z : β3) (t : β4) (u : β5) (k : β1 → β2 → β3 → β4 → β5 → Option α) : gx_b5 (some (x, y, z, t, u)) k = k x y z t u := rfl
theorem pu_g0 : gx_ix (0 : Int32) 5 = true := by decide
theorem pu_g1 : gx_ix (1 : Int32) 5 = true := by decide
theorem pu_g2 : gx_ix (2 : Int32) 5 = true := by decide
theorem pu_g3 : gx_ix (3 : Int32) 5 = true := by decide
theorem pu_g4 : gx_ix (4 : Int32) 5 = true := by decide
theorem pu_1000 : 0 < (1000 : Int64).toInt := by decide
theorem pu_100 : 0 < (100 : Int64).toInt := by decide
theorem pu_4 : 0 < (4 : Int64).toInt := by decide
theorem pu_chg {h w g : Int64} {F : Nat → Int64} {ru : Nat → Int32} {now : Nat → Int64} (hn : pu_Rnow h w g F ru now) (bk : Nat → Int64) {k : Int32} (h0 : 0 ≤ k.toInt) (h5 : k.toInt < 5) (dh dw : Int64) : ∃ now' bk', fn_Model_change now bk k dh dw = some (now', bk') ∧ pu_Rnow (h + dh) (w + dw) g F ru now' ∧ ∀ hb wb, pu_Rbook hb wb bk → pu_Rbook (vp_updL hb k.toNatClampNeg (hb k.toNatClampNeg + dh)) (vp_updL wb k.toNatClampNeg (wb k.toNatClampNeg + dw)) bk' := by
  have e := pu_a3 (k := k) (n := 5) 5 rfl (by omega) h0 (by omega)
  have t : k.toNatClampNeg = k.toInt.toNat := rfl
  have i1 : gx_ix k 10 = true := pu_ix h0 (by omega)
  have i2 : gx_ix (5 + k) 10 = true := pu_ix (by omega) (by omega)
  obtain ⟨n0, n1, n2, n3, n4⟩ := hn
  unfold fn_Model_change
  rw [if_pos pu_i0, if_pos pu_i1, if_pos i1, if_pos i2]
  refine ⟨_, _, rfl, ⟨?_, ?_, ?_, ?_, ?_⟩, ?_⟩
  · show vp_updL (vp_updL now 0 (now 0 + dh)) 1 _ 0 = _
    rw [pk_uLn (by decide), pk_uLs, n0]
  · show vp_updL (vp_updL now 0 _) 1 (vp_updL now 0 _ 1 + dw) 1 = _
    rw [pk_uLs, pk_uLn (by decide), n1]
  · show vp_updL (vp_updL now 0 _) 1 _ 2 = _
    rw [pk_uLn (by decide), pk_uLn (by decide), n2]
  · intro j hj
    show vp_updL (vp_updL now 0 _) 1 _ (3 + j) = _
    rw [pk_uLn (by omega), pk_uLn (by omega), n3 j hj]
  · intro j hj
    show vp_updL (vp_updL now 0 _) 1 _ (8 + j) = _
    rw [pk_uLn (by omega), pk_uLn (by omega), n4 j hj]
  · intro hb wb hB j hj
    rw [e.2]
    constructor
    · rw [pk_uLn (by omega)]
      by_cases hq : j = k.toNatClampNeg
      · rw [hq, pk_uLs, pk_uLs, (hB _ (by omega)).1]
      · rw [pk_uLn hq, pk_uLn hq, (hB j hj).1]
    · by_cases hq : j = k.toNatClampNeg
      · rw [hq, pk_uLs, pk_uLs, pk_uLn (by omega), (hB _ (by omega)).2]
      · rw [pk_uLn (by omega), pk_uLn (by omega), pk_uLn hq, (hB j hj).2]
theorem pu_upd0 (f : Nat → Int64) (k : Nat) : vp_updL f k (f k + 0) = f := by
  funext j
  by_cases hq : j = k
  · rw [hq, pk_uLs, Int64.add_zero]
  · rw [pk_uLn hq]
theorem pu_air {h w g : Int64} {F : Nat → Int64} {ru : Nat → Int32} {now : Nat → Int64} (hn : pu_Rnow h w g F ru now) (bk hb wb : Nat → Int64) {v : Int32} (hv : 0 < v.toInt) (s x1 x2 : Int32) : ∃ h' hb' w' wb' now' bk', fn_Interior_exchangeAir v s h w hb wb x1 x2 = some (h', hb', w', wb') ∧ fn_Model_air v s now bk x1 x2 = some (now', bk') ∧ pu_Rnow h' w' g F ru now' ∧ (pu_Rbook hb wb bk → pu_Rbook hb' wb' bk') := by
  obtain ⟨now', bk', e, en, eb⟩ := pu_chg hn bk (k := 0) (by decide) (by decide) (pu_by (s.toInt64 * (x1.toInt64 - pu_by h v.toInt64) * v.toInt64) 1000) (pu_by (s.toInt64 * (x2.toInt64 - pu_by w v.toInt64) * v.toInt64) 1000)
  refine ⟨_, _, _, _, now', bk', ?_, ?_, en, fun hB => eb hb wb hB⟩
  · simp only [fn_Interior_exchangeAir, fn_Interior_gainHeat, fn_Interior_gainWater, pu_warm hv, pu_mois hv, pu_rby _ pu_1000, pu_b1, pu_b2, if_pos pu_g0]
  · simp only [fn_Model_air, pu_mdeg hv, pu_mdam hv, pu_mby _ pu_1000, pu_b1, hn.1, hn.2.1, e, pu_b2]
theorem pu_nF {h w g : Int64} {F : Nat → Int64} {ru : Nat → Int32} {now : Nat → Int64} (hn : pu_Rnow h w g F ru now) (k : Nat) (hk : k < 5) (x : Int64) : pu_Rnow h w g (vp_updL F k x) ru (vp_updL now (3 + k) x) := by
  obtain ⟨n0, n1, n2, n3, n4⟩ := hn
  refine ⟨?_, ?_, ?_, ?_, ?_⟩
  · rw [pk_uLn (by omega), n0]
  · rw [pk_uLn (by omega), n1]
  · rw [pk_uLn (by omega), n2]
  · intro j hj
    by_cases hq : j = k
    · rw [hq, pk_uLs, pk_uLs]
    · rw [pk_uLn (by omega), pk_uLn hq, n3 j hj]
  · intro j hj
    rw [pk_uLn (by omega), n4 j hj]
