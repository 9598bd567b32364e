theorem ps_room {I : Nat → Int32} {J : Nat → Int64} {A : Nat → Nat → Int32} {L : Nat → Nat → Int64} {i : Nat → Int32} {a : Nat → Nat → Int32} {l9 : Nat → Nat → Int64} (h : pu_Rel I J A L i a l9) (o : Nat → Int64) (x1 x2 : Int32) : st_room pu_Rel I J A L i a l9 o x1 x2 := by
  obtain ⟨h1, h2, h3, h4, h5, h6, h7, h8, h9, h10, h11, h12, h13, h14, h15, h16, h17⟩ := h
  unfold st_room
  by_cases c1 : (1 : Int32) ≤ x1 ∧ x1 ≤ 1000
  · by_cases c2 : (0 : Int32) ≤ x2 ∧ x2 ≤ 1000
    · refine Or.inl ⟨x1, x2, 0, x1, x2, ?_, ?_, rfl, trivial, ?_⟩
      · simp only [fn_Law_room, fn_Room_room, pu_rin, if_pos c1, if_pos c2]
        rfl
      · simp only [fn_Model_room, pu_mw, if_pos c1, if_pos c2]
        rfl
      · exact ⟨⟨rfl, rfl, Int32.le_iff_toInt_le.1 c1.1, Int32.le_iff_toInt_le.1 c1.2⟩, h2, h3, h4, h5, h6, h7, h8, h9, h10, h11, h12, h13, h14, h15, h16, h17⟩
    · refine Or.inr ⟨1, i 1, i 2, ?_, ?_, rfl, ⟨h1, h2, h3, h4, h5, h6, h7, h8, h9, h10, h11, h12, h13, h14, h15, h16, h17⟩⟩
      · simp only [fn_Room_room, pu_rin, if_pos c1, if_neg c2]
        rfl
      · simp only [fn_Model_room, pu_mw, if_pos c1, if_neg c2]
        rfl
  · refine Or.inr ⟨1, i 1, i 2, ?_, ?_, rfl, ⟨h1, h2, h3, h4, h5, h6, h7, h8, h9, h10, h11, h12, h13, h14, h15, h16, h17⟩⟩
    · simp only [fn_Room_room, pu_rin, if_neg c1]
      rfl
    · simp only [fn_Model_room, pu_mw, if_neg c1]
      rfl
theorem ps_goods {I : Nat → Int32} {J : Nat → Int64} {A : Nat → Nat → Int32} {L : Nat → Nat → Int64} {i : Nat → Int32} {a : Nat → Nat → Int32} {l9 : Nat → Nat → Int64} (h : pu_Rel I J A L i a l9) (o : Nat → Int64) (x1 : Int32) : st_goods pu_Rel I J A L i a l9 o x1 := by
  obtain ⟨h1, h2, h3, h4, h5, h6, h7, h8, h9, h10, h11, h12, h13, h14, h15, h16, h17⟩ := h
  unfold st_goods
  have e4 := h3.1
  by_cases c1 : (0 : Int32) ≤ x1 ∧ x1 ≤ 1000
  · refine Or.inl ⟨x1, vp_updL o (0 : Int32).toNatClampNeg (I 4).toInt64, I 4, 0, x1, ?_, ?_, rfl, (lg_cmp_eq _ _).2 pk_uLs, ?_⟩
    · simp only [fn_Law_goods, fn_Room_goods, pu_rin, if_pos c1]
      rfl
    · simp only [fn_Model_goods, e4, pu_mw, if_pos c1]
      rfl
    · exact ⟨h1, h2, ⟨rfl, h3.2⟩, h4, h5, h6, h7, h8, h9, h10, h11, h12, h13, h14, h15, h16, h17⟩
  · refine Or.inr ⟨0, 1, i 4, ?_, ?_, rfl, ⟨h1, h2, h3, h4, h5, h6, h7, h8, h9, h10, h11, h12, h13, h14, h15, h16, h17⟩⟩
    · simp only [fn_Room_goods, pu_rin, if_neg c1]
      rfl
    · simp only [fn_Model_goods, pu_mw, if_neg c1]
      rfl
theorem ps_wall {I : Nat → Int32} {J : Nat → Int64} {A : Nat → Nat → Int32} {L : Nat → Nat → Int64} {i : Nat → Int32} {a : Nat → Nat → Int32} {l9 : Nat → Nat → Int64} (h : pu_Rel I J A L i a l9) (o : Nat → Int64) (x1 x2 : Int32) : st_wall pu_Rel I J A L i a l9 o x1 x2 := by
  obtain ⟨h1, h2, h3, h4, h5, h6, h7, h8, h9, h10, h11, h12, h13, h14, h15, h16, h17⟩ := h
  unfold st_wall
  obtain ⟨e1, e2, e3, b0, b5, bc⟩ := h2
  have h2 : pu_Rwall (I 3) (A 0) (A 1) (i 3) (a 0) (a 1) := ⟨e1, e2, e3, b0, b5, bc⟩
  by_cases c1 : I 3 < 5
  · have n1 : ¬ (5 : Int32) ≤ I 3 := Int32.not_le.2 c1
    by_cases c2 : (0 : Int32) ≤ x1 ∧ x1 ≤ 100
    · by_cases c3 : (1 : Int32) ≤ x2 ∧ x2 ≤ 1000
      · have d1 : (I 3).toInt < 5 := Int32.lt_iff_toInt_lt.1 c1
        have d0 := pu_a3 (k := I 3) (n := 3) 3 rfl (by omega) b0 (by omega)
        have ix : gx_ix (I 3) 5 = true := pu_ix b0 (by omega)
        have ix2 : gx_ix (3 + I 3) 12 = true := pu_ix (by omega) (by omega)
        have t : (I 3).toNatClampNeg = (I 3).toInt.toNat := rfl
        have s1 : (I 3 + 1).toInt = (I 3).toInt + 1 := pu_add (by have z : (1 : Int32).toInt = 1 := rfl
                                                                  omega) (by have z : (1 : Int32).toInt = 1 := rfl
                                                                             omega)
        refine Or.inl ⟨upd (A 0) (I 3).toNatClampNeg x1, upd (A 1) (I 3).toNatClampNeg x2, vp_updL (L 2) (I 3).toNatClampNeg (x2.toInt64 * 20000), I 3 + 1, vp_updL o (0 : Int32).toNatClampNeg (I 3 + 1 - 1).toInt64, I 3 + 1 - 1, 0, upd (A 0) (I 3).toNatClampNeg x1, upd (A 1) (I 3).toNatClampNeg x2, vp_updL (l9 0) (3 + I 3).toNatClampNeg (20000 * x2.toInt64), I 3 + 1, ?_, ?_, rfl, (lg_cmp_eq _ _).2 pk_uLs, ?_⟩
        · simp only [fn_Law_wall, fn_Room_wall, fn_Walls_append, pu_rsp, pu_rin, if_pos c1, if_pos c2, if_pos c3, if_pos ix]
          rfl
        · simp only [fn_Model_wall, e1, e2, e3, pu_mw, if_neg n1, if_pos c2, if_pos c3, if_pos ix, if_pos ix2]
          rfl
        · refine ⟨h1, ⟨rfl, rfl, rfl, ?_, ?_, ?_⟩, h3, h4, ⟨?_, ?_, ?_, ?_, ?_⟩, h6, h7, h8, h9, h10, h11, h12, h13, h14, h15, h16, h17⟩
          · show 0 ≤ (I 3 + 1).toInt
            omega
          · show (I 3 + 1).toInt ≤ 5
            omega
          · intro k hk
            have hk : (k : Int) < (I 3 + 1).toInt := hk
            show 0 < (upd (A 1) (I 3).toNatClampNeg x2 k).toInt
            by_cases hq : k = (I 3).toNatClampNeg
            · rw [hq, pk_us]
              have z : (1 : Int32).toInt = 1 := rfl
              have z2 := Int32.le_iff_toInt_le.1 c3.1
              omega
            · rw [pk_un hq]
              exact bc k (by omega)
          · show vp_updL (l9 0) (3 + I 3).toNatClampNeg _ 0 = _
            rw [pk_uLn (by omega)]
            exact h5.1
          · show vp_updL (l9 0) (3 + I 3).toNatClampNeg _ 1 = _
            rw [pk_uLn (by omega)]
            exact h5.2.1
          · show vp_updL (l9 0) (3 + I 3).toNatClampNeg _ 2 = _
            rw [pk_uLn (by omega)]
            exact h5.2.2.1
          · intro k hk
            show vp_updL (l9 0) (3 + I 3).toNatClampNeg _ (3 + k) = vp_updL (L 2) (I 3).toNatClampNeg _ k
            by_cases hq : k = (I 3).toNatClampNeg
            · rw [d0.2, hq, pk_uLs, pk_uLs, Int64.mul_comm]
            · rw [d0.2, pk_uLn hq, pk_uLn (by omega)]
              exact h5.2.2.2.1 k hk
          · intro k hk
            show vp_updL (l9 0) (3 + I 3).toNatClampNeg _ (8 + k) = _
            rw [pk_uLn (by omega)]
            exact h5.2.2.2.2 k hk
      · refine Or.inr (Or.inr ⟨0, 2, a 0, a 1, l9 0, i 3, ?_, ?_, rfl, ⟨h1, h2, h3, h4, h5, h6, h7, h8, h9, h10, h11, h12, h13, h14, h15, h16, h17⟩⟩)
        · simp only [fn_Room_wall, pu_rsp, pu_rin, if_pos c1, if_pos c2, if_neg c3]
          rfl
        · simp only [fn_Model_wall, e1, e2, e3, pu_mw, if_neg n1, if_pos c2, if_neg c3]
          rfl
    · refine Or.inr (Or.inr ⟨0, 2, a 0, a 1, l9 0, i 3, ?_, ?_, rfl, ⟨h1, h2, h3, h4, h5, h6, h7, h8, h9, h10, h11, h12, h13, h14, h15, h16, h17⟩⟩)
      · simp only [fn_Room_wall, pu_rsp, pu_rin, if_pos c1, if_neg c2]
        rfl
      · simp only [fn_Model_wall, e1, e2, e3, pu_mw, if_neg n1, if_neg c2]
        rfl
  · have n1 : (5 : Int32) ≤ I 3 := Int32.not_lt.1 c1
    refine Or.inr (Or.inl ⟨0, 1, a 0, a 1, l9 0, i 3, ?_, ?_, rfl, ⟨h1, h2, h3, h4, h5, h6, h7, h8, h9, h10, h11, h12, h13, h14, h15, h16, h17⟩⟩)
    · simp only [fn_Room_wall, pu_rsp, if_neg c1]
      rfl
    · simp only [fn_Model_wall, e1, e2, e3, pu_mw, if_pos n1]
      by_cases c2 : (0 : Int32) ≤ x1 ∧ x1 ≤ 100
      · by_cases c3 : (1 : Int32) ≤ x2 ∧ x2 ≤ 1000
        · simp only [if_pos c2, if_pos c3]
          rfl
        · simp only [if_pos c2, if_neg c3]
          rfl
      · simp only [if_neg c2]
        rfl
theorem ps_degrees {I : Nat → Int32} {J : Nat → Int64} {A : Nat → Nat → Int32} {L : Nat → Nat → Int64} {i : Nat → Int32} {a : Nat → Nat → Int32} {l9 : Nat → Nat → Int64} (h : pu_Rel I J A L i a l9) (o : Nat → Int64) : st_degrees pu_Rel I J A L i a l9 o  := by
  obtain ⟨h1, h2, h3, h4, h5, h6, h7, h8, h9, h10, h11, h12, h13, h14, h15, h16, h17⟩ := h
  unfold st_degrees
  have hv : 0 < (I 1).toInt := by
    have z := h1.2.2.1
    omega
  refine ⟨(pu_by (J 0) (I 1).toInt64).toInt32, (pu_by (J 0) (I 1).toInt64).toInt32, 0, ?_, ?_, rfl, ⟨h1, h2, h3, h4, h5, h6, h7, h8, h9, h10, h11, h12, h13, h14, h15, h16, h17⟩⟩
  · simp only [fn_Room_degrees, pu_warm hv]
    rfl
  · simp only [fn_Model_degrees, h1.1, pu_mdeg hv, h5.1]
    rfl
theorem ps_damp {I : Nat → Int32} {J : Nat → Int64} {A : Nat → Nat → Int32} {L : Nat → Nat → Int64} {i : Nat → Int32} {a : Nat → Nat → Int32} {l9 : Nat → Nat → Int64} (h : pu_Rel I J A L i a l9) (o : Nat → Int64) : st_damp pu_Rel I J A L i a l9 o  := by
  obtain ⟨h1, h2, h3, h4, h5, h6, h7, h8, h9, h10, h11, h12, h13, h14, h15, h16, h17⟩ := h
  unfold st_damp
  have hv : 0 < (I 1).toInt := by
    have z := h1.2.2.1
    omega
  refine ⟨(pu_by (J 1) (I 1).toInt64).toInt32, (pu_by (J 1) (I 1).toInt64).toInt32, 0, ?_, ?_, rfl, ⟨h1, h2, h3, h4, h5, h6, h7, h8, h9, h10, h11, h12, h13, h14, h15, h16, h17⟩⟩
  · simp only [fn_Room_damp, pu_mois hv]
    rfl
  · simp only [fn_Model_damp, h1.1, pu_mdam hv, h5.2.1]
    rfl
theorem ps_held {I : Nat → Int32} {J : Nat → Int64} {A : Nat → Nat → Int32} {L : Nat → Nat → Int64} {i : Nat → Int32} {a : Nat → Nat → Int32} {l9 : Nat → Nat → Int64} (h : pu_Rel I J A L i a l9) (o : Nat → Int64) : st_held pu_Rel I J A L i a l9 o  := by
  obtain ⟨h1, h2, h3, h4, h5, h6, h7, h8, h9, h10, h11, h12, h13, h14, h15, h16, h17⟩ := h
  unfold st_held
  refine ⟨(J 2).toInt32, (J 2).toInt32, 0, rfl, ?_, rfl, ⟨h1, h2, h3, h4, h5, h6, h7, h8, h9, h10, h11, h12, h13, h14, h15, h16, h17⟩⟩
  simp only [fn_Model_held, if_pos pu_i2]
  rw [show l9 0 (2 : Int32).toNatClampNeg = J 2 from h5.2.2.1]
theorem ps_layer {I : Nat → Int32} {J : Nat → Int64} {A : Nat → Nat → Int32} {L : Nat → Nat → Int64} {i : Nat → Int32} {a : Nat → Nat → Int32} {l9 : Nat → Nat → Int64} (h : pu_Rel I J A L i a l9) (o : Nat → Int64) (x1 : Int32) : st_layer pu_Rel I J A L i a l9 o x1 := by
  obtain ⟨h1, h2, h3, h4, h5, h6, h7, h8, h9, h10, h11, h12, h13, h14, h15, h16, h17⟩ := h
  unfold st_layer
  obtain ⟨e1, e2, e3, b0, b5, bc⟩ := h2
  have h2 : pu_Rwall (I 3) (A 0) (A 1) (i 3) (a 0) (a 1) := ⟨e1, e2, e3, b0, b5, bc⟩
  by_cases c1 : 0 ≤ x1 ∧ x1 < I 3
  · obtain ⟨g0, g1, g2⟩ := pu_nn c1
    have hd : 0 < (A 1 x1.toNatClampNeg).toInt := bc _ (by omega)
    refine Or.inl ⟨vp_updL o (0 : Int32).toNatClampNeg (pu_by (L 2 x1.toNatClampNeg) (A 1 x1.toNatClampNeg).toInt64).toInt32.toInt64, (pu_by (L 2 x1.toNatClampNeg) (A 1 x1.toNatClampNeg).toInt64).toInt32, 0, ?_, ?_, rfl, (lg_cmp_eq _ _).2 pk_uLs, ⟨h1, h2, h3, h4, h5, h6, h7, h8, h9, h10, h11, h12, h13, h14, h15, h16, h17⟩⟩
    · simp only [fn_Law_layer, fn_Room_layer, pu_rix, if_pos c1, pu_lw g0 (by omega : x1.toInt < 5) hd]
      rfl
    · simp only [fn_Model_layer, e1, e3, pu_mla b0, if_pos c1, pu_mlw g0 (by omega : x1.toInt < 5) hd]
      rw [h5.2.2.2.1 _ (by omega)]
      rfl
  · refine Or.inr ⟨0, 1, ?_, ?_, rfl, ⟨h1, h2, h3, h4, h5, h6, h7, h8, h9, h10, h11, h12, h13, h14, h15, h16, h17⟩⟩
    · simp only [fn_Room_layer, pu_rix, if_neg c1]
      rfl
    · simp only [fn_Model_layer, e1, e3, pu_mla b0, if_neg c1]
      rfl
theorem ps_points {I : Nat → Int32} {J : Nat → Int64} {A : Nat → Nat → Int32} {L : Nat → Nat → Int64} {i : Nat → Int32} {a : Nat → Nat → Int32} {l9 : Nat → Nat → Int64} (h : pu_Rel I J A L i a l9) (o : Nat → Int64) (x1 : Int32) : st_points pu_Rel I J A L i a l9 o x1 := by
  obtain ⟨h1, h2, h3, h4, h5, h6, h7, h8, h9, h10, h11, h12, h13, h14, h15, h16, h17⟩ := h
  unfold st_points
  have c9 : ((0 : Int32) ≤ x1 ∧ x1 ≤ 3) ↔ (0 ≤ x1 ∧ x1 < 4) := by
    have z : (3 : Int32).toInt = 3 := rfl
    have z4 : (4 : Int32).toInt = 4 := rfl
    constructor <;> intro q <;> exact ⟨q.1, by
      have q2 := q.2
      first
        | rw [Int32.lt_iff_toInt_lt]; rw [Int32.le_iff_toInt_le] at q2; omega
        | rw [Int32.le_iff_toInt_le]; rw [Int32.lt_iff_toInt_lt] at q2; omega⟩
  by_cases c1 : 0 ≤ x1 ∧ x1 < 4
  · obtain ⟨g0, g1, g2⟩ := pu_nn c1
    have ix : gx_ix x1 4 = true := pu_ix g0 g1
    refine Or.inl ⟨vp_updL o (0 : Int32).toNatClampNeg (A 24 x1.toNatClampNeg).toInt64, A 24 x1.toNatClampNeg, 0, ?_, ?_, rfl, (lg_cmp_eq _ _).2 pk_uLs, ⟨h1, h2, h3, h4, h5, h6, h7, h8, h9, h10, h11, h12, h13, h14, h15, h16, h17⟩⟩
    · simp only [fn_Law_points, fn_Room_points, pu_rix, if_pos c1, if_pos ix]
      rfl
    · simp only [fn_Model_points, h11, pu_mw, if_pos (c9.2 c1), if_pos ix]
      rfl
  · refine Or.inr ⟨0, 1, ?_, ?_, rfl, ⟨h1, h2, h3, h4, h5, h6, h7, h8, h9, h10, h11, h12, h13, h14, h15, h16, h17⟩⟩
    · simp only [fn_Room_points, pu_rix, if_neg c1]
      rfl
    · simp only [fn_Model_points, h11, pu_mw, if_neg (fun q => c1 (c9.1 q))]
      rfl
