theorem ps_dew {I : Nat → Int32} {J : Nat → Int64} {A : Nat → Nat → Int32} {L : Nat → Nat → Int64} {i : Nat → Int32} {a : Nat → Nat → Int32} {l9 : Nat → Nat → Int64} (h : pu_Rel I J A L i a l9) (o : Nat → Int64) (x1 : Int32) : st_dew pu_Rel I J A L i a l9 o x1 := by
  obtain ⟨h1, h2, h3, h4, h5, h6, h7, h8, h9, h10, h11, h12, h13, h14, h15, h16, h17⟩ := h
  unfold st_dew
  obtain ⟨e1, e2, e3, b0, b5, bc⟩ := h2
  have h2 : pu_Rwall (I 3) (A 0) (A 1) (i 3) (a 0) (a 1) := ⟨e1, e2, e3, b0, b5, bc⟩
  have hv : 0 < (I 1).toInt := by
    have z := h1.2.2.1
    omega
  by_cases c1 : 0 ≤ x1 ∧ x1 < I 3
  · obtain ⟨g0, g1, g2⟩ := pu_nn c1
    have g5 : x1.toInt < 5 := by omega
    have g3 : x1.toNatClampNeg < 5 := by omega
    have hd : 0 < (A 1 x1.toNatClampNeg).toInt := bc _ (by omega)
    by_cases c5 : pu_by (J 1) (I 1).toInt64 ≤ (if 0 < pu_by (L 2 x1.toNatClampNeg) (A 1 x1.toNatClampNeg).toInt64 then pu_by (L 2 x1.toNatClampNeg) (A 1 x1.toNatClampNeg).toInt64 else 0)
    · skip
      refine Or.inl ⟨vp_updL o (0 : Int32).toNatClampNeg 0, 0, 0, ?_, ?_, rfl, ⟨fun _ => (lg_cmp_eq _ _).2 pk_uLs, fun hh => absurd rfl hh⟩, ⟨h1, h2, h3, h4, h5, h6, h7, h8, h9, h10, h11, h12, h13, h14, h15, h16, h17⟩⟩
      · simp only [fn_Law_dew, fn_Room_dew, pu_rix, if_pos c1, pu_mois hv, pu_lw g0 g5 hd, pu_b1, if_pos ((lg_cmp_le _ _).2 c5)] <;> rfl
      · have mx := pu_max0 (pu_by (L 2 x1.toNatClampNeg) (A 1 x1.toNatClampNeg).toInt64)
        by_cases c6 : 0 ≤ lg_cmp (pu_by (L 2 x1.toNatClampNeg) (A 1 x1.toNatClampNeg).toInt64) 0
        · rw [if_pos c6] at mx
          rw [← mx] at c5
          simp only [fn_Model_dew, e1, e3, h1.1, pu_mla b0, pu_b1, if_pos c1, pu_goes, if_neg pu_n0, pu_b2, pu_mlw g0 g5 hd, h5.2.2.2.1 _ g3, if_pos c6, pu_mdam hv, h5.2.1, if_pos ((lg_cmp_le _ _).2 c5)] <;> rfl
        · rw [if_neg c6] at mx
          rw [← mx] at c5
          simp only [fn_Model_dew, e1, e3, h1.1, pu_mla b0, pu_b1, if_pos c1, pu_goes, if_neg pu_n0, pu_b2, pu_mlw g0 g5 hd, h5.2.2.2.1 _ g3, if_neg c6, pu_mdam hv, h5.2.1, if_pos ((lg_cmp_le _ _).2 c5)] <;> rfl
    · skip
      refine Or.inl ⟨vp_updL o (0 : Int32).toNatClampNeg 1, 1, 0, ?_, ?_, rfl, ⟨fun hh => absurd hh pu_n0, fun _ => (lg_cmp_eq _ _).2 pk_uLs⟩, ⟨h1, h2, h3, h4, h5, h6, h7, h8, h9, h10, h11, h12, h13, h14, h15, h16, h17⟩⟩
      · simp only [fn_Law_dew, fn_Room_dew, pu_rix, if_pos c1, pu_mois hv, pu_lw g0 g5 hd, pu_b1, if_neg (fun hh => c5 ((lg_cmp_le _ _).1 hh))] <;> rfl
      · have mx := pu_max0 (pu_by (L 2 x1.toNatClampNeg) (A 1 x1.toNatClampNeg).toInt64)
        by_cases c6 : 0 ≤ lg_cmp (pu_by (L 2 x1.toNatClampNeg) (A 1 x1.toNatClampNeg).toInt64) 0
        · rw [if_pos c6] at mx
          rw [← mx] at c5
          simp only [fn_Model_dew, e1, e3, h1.1, pu_mla b0, pu_b1, if_pos c1, pu_goes, if_neg pu_n0, pu_b2, pu_mlw g0 g5 hd, h5.2.2.2.1 _ g3, if_pos c6, pu_mdam hv, h5.2.1, if_neg (fun hh => c5 ((lg_cmp_le _ _).1 hh))] <;> rfl
        · rw [if_neg c6] at mx
          rw [← mx] at c5
          simp only [fn_Model_dew, e1, e3, h1.1, pu_mla b0, pu_b1, if_pos c1, pu_goes, if_neg pu_n0, pu_b2, pu_mlw g0 g5 hd, h5.2.2.2.1 _ g3, if_neg c6, pu_mdam hv, h5.2.1, if_neg (fun hh => c5 ((lg_cmp_le _ _).1 hh))] <;> rfl
  · refine Or.inr ⟨0, 1, ?_, ?_, rfl, ⟨h1, h2, h3, h4, h5, h6, h7, h8, h9, h10, h11, h12, h13, h14, h15, h16, h17⟩⟩
    · simp only [fn_Room_dew, pu_rix, if_neg c1] <;> rfl
    · simp only [fn_Model_dew, e1, pu_mla b0, pu_b1, if_neg c1] <;> rfl
theorem ps_book {I : Nat → Int32} {J : Nat → Int64} {A : Nat → Nat → Int32} {L : Nat → Nat → Int64} {i : Nat → Int32} {a : Nat → Nat → Int32} {l9 : Nat → Nat → Int64} (h : pu_Rel I J A L i a l9) (o : Nat → Int64) (x1 x2 : Int32) : st_book pu_Rel I J A L i a l9 o x1 x2 := by
  obtain ⟨h1, h2, h3, h4, h5, h6, h7, h8, h9, h10, h11, h12, h13, h14, h15, h16, h17⟩ := h
  unfold st_book
  have z : (0 : Int32).toInt = 0 := rfl
  have z1 : (1 : Int32).toInt = 1 := rfl
  have z2 : (2 : Int32).toInt = 2 := rfl
  have z4 : (4 : Int32).toInt = 4 := rfl
  have z5 : (5 : Int32).toInt = 5 := rfl
  have zm : (-1 : Int32).toInt = -1 := rfl
  by_cases c2 : 0 ≤ x2 ∧ x2 < 2
  · have w2 : (0 : Int32) ≤ x2 ∧ x2 ≤ 1 := ⟨c2.1, by
      have q := Int32.lt_iff_toInt_lt.1 c2.2
      rw [Int32.le_iff_toInt_le]
      omega⟩
    have x2e : x2 = 0 ∨ x2 = 1 := by
      have q := Int32.lt_iff_toInt_lt.1 c2.2
      have q1 := Int32.le_iff_toInt_le.1 c2.1
      by_cases q2 : x2.toInt = 0
      · exact Or.inl (Int32.toInt_inj.1 q2)
      · exact Or.inr (Int32.toInt_inj.1 (by omega))
    by_cases c1 : x1 = -1
    · rcases x2e with hx2 | hx2
      · refine Or.inl ⟨vp_updL o (0 : Int32).toNatClampNeg (J 0), J 0, 0, ?_, ?_, rfl, (lg_cmp_eq _ _).2 pk_uLs, ⟨h1, h2, h3, h4, h5, h6, h7, h8, h9, h10, h11, h12, h13, h14, h15, h16, h17⟩⟩
        · rw [c1, hx2]
          rfl
        · rw [c1, hx2]
          show some (l9 0 0, (0 : Int32)) = _
          rw [h5.1]
      · refine Or.inl ⟨vp_updL o (0 : Int32).toNatClampNeg (J 1), J 1, 0, ?_, ?_, rfl, (lg_cmp_eq _ _).2 pk_uLs, ⟨h1, h2, h3, h4, h5, h6, h7, h8, h9, h10, h11, h12, h13, h14, h15, h16, h17⟩⟩
        · rw [c1, hx2]
          rfl
        · rw [c1, hx2]
          show some (l9 0 1, (0 : Int32)) = _
          rw [h5.2.1]
    · by_cases c3 : 0 ≤ x1 ∧ x1 < 5
      · obtain ⟨g0, g1, g2⟩ := pu_nn c3
        have g1 : x1.toInt < 5 := g1
        have g5 : x1.toNatClampNeg < 5 := by omega
        have ix5 : gx_ix x1 5 = true := pu_ix g0 g1
        have w1 : (-1 : Int32) ≤ x1 ∧ x1 ≤ 4 := by
          rw [Int32.le_iff_toInt_le, Int32.le_iff_toInt_le]
          omega
        rcases x2e with hx2 | hx2
        · subst hx2
          have e5 := pu_a3 (k := x1) (n := 0) 0 rfl (by omega) g0 (by omega)
          have ix10 : gx_ix (0 + x1) 10 = true := pu_ix (by omega) (by omega)
          refine Or.inl ⟨vp_updL o (0 : Int32).toNatClampNeg (L 0 x1.toNatClampNeg), L 0 x1.toNatClampNeg, 0, ?_, ?_, rfl, (lg_cmp_eq _ _).2 pk_uLs, ⟨h1, h2, h3, h4, h5, h6, h7, h8, h9, h10, h11, h12, h13, h14, h15, h16, h17⟩⟩
          · simp only [fn_Law_book, fn_Room_book, pu_rix, if_pos c2, if_neg c1, if_pos c3, if_pos ix5, ↓reduceIte] <;> rfl
          · have e9 : l9 2 (0 + x1).toNatClampNeg = L 0 x1.toNatClampNeg := by
              rw [e5.2, Nat.zero_add]
              exact (h6 _ g5).1
            simp only [fn_Model_book, pu_mw, pu_b1, if_pos w1, if_pos w2, if_neg pu_n0, pu_goes, pu_b2, if_neg c1, show (5 : Int32) * 0 = 0 from rfl, if_pos ix10, e9, ↓reduceIte] <;> rfl
        · subst hx2
          have e5 := pu_a3 (k := x1) (n := 5) 5 rfl (by omega) g0 (by omega)
          have ix10 : gx_ix (5 + x1) 10 = true := pu_ix (by omega) (by omega)
          refine Or.inl ⟨vp_updL o (0 : Int32).toNatClampNeg (L 1 x1.toNatClampNeg), L 1 x1.toNatClampNeg, 0, ?_, ?_, rfl, (lg_cmp_eq _ _).2 pk_uLs, ⟨h1, h2, h3, h4, h5, h6, h7, h8, h9, h10, h11, h12, h13, h14, h15, h16, h17⟩⟩
          · simp only [fn_Law_book, fn_Room_book, pu_rix, if_pos c2, if_neg c1, if_pos c3, if_pos ix5, ↓reduceIte] <;> rfl
          · have e9 : l9 2 (5 + x1).toNatClampNeg = L 1 x1.toNatClampNeg := by
              rw [e5.2]
              exact (h6 _ g5).2
            simp only [fn_Model_book, pu_mw, pu_b1, if_pos w1, if_pos w2, if_neg pu_n0, pu_goes, pu_b2, if_neg c1, show (5 : Int32) * 1 = 5 from rfl, if_pos ix10, e9, ↓reduceIte] <;> rfl
      · have w1 : ¬ ((-1 : Int32) ≤ x1 ∧ x1 ≤ 4) := by
          rintro ⟨p1, p2⟩
          apply c3
          have n1 : x1.toInt ≠ -1 := fun hh => c1 (Int32.toInt_inj.1 hh)
          rw [Int32.le_iff_toInt_le] at p1 p2
          rw [Int32.le_iff_toInt_le, Int32.lt_iff_toInt_lt]
          omega
        refine Or.inr ⟨0, 1, ?_, ?_, rfl, ⟨h1, h2, h3, h4, h5, h6, h7, h8, h9, h10, h11, h12, h13, h14, h15, h16, h17⟩⟩
        · simp only [fn_Room_book, pu_rix, if_pos c2, if_neg c1, if_neg c3] <;> rfl
        · simp only [fn_Model_book, pu_mw, pu_b1, if_neg w1] <;> rfl
  · have w2 : ¬ ((0 : Int32) ≤ x2 ∧ x2 ≤ 1) := by
      rintro ⟨p1, p2⟩
      apply c2
      rw [Int32.le_iff_toInt_le] at p1 p2
      rw [Int32.le_iff_toInt_le, Int32.lt_iff_toInt_lt]
      omega
    refine Or.inr ⟨0, 1, ?_, ?_, rfl, ⟨h1, h2, h3, h4, h5, h6, h7, h8, h9, h10, h11, h12, h13, h14, h15, h16, h17⟩⟩
    · simp only [fn_Room_book, pu_rix, if_neg c2] <;> rfl
    · by_cases w1 : (-1 : Int32) ≤ x1 ∧ x1 ≤ 4
      · simp only [fn_Model_book, pu_mw, pu_b1, if_pos w1, if_neg w2] <;> rfl
      · simp only [fn_Model_book, pu_mw, pu_b1, if_neg w1] <;> rfl
